/-! THE CLASS (13): a field, the whole text -/
def fE (x : Nat → Nat) (f : Nat) : Nat → Nat → Nat ⊕ Nat
  | 0, p => .inl p
  | k + 1, p => match item x p f with
    | .inl q => .inl q
    | .inr d => if x d.1 = 44 then fE x f k (d.1 + 1) else .inr d.1
def fH (x : Nat → Nat) (f v : Nat) : Nat → Nat → Bool
  | 0, _ => false
  | k + 1, p => match item x p f with
    | .inl _ => false
    | .inr d => inIt f d.2.1 d.2.2.1 d.2.2.2 v || (if x d.1 = 44 then fH x f v k (d.1 + 1) else false)
def FE (x : Nat → Nat) (f p : Nat) : Nat ⊕ Nat := fE x f 61 p
def FH (x : Nat → Nat) (f v p : Nat) : Bool := fH x f v 61 p
theorem item_out {x : Nat → Nat} {L p f : Nat} (h : txE x L) (hp : L ≤ p) : item x p f = .inl p := by
  have h0 := h.1 p hp
  rw [item, if_neg (by omega), if_neg]
  intro z
  have := (isN_in z).1
  rw [dg, if_neg (by rw [h0]; decide)] at this
  omega
theorem fE_fuel {x : Nat → Nat} {L f : Nat} (h : txE x L) (hL : L ≤ 60) : ∀ k p, 61 ≤ p + k → fE x f k p = fE x f (k + 1) p
  | 0, p, hp => by
    rw [fE, fE, item_out h (by omega)]
  | k + 1, p, hp => by
    rw [fE, fE]
    cases e : item x p f with
    | inl q => rfl
    | inr d =>
      have h1 : p < d.1 := by
        rcases Nat.lt_or_ge p L with q | q
        · exact (item_in h (Nat.le_of_lt q) (by rw [e])).1
        · rw [item_out h q] at e; cases e
      simp only
      split
      · exact fE_fuel h hL k (d.1 + 1) (by omega)
      · rfl
theorem fH_fuel {x : Nat → Nat} {L f v : Nat} (h : txE x L) (hL : L ≤ 60) : ∀ k p, 61 ≤ p + k → fH x f v k p = fH x f v (k + 1) p
  | 0, p, hp => by
    rw [fH, fH, item_out h (by omega)]
  | k + 1, p, hp => by
    rw [fH, fH]
    cases e : item x p f with
    | inl q => rfl
    | inr d =>
      have h1 : p < d.1 := by
        rcases Nat.lt_or_ge p L with q | q
        · exact (item_in h (Nat.le_of_lt q) (by rw [e])).1
        · rw [item_out h q] at e; cases e
      simp only
      split
      · rw [fH_fuel h hL k (d.1 + 1) (by omega)]
      · rfl
theorem FE_l {x : Nat → Nat} {p f q : Nat} (e : item x p f = .inl q) : FE x f p = .inl q := by rw [FE, fE, e]
theorem FH_l {x : Nat → Nat} {p f v q : Nat} (e : item x p f = .inl q) : FH x f v p = false := by rw [FH, fH, e]
theorem FE_r {x : Nat → Nat} {L p f a lo hi st : Nat} (h : txE x L) (hL : L ≤ 60) (e : item x p f = .inr (a, lo, hi, st)) : FE x f p = if x a = 44 then FE x f (a + 1) else .inr a := by
  rw [FE, fE, e]
  simp only
  split
  · exact fE_fuel h hL 60 (a + 1) (by omega)
  · rfl
theorem FH_r {x : Nat → Nat} {L p f v a lo hi st : Nat} (h : txE x L) (hL : L ≤ 60) (e : item x p f = .inr (a, lo, hi, st)) : FH x f v p = (inIt f lo hi st v || (if x a = 44 then FH x f v (a + 1) else false)) := by
  rw [FH, fH, e]
  simp only
  split
  · rw [FH, fH_fuel h hL 60 (a + 1) (by omega)]
  · rfl
def dueC (f : Nat) : Nat := if f = 4 then 0 else 32
def rK (f : Nat) (S S' : gS) : Prop := gL S' = gL S ∧ fR S' = fR S ∧ aR S' = aR S ∧ aI S' = aI S ∧ (∀ g j t, g ≠ 132 → g ≠ 133 → fI S' g j t = fI S g j t) ∧ ∀ k j i, ¬ (k = 11 ∧ j = 0 ∧ i = f) → aL S' k j i = aL S k j i
theorem rK.rf {f : Nat} {S : gS} : rK f S S := ⟨rfl, rfl, rfl, rfl, fun _ _ _ _ _ => rfl, fun _ _ _ _ => rfl⟩
theorem rK.tr {f : Nat} {S S1 S2 : gS} (h : rK f S S1) (h2 : rK f S1 S2) : rK f S S2 := by
  obtain ⟨a1, a2, a3, a4, a5, a6⟩ := h
  obtain ⟨b1, b2, b3, b4, b5, b6⟩ := h2
  exact ⟨b1.trans a1, b2.trans a2, b3.trans a3, b4.trans a4, fun g j t h1 h2 => (b5 g j t h1 h2).trans (a5 g j t h1 h2), fun k j i hk => (b6 k j i hk).trans (a6 k j i hk)⟩
theorem rK_132 {f : Nat} {S : gS} {v : Int32} : rK f S (sfI S 132 0 0 v) := ⟨rfl, rfl, rfl, rfl, fun g j t h1 _ => fI_ne h1, fun _ _ _ _ => rfl⟩
theorem rK_133 {f : Nat} {S : gS} {v : Int32} : rK f S (sfI S 133 0 0 v) := ⟨rfl, rfl, rfl, rfl, fun g j t _ h1 => fI_ne h1, fun _ _ _ _ => rfl⟩
theorem rK_add {f lo st k n : Nat} {S : gS} : rK f S (tAdd f lo st k n S) := by
  obtain ⟨h1, h2, h3, h4, h5, h6⟩ := tAdd_keep (f := f) (lo := lo) (st := st) k n S
  exact ⟨h3, h2, h4, h5, fun g j t _ _ => by rw [h1], h6⟩
theorem xc_eq {S S' : gS} (h1 : fI S' 193 0 0 = fI S 193 0 0) (h2 : aI S' = aI S) : xc S' = xc S := by
  funext p
  rw [xc, xc, xl, xl, h1, h2]
theorem TextOk.of {S S' : gS} (h : TextOk S) (h1 : fI S' 193 0 0 = fI S 193 0 0) (h2 : aI S' = aI S) : TextOk S' := by
  unfold TextOk
  rw [xc_eq h1 h2, xl, h1, h2]
  exact h
theorem RdOk.of {S S' : gS} (h : RdOk S) (k1 : gL S' = gL S) (k2 : fR S' = fR S) (h1 : fI S' 193 0 0 = fI S 193 0 0) (h2 : aI S' = aI S) : RdOk S' := by
  obtain ⟨a1, a2, a3, a4, a5, a6, a7, a8⟩ := h
  exact ⟨by rw [lv, k1]; exact a1, by rw [lv, k1]; exact a2, by rw [lv, k1]; exact a3, by rw [lv, k1]; exact a4, by rw [k2]; exact a5, by rw [k2]; exact a6, by rw [k2]; exact a7, a8.of h1 h2⟩
theorem RdOk.rk {f : Nat} {S S' : gS} (h : RdOk S) (k : rK f S S') : RdOk S' := h.of k.1 k.2.1 (k.2.2.2.2.1 193 0 0 (by decide) (by decide)) k.2.2.2.1
theorem xc_rk {f : Nat} {S S' : gS} (k : rK f S S') : xc S' = xc S := xc_eq (k.2.2.2.2.1 193 0 0 (by decide) (by decide)) k.2.2.2.1
/-- the state before a field's first item -/
def tFl (x : Nat → Nat) (f p : Nat) (S : gS) : gS := if f = 2 then sfI (saL S 11 0 f 0) 130 0 0 (bI (decide (x p = 42))) else if f = 4 then sfI (saL S 11 0 f 0) 131 0 0 (bI (decide (x p = 42))) else saL S 11 0 f 0
/-- what a field came to -/
def rOut (x : Nat → Nat) (f p : Nat) (S' : gS) : Prop := (∃ q, fI S' 133 0 0 = nI q ∧ q ≤ 60 ∧ (FE x f p = .inl q ∨ (FE x f p = .inr q ∧ x q ≠ dueC f))) ∨ ∃ e, FE x f p = .inr e ∧ x e = dueC f ∧ e ≤ 60 ∧ fI S' 133 0 0 = -1 ∧ fI S' 132 0 0 = nI (e + 1) ∧ ∀ v, v < 64 → eBit (aL S' 11 0 f) v = FH x f v p
theorem eBit_z (v : Nat) : eBit 0 v = false := by
  show (0 : Int64).toBitVec.getLsbD v = false
  rw [show (0 : Int64).toBitVec = 0#64 from rfl, BitVec.getLsbD_zero]
set_option maxRecDepth 100000 in
set_option maxHeartbeats 2000000 in
theorem kX4_readEndOfField {E : gE} {S : gS} {x : Nat → Nat} {p f : Nat} {Q : Option gV → gS → Prop} (hR : RdOk S) (hx : xc S = x) (hf : f < 5) (hp : fI S 132 0 0 = nI p) (hp2 : p ≤ xl S) (hQ : Q none (if x p = dueC f then sfI S 132 0 0 (nI (p + 1)) else sfI S 133 0 0 (nI p))) : gRun E mX4_readEndOfField 2 0 0 [vR 4 0 0, vI (nI f)] S [] Q := by
  refine gRun_of (ls := [some (vR 4 0 0), some (vI (nI f)), none]) rfl (Nat.le_of_ble_eq_true rfl) rfl (fun ad => ?_)
  obtain ⟨l4, l6, l10, l11, r128, r129, r192, hX⟩ := id hR
  have h60 := hX.2.1
  have hxp : x p ≤ 126 := by rw [← hx]; exact xc_le hX p
  by_cases hf4 : f = 4
  · subst hf4
    rw [dueC, if_pos rfl] at hQ
    refine g_iload_n (pc' := 1) dX4_readEndOfField_0 rfl rfl ?_
    refine g_iconst (pc' := 2) (v := 4) dX4_readEndOfField_1 rfl rfl ?_
    refine g_icmp_ne dX4_readEndOfField_2 (tg := 9) (pc' := 5) (by decide) rfl (fun h2 => absurd rfl h2) (fun h2 => ?_)
    refine g_iconst (pc' := 6) (v := 0) dX4_readEndOfField_5 rfl rfl ?_
    refine g_goto dX4_readEndOfField_6 (pc' := 11) (by decide) ?_
    refine gistore_n2 (pc' := 12) dX4_readEndOfField_11 rfl (Nat.le_of_ble_eq_true rfl) rfl ?_
    refine g_aload_n (pc' := 13) dX4_readEndOfField_12 rfl rfl ?_
    refine ggX4_12 (pc' := 16) rfl dX4_readEndOfField_13 rfl l4 r128 ?_
    refine g_aload_n (pc' := 17) dX4_readEndOfField_16 rfl rfl ?_
    refine ggX4_29 (pc' := 20) rfl dX4_readEndOfField_17 rfl l4 ?_
    rw [hp]
    refine gcv1 (pc' := 23) cwX4_45 cf6 dX4_readEndOfField_20 rfl l6 (Nat.le_of_ble_eq_true rfl) (Nat.le_of_ble_eq_true rfl) (Nat.le_of_ble_eq_true rfl) (Nat.le_of_ble_eq_true rfl) (Nat.le_of_ble_eq_true rfl) (kSignX (x := x) (p := p) hR hx (by omega) ?_)
    refine g_iload_n (pc' := 24) dX4_readEndOfField_23 rfl rfl ?_
    refine g_icmp_ne dX4_readEndOfField_24 (tg := 40) (pc' := 27) (by decide) rfl (fun h24 => ?_) (fun h24 => ?_)
    · refine g_aload_n (pc' := 41) dX4_readEndOfField_40 rfl rfl ?_
      refine g_aload_n (pc' := 42) dX4_readEndOfField_41 rfl rfl ?_
      refine ggX4_29 (pc' := 45) rfl dX4_readEndOfField_42 rfl l4 ?_
      rw [hp]
      refine gpX4_33 (pc' := 48) rfl dX4_readEndOfField_45 rfl l4 ?_
      refine g_vret dX4_readEndOfField_48 rfl (Nat.le_of_ble_eq_true rfl) (Nat.le_of_ble_eq_true rfl) ?_
      first
        | exact gqv hQ (if_neg (fun z => h24 (congrArg nI z)))
        | exact gqv hQ (if_pos ((nI_eq (by omega) (by decide)).mp (Decidable.not_not.mp h24)))
        | exact gqv hQ (if_pos ((nI_eq (b := 32) (by omega) (by decide)).mp h24))
        | exact gqv hQ (if_pos ((nI_eq (b := 0) (by omega) (by decide)).mp h24))
    · refine g_aload_n (pc' := 28) dX4_readEndOfField_27 rfl rfl ?_
      refine g_dup (pc' := 29) dX4_readEndOfField_28 rfl rfl ?_
      refine ggX4_29 (pc' := 32) rfl dX4_readEndOfField_29 rfl l4 ?_
      refine g_iconst (pc' := 33) (v := 1) dX4_readEndOfField_32 rfl rfl ?_
      rw [hp]
      refine g_iadd (pc' := 34) dX4_readEndOfField_33 rfl ?_
      rw [nI_1]
      refine gpX4_29 (pc' := 37) rfl dX4_readEndOfField_34 rfl l4 ?_
      refine g_goto dX4_readEndOfField_37 (pc' := 48) (by decide) ?_
      refine g_vret dX4_readEndOfField_48 rfl (Nat.le_of_ble_eq_true rfl) (Nat.le_of_ble_eq_true rfl) ?_
      first
        | exact gqv hQ (if_neg (fun z => h24 (congrArg nI z)))
        | exact gqv hQ (if_pos ((nI_eq (by omega) (by decide)).mp (Decidable.not_not.mp h24)))
        | exact gqv hQ (if_pos ((nI_eq (b := 32) (by omega) (by decide)).mp h24))
        | exact gqv hQ (if_pos ((nI_eq (b := 0) (by omega) (by decide)).mp h24))
  · rw [dueC, if_neg hf4] at hQ
    refine g_iload_n (pc' := 1) dX4_readEndOfField_0 rfl rfl ?_
    refine g_iconst (pc' := 2) (v := 4) dX4_readEndOfField_1 rfl rfl ?_
    refine g_icmp_ne dX4_readEndOfField_2 (tg := 9) (pc' := 5) (by decide) rfl (fun h2 => ?_) (fun h2 => absurd h2 (fun z => hf4 ((nI_eq (b := 4) (by omega) (by decide)).mp z)))
    refine g_bipush (pc' := 11) (v := 32) dX4_readEndOfField_9 rfl rfl ?_
    refine gistore_n2 (pc' := 12) dX4_readEndOfField_11 rfl (Nat.le_of_ble_eq_true rfl) rfl ?_
    refine g_aload_n (pc' := 13) dX4_readEndOfField_12 rfl rfl ?_
    refine ggX4_12 (pc' := 16) rfl dX4_readEndOfField_13 rfl l4 r128 ?_
    refine g_aload_n (pc' := 17) dX4_readEndOfField_16 rfl rfl ?_
    refine ggX4_29 (pc' := 20) rfl dX4_readEndOfField_17 rfl l4 ?_
    rw [hp]
    refine gcv1 (pc' := 23) cwX4_45 cf6 dX4_readEndOfField_20 rfl l6 (Nat.le_of_ble_eq_true rfl) (Nat.le_of_ble_eq_true rfl) (Nat.le_of_ble_eq_true rfl) (Nat.le_of_ble_eq_true rfl) (Nat.le_of_ble_eq_true rfl) (kSignX (x := x) (p := p) hR hx (by omega) ?_)
    refine g_iload_n (pc' := 24) dX4_readEndOfField_23 rfl rfl ?_
    refine g_icmp_ne dX4_readEndOfField_24 (tg := 40) (pc' := 27) (by decide) rfl (fun h24 => ?_) (fun h24 => ?_)
    · refine g_aload_n (pc' := 41) dX4_readEndOfField_40 rfl rfl ?_
      refine g_aload_n (pc' := 42) dX4_readEndOfField_41 rfl rfl ?_
      refine ggX4_29 (pc' := 45) rfl dX4_readEndOfField_42 rfl l4 ?_
      rw [hp]
      refine gpX4_33 (pc' := 48) rfl dX4_readEndOfField_45 rfl l4 ?_
      refine g_vret dX4_readEndOfField_48 rfl (Nat.le_of_ble_eq_true rfl) (Nat.le_of_ble_eq_true rfl) ?_
      first
        | exact gqv hQ (if_neg (fun z => h24 (congrArg nI z)))
        | exact gqv hQ (if_pos ((nI_eq (by omega) (by decide)).mp (Decidable.not_not.mp h24)))
        | exact gqv hQ (if_pos ((nI_eq (b := 32) (by omega) (by decide)).mp h24))
        | exact gqv hQ (if_pos ((nI_eq (b := 0) (by omega) (by decide)).mp h24))
    · refine g_aload_n (pc' := 28) dX4_readEndOfField_27 rfl rfl ?_
      refine g_dup (pc' := 29) dX4_readEndOfField_28 rfl rfl ?_
      refine ggX4_29 (pc' := 32) rfl dX4_readEndOfField_29 rfl l4 ?_
      refine g_iconst (pc' := 33) (v := 1) dX4_readEndOfField_32 rfl rfl ?_
      rw [hp]
      refine g_iadd (pc' := 34) dX4_readEndOfField_33 rfl ?_
      rw [nI_1]
      refine gpX4_29 (pc' := 37) rfl dX4_readEndOfField_34 rfl l4 ?_
      refine g_goto dX4_readEndOfField_37 (pc' := 48) (by decide) ?_
      refine g_vret dX4_readEndOfField_48 rfl (Nat.le_of_ble_eq_true rfl) (Nat.le_of_ble_eq_true rfl) ?_
      first
        | exact gqv hQ (if_neg (fun z => h24 (congrArg nI z)))
        | exact gqv hQ (if_pos ((nI_eq (by omega) (by decide)).mp (Decidable.not_not.mp h24)))
        | exact gqv hQ (if_pos ((nI_eq (b := 32) (by omega) (by decide)).mp h24))
        | exact gqv hQ (if_pos ((nI_eq (b := 0) (by omega) (by decide)).mp h24))

set_option maxRecDepth 100000 in
set_option maxHeartbeats 2000000 in
theorem kX4_readField {E : gE} {S : gS} {x : Nat → Nat} {p f : Nat} {Q : Option gV → gS → Prop} (hR : RdOk S) (hx : xc S = x) (hf : f < 5) (hp : fI S 132 0 0 = nI p) (hp2 : p ≤ xl S) (hw : fI S 133 0 0 = -1) (hQ : ∀ S', rK f (tFl x f p S) S' → rOut x f p S' → Q none S') : gRun E mX4_readField 6 0 0 [vR 4 0 0, vI (nI f)] S [] Q := by
  refine gRun_of (ls := [some (vR 4 0 0), some (vI (nI f)), none]) rfl (Nat.le_of_ble_eq_true rfl) rfl (fun ad => ?_)
  obtain ⟨l4, l6, l10, l11, r128, r129, r192, hX⟩ := id hR
  have hE : txE x (xl S) := by rw [← hx]; exact txE_of hX
  have h60 := hX.2.1
  have hne : ∀ a c : Nat, x a ≠ c → c < 2 ^ 31 → ¬ nI (x a) = nI c := fun a c h hc z => h ((nI_eq (by have := txE_le hE a; omega) hc).mp z)
  have hR0 : RdOk (tFl x f p S) ∧ xc (tFl x f p S) = x ∧ fI (tFl x f p S) 132 0 0 = nI p ∧ fI (tFl x f p S) 133 0 0 = -1 ∧ aL (tFl x f p S) 11 0 f = 0 ∧ xl (tFl x f p S) = xl S := by
    unfold tFl
    split
    · exact ⟨hR, hx, hp, hw, if_pos ⟨rfl, rfl, rfl⟩, rfl⟩
    · split
      · exact ⟨hR, hx, hp, hw, if_pos ⟨rfl, rfl, rfl⟩, rfl⟩
      · exact ⟨hR, hx, hp, hw, if_pos ⟨rfl, rfl, rfl⟩, rfl⟩
  have FA : ∀ (T : gS) (q i : Nat) (hF : FE x f p = .inl q ∨ (FE x f p = .inr q ∧ x q ≠ dueC f)) (hq2 : q ≤ 60) (kT : rK f (tFl x f p S) T) (hq : fI T 133 0 0 = nI q), gG E mX4_readField (gBof 6 0 0 ad [] Q) 74 [some (vR 4 0 0), some (vI (nI f)), some (vI (nI i))] [] T 0 0 := by
    intro T q i hF hq2 kT hq
    have l4T : lv T 4 0 0 := (hR0.1.rk kT).1
    refine g_iload_n (pc' := 75) dX4_readField_74 rfl rfl ?_
    refine g_bipush (pc' := 77) (v := 60) dX4_readField_75 rfl rfl ?_
    refine g_icmp_ge dX4_readField_77 (tg := 125) (pc' := 80) (by decide) rfl (fun h77 => ?_) (fun h77 => ?_)
    · refine g_aload_n (pc' := 126) dX4_readField_125 rfl rfl ?_
      refine ggX4_33 (pc' := 129) rfl dX4_readField_126 rfl l4T ?_
      refine g_iconst (pc' := 130) (v := (-1)) dX4_readField_129 rfl rfl ?_
      refine g_icmp_ne dX4_readField_130 (tg := 138) (pc' := 133) (by decide) rfl (fun h130 => ?_) (fun h130 => absurd h130 (by rw [hq]; exact nI_ne1 (by omega)))
      refine g_vret dX4_readField_138 rfl (Nat.le_of_ble_eq_true rfl) (Nat.le_of_ble_eq_true rfl) ?_
      exact hQ T kT (Or.inl ⟨q, hq, hq2, hF⟩)
    · refine g_aload_n (pc' := 81) dX4_readField_80 rfl rfl ?_
      refine ggX4_33 (pc' := 84) rfl dX4_readField_81 rfl l4T ?_
      refine g_iconst (pc' := 85) (v := (-1)) dX4_readField_84 rfl rfl ?_
      refine g_icmp_ne dX4_readField_85 (tg := 125) (pc' := 88) (by decide) rfl (fun h85 => ?_) (fun h85 => absurd h85 (by rw [hq]; exact nI_ne1 (by omega)))
      refine g_aload_n (pc' := 126) dX4_readField_125 rfl rfl ?_
      refine ggX4_33 (pc' := 129) rfl dX4_readField_126 rfl l4T ?_
      refine g_iconst (pc' := 130) (v := (-1)) dX4_readField_129 rfl rfl ?_
      refine g_icmp_ne dX4_readField_130 (tg := 138) (pc' := 133) (by decide) rfl (fun h130 => ?_) (fun h130 => absurd h130 (by rw [hq]; exact nI_ne1 (by omega)))
      refine g_vret dX4_readField_138 rfl (Nat.le_of_ble_eq_true rfl) (Nat.le_of_ble_eq_true rfl) ?_
      exact hQ T kT (Or.inl ⟨q, hq, hq2, hF⟩)
  have LP : ∀ (k e : Nat) (T : gS) (i : Nat) (_ : 60 ≤ e + k) (_ : e ≤ xl S) (_ : i ≤ e) (kT : rK f (tFl x f p S) T) (hwT : fI T 133 0 0 = -1) (hpT : fI T 132 0 0 = nI e) (hb : ∀ v, v < 64 → (eBit (aL T 11 0 f) v || (if x e = 44 then FH x f v (e + 1) else false)) = FH x f v p) (hFE : (if x e = 44 then FE x f (e + 1) else .inr e) = FE x f p), gG E mX4_readField (gBof 6 0 0 ad [] Q) 74 [some (vR 4 0 0), some (vI (nI f)), some (vI (nI i))] [] T 0 0 := by
    intro k
    induction k with
    | zero =>
      intro e T i hk heL hie kT hwT hpT hb hFE
      have hRT := hR0.1.rk kT
      have hxT : xc T = x := (xc_rk kT).trans hR0.2.1
      have hLT : xl T = xl S := by rw [xl, kT.2.2.2.2.1 193 0 0 (by decide) (by decide)]; exact hR0.2.2.2.2.2
      obtain ⟨l4, l6, l10, l11, r128, r129, r192, hX⟩ := id hRT
      have h44 : ¬ x e = 44 := by rw [hE.1 e (by omega)]; decide
      rw [if_neg h44] at hFE
      have endF : Q none (if x e = dueC f then sfI T 132 0 0 (nI (e + 1)) else sfI T 133 0 0 (nI e)) := by
        split
        · rename_i hd
          exact hQ _ (kT.tr rK_132) (Or.inr ⟨e, hFE.symm, hd, by omega, hwT, fI_at, fun v hv => by rw [← hb v hv, if_neg h44, Bool.or_false]; rfl⟩)
        · rename_i hd
          exact hQ _ (kT.tr rK_133) (Or.inl ⟨e, fI_at, by omega, Or.inr ⟨hFE.symm, hd⟩⟩)
      refine g_iload_n (pc' := 75) dX4_readField_74 rfl rfl ?_
      refine g_bipush (pc' := 77) (v := 60) dX4_readField_75 rfl rfl ?_
      refine g_icmp_ge dX4_readField_77 (tg := 125) (pc' := 80) (by decide) rfl (fun h77 => ?_) (fun h77 => ?_)
      · refine g_aload_n (pc' := 126) dX4_readField_125 rfl rfl ?_
        refine ggX4_33 (pc' := 129) rfl dX4_readField_126 rfl l4 ?_
        refine g_iconst (pc' := 130) (v := (-1)) dX4_readField_129 rfl rfl ?_
        refine g_icmp_ne dX4_readField_130 (tg := 138) (pc' := 133) (by decide) rfl (fun h130 => absurd hwT h130) (fun h130 => ?_)
        refine g_aload_n (pc' := 134) dX4_readField_133 rfl rfl ?_
        refine g_iload_n (pc' := 135) dX4_readField_134 rfl rfl ?_
        refine gcv1 (pc' := 138) cwX4_52 cf4 dX4_readField_135 rfl l4 (Nat.le_of_ble_eq_true rfl) (Nat.le_of_ble_eq_true rfl) (Nat.le_of_ble_eq_true rfl) (Nat.le_of_ble_eq_true rfl) (Nat.le_of_ble_eq_true rfl) (kX4_readEndOfField (x := x) (p := e) (f := f) hRT hxT hf hpT (by rw [hLT]; omega) ?_)
        refine g_vret dX4_readField_138 rfl (Nat.le_of_ble_eq_true rfl) (Nat.le_of_ble_eq_true rfl) ?_
        exact endF
      · refine g_aload_n (pc' := 81) dX4_readField_80 rfl rfl ?_
        refine ggX4_33 (pc' := 84) rfl dX4_readField_81 rfl l4 ?_
        refine g_iconst (pc' := 85) (v := (-1)) dX4_readField_84 rfl rfl ?_
        refine g_icmp_ne dX4_readField_85 (tg := 125) (pc' := 88) (by decide) rfl (fun h85 => absurd hwT h85) (fun h85 => ?_)
        refine g_aload_n (pc' := 89) dX4_readField_88 rfl rfl ?_
        refine ggX4_12 (pc' := 92) rfl dX4_readField_89 rfl l4 r128 ?_
        refine g_aload_n (pc' := 93) dX4_readField_92 rfl rfl ?_
        refine ggX4_29 (pc' := 96) rfl dX4_readField_93 rfl l4 ?_
        rw [hpT]
        refine gcv1 (pc' := 99) cwX4_45 cf6 dX4_readField_96 rfl l6 (Nat.le_of_ble_eq_true rfl) (Nat.le_of_ble_eq_true rfl) (Nat.le_of_ble_eq_true rfl) (Nat.le_of_ble_eq_true rfl) (Nat.le_of_ble_eq_true rfl) (kSignX (x := x) (p := e) hRT hxT (by omega) ?_)
        refine g_bipush (pc' := 101) (v := 44) dX4_readField_99 rfl rfl ?_
        refine g_icmp_ne dX4_readField_101 (tg := 125) (pc' := 104) (by decide) rfl (fun h101 => ?_) (fun h101 => absurd h101 (hne e 44 h44 (by decide)))
        refine g_aload_n (pc' := 126) dX4_readField_125 rfl rfl ?_
        refine ggX4_33 (pc' := 129) rfl dX4_readField_126 rfl l4 ?_
        refine g_iconst (pc' := 130) (v := (-1)) dX4_readField_129 rfl rfl ?_
        refine g_icmp_ne dX4_readField_130 (tg := 138) (pc' := 133) (by decide) rfl (fun h130 => absurd hwT h130) (fun h130 => ?_)
        refine g_aload_n (pc' := 134) dX4_readField_133 rfl rfl ?_
        refine g_iload_n (pc' := 135) dX4_readField_134 rfl rfl ?_
        refine gcv1 (pc' := 138) cwX4_52 cf4 dX4_readField_135 rfl l4 (Nat.le_of_ble_eq_true rfl) (Nat.le_of_ble_eq_true rfl) (Nat.le_of_ble_eq_true rfl) (Nat.le_of_ble_eq_true rfl) (Nat.le_of_ble_eq_true rfl) (kX4_readEndOfField (x := x) (p := e) (f := f) hRT hxT hf hpT (by rw [hLT]; omega) ?_)
        refine g_vret dX4_readField_138 rfl (Nat.le_of_ble_eq_true rfl) (Nat.le_of_ble_eq_true rfl) ?_
        exact endF
    | succ k ih =>
      intro e T i hk heL hie kT hwT hpT hb hFE
      have hRT := hR0.1.rk kT
      have hxT : xc T = x := (xc_rk kT).trans hR0.2.1
      have hLT : xl T = xl S := by rw [xl, kT.2.2.2.2.1 193 0 0 (by decide) (by decide)]; exact hR0.2.2.2.2.2
      obtain ⟨l4, l6, l10, l11, r128, r129, r192, hX⟩ := id hRT
      by_cases h44 : x e = 44
      · have heL2 : e < xl S := txE_nz hE (by omega)
        refine g_iload_n (pc' := 75) dX4_readField_74 rfl rfl ?_
        refine g_bipush (pc' := 77) (v := 60) dX4_readField_75 rfl rfl ?_
        refine g_icmp_ge dX4_readField_77 (tg := 125) (pc' := 80) (by decide) rfl (fun h77 => absurd h77 (by rw [show (60 : Int32) = nI 60 from rfl, nI_leI (by omega) (by omega)]; omega)) (fun h77 => ?_)
        refine g_aload_n (pc' := 81) dX4_readField_80 rfl rfl ?_
        refine ggX4_33 (pc' := 84) rfl dX4_readField_81 rfl l4 ?_
        refine g_iconst (pc' := 85) (v := (-1)) dX4_readField_84 rfl rfl ?_
        refine g_icmp_ne dX4_readField_85 (tg := 125) (pc' := 88) (by decide) rfl (fun h85 => absurd hwT h85) (fun h85 => ?_)
        refine g_aload_n (pc' := 89) dX4_readField_88 rfl rfl ?_
        refine ggX4_12 (pc' := 92) rfl dX4_readField_89 rfl l4 r128 ?_
        refine g_aload_n (pc' := 93) dX4_readField_92 rfl rfl ?_
        refine ggX4_29 (pc' := 96) rfl dX4_readField_93 rfl l4 ?_
        rw [hpT]
        refine gcv1 (pc' := 99) cwX4_45 cf6 dX4_readField_96 rfl l6 (Nat.le_of_ble_eq_true rfl) (Nat.le_of_ble_eq_true rfl) (Nat.le_of_ble_eq_true rfl) (Nat.le_of_ble_eq_true rfl) (Nat.le_of_ble_eq_true rfl) (kSignX (x := x) (p := e) hRT hxT (by omega) ?_)
        refine g_bipush (pc' := 101) (v := 44) dX4_readField_99 rfl rfl ?_
        refine g_icmp_ne dX4_readField_101 (tg := 125) (pc' := 104) (by decide) rfl (fun h101 => absurd (congrArg nI h44) h101) (fun h101 => ?_)
        refine g_aload_n (pc' := 105) dX4_readField_104 rfl rfl ?_
        refine g_dup (pc' := 106) dX4_readField_105 rfl rfl ?_
        refine ggX4_29 (pc' := 109) rfl dX4_readField_106 rfl l4 ?_
        rw [hpT]
        refine g_iconst (pc' := 110) (v := 1) dX4_readField_109 rfl rfl ?_
        refine g_iadd (pc' := 111) dX4_readField_110 rfl ?_
        rw [nI_1]
        refine gpX4_29 (pc' := 114) rfl dX4_readField_111 rfl l4 ?_
        refine g_aload_n (pc' := 115) dX4_readField_114 rfl rfl ?_
        refine g_iload_n (pc' := 116) dX4_readField_115 rfl rfl ?_
        refine gcv1 (pc' := 119) cwX4_49 cf4 dX4_readField_116 rfl l4 (Nat.le_of_ble_eq_true rfl) (Nat.le_of_ble_eq_true rfl) (Nat.le_of_ble_eq_true rfl) (Nat.le_of_ble_eq_true rfl) (Nat.le_of_ble_eq_true rfl) (kX4_readItem (S := sfI T 132 0 0 (nI (e + 1))) (x := x) (p := e + 1) (f := f) hRT hxT hf fI_at (by show e + 1 ≤ xl T; rw [hLT]; omega) hwT ?_ ?_)
        · intro q e2 it
          refine giinc2 (pc' := 122) (c := 1) dX4_readField_119 rfl rfl (Nat.le_of_ble_eq_true rfl) rfl ?_
          refine g_goto dX4_readField_122 (pc' := 74) (by decide) ?_
          exact FA _ q _ (by rw [← hFE, if_pos h44]; exact Or.inl (FE_l it)) (by have := item_f hE (by omega) it; omega) (kT.tr (rK_132.tr (rK_132.tr rK_133))) fI_at
        · intro e2 lo hi st it
          have hin := item_in hE (by omega) it
          have hhi := fHi_le f
          have ka := tAdd_keep (f := f) (lo := lo) (st := st) (hi + 1 - lo) lo (sfI (sfI T 132 0 0 (nI (e + 1))) 132 0 0 (nI e2))
          have hw2 : fI (tAdd f lo st (hi + 1 - lo) lo (sfI (sfI T 132 0 0 (nI (e + 1))) 132 0 0 (nI e2))) 133 0 0 = -1 := by rw [ka.1]; exact hwT
          have hp3 : fI (tAdd f lo st (hi + 1 - lo) lo (sfI (sfI T 132 0 0 (nI (e + 1))) 132 0 0 (nI e2))) 132 0 0 = nI e2 := by rw [ka.1]; exact fI_at
          have hb2 : ∀ v, v < 64 → (eBit (aL (tAdd f lo st (hi + 1 - lo) lo (sfI (sfI T 132 0 0 (nI (e + 1))) 132 0 0 (nI e2))) 11 0 f) v || (if x e2 = 44 then FH x f v (e2 + 1) else false)) = FH x f v p := fun v hv => by
            rw [tAdd_bit hv hf _ _ _ (Nat.le_refl _) (by omega), ← hb v hv, if_pos h44, FH_r hE h60 it, ← Bool.or_assoc, inIt, show lo + (hi + 1 - lo) = hi + 1 by omega]
            rfl
          refine giinc2 (pc' := 122) (c := 1) dX4_readField_119 rfl rfl (Nat.le_of_ble_eq_true rfl) rfl ?_
          refine g_goto dX4_readField_122 (pc' := 74) (by decide) ?_
          rw [nI_1]
          exact ih e2 _ (i + 1) (by omega) (by omega) (by omega) (kT.tr (rK_132.tr (rK_132.tr rK_add))) hw2 hp3 hb2 (by rw [← FE_r hE h60 it, ← hFE, if_pos h44])
      · rw [if_neg h44] at hFE
        have endF : Q none (if x e = dueC f then sfI T 132 0 0 (nI (e + 1)) else sfI T 133 0 0 (nI e)) := by
          split
          · rename_i hd
            exact hQ _ (kT.tr rK_132) (Or.inr ⟨e, hFE.symm, hd, by omega, hwT, fI_at, fun v hv => by rw [← hb v hv, if_neg h44, Bool.or_false]; rfl⟩)
          · rename_i hd
            exact hQ _ (kT.tr rK_133) (Or.inl ⟨e, fI_at, by omega, Or.inr ⟨hFE.symm, hd⟩⟩)
        refine g_iload_n (pc' := 75) dX4_readField_74 rfl rfl ?_
        refine g_bipush (pc' := 77) (v := 60) dX4_readField_75 rfl rfl ?_
        refine g_icmp_ge dX4_readField_77 (tg := 125) (pc' := 80) (by decide) rfl (fun h77 => ?_) (fun h77 => ?_)
        · refine g_aload_n (pc' := 126) dX4_readField_125 rfl rfl ?_
          refine ggX4_33 (pc' := 129) rfl dX4_readField_126 rfl l4 ?_
          refine g_iconst (pc' := 130) (v := (-1)) dX4_readField_129 rfl rfl ?_
          refine g_icmp_ne dX4_readField_130 (tg := 138) (pc' := 133) (by decide) rfl (fun h130 => absurd hwT h130) (fun h130 => ?_)
          refine g_aload_n (pc' := 134) dX4_readField_133 rfl rfl ?_
          refine g_iload_n (pc' := 135) dX4_readField_134 rfl rfl ?_
          refine gcv1 (pc' := 138) cwX4_52 cf4 dX4_readField_135 rfl l4 (Nat.le_of_ble_eq_true rfl) (Nat.le_of_ble_eq_true rfl) (Nat.le_of_ble_eq_true rfl) (Nat.le_of_ble_eq_true rfl) (Nat.le_of_ble_eq_true rfl) (kX4_readEndOfField (x := x) (p := e) (f := f) hRT hxT hf hpT (by rw [hLT]; omega) ?_)
          refine g_vret dX4_readField_138 rfl (Nat.le_of_ble_eq_true rfl) (Nat.le_of_ble_eq_true rfl) ?_
          exact endF
        · refine g_aload_n (pc' := 81) dX4_readField_80 rfl rfl ?_
          refine ggX4_33 (pc' := 84) rfl dX4_readField_81 rfl l4 ?_
          refine g_iconst (pc' := 85) (v := (-1)) dX4_readField_84 rfl rfl ?_
          refine g_icmp_ne dX4_readField_85 (tg := 125) (pc' := 88) (by decide) rfl (fun h85 => absurd hwT h85) (fun h85 => ?_)
          refine g_aload_n (pc' := 89) dX4_readField_88 rfl rfl ?_
          refine ggX4_12 (pc' := 92) rfl dX4_readField_89 rfl l4 r128 ?_
          refine g_aload_n (pc' := 93) dX4_readField_92 rfl rfl ?_
          refine ggX4_29 (pc' := 96) rfl dX4_readField_93 rfl l4 ?_
          rw [hpT]
          refine gcv1 (pc' := 99) cwX4_45 cf6 dX4_readField_96 rfl l6 (Nat.le_of_ble_eq_true rfl) (Nat.le_of_ble_eq_true rfl) (Nat.le_of_ble_eq_true rfl) (Nat.le_of_ble_eq_true rfl) (Nat.le_of_ble_eq_true rfl) (kSignX (x := x) (p := e) hRT hxT (by omega) ?_)
          refine g_bipush (pc' := 101) (v := 44) dX4_readField_99 rfl rfl ?_
          refine g_icmp_ne dX4_readField_101 (tg := 125) (pc' := 104) (by decide) rfl (fun h101 => ?_) (fun h101 => absurd h101 (hne e 44 h44 (by decide)))
          refine g_aload_n (pc' := 126) dX4_readField_125 rfl rfl ?_
          refine ggX4_33 (pc' := 129) rfl dX4_readField_126 rfl l4 ?_
          refine g_iconst (pc' := 130) (v := (-1)) dX4_readField_129 rfl rfl ?_
          refine g_icmp_ne dX4_readField_130 (tg := 138) (pc' := 133) (by decide) rfl (fun h130 => absurd hwT h130) (fun h130 => ?_)
          refine g_aload_n (pc' := 134) dX4_readField_133 rfl rfl ?_
          refine g_iload_n (pc' := 135) dX4_readField_134 rfl rfl ?_
          refine gcv1 (pc' := 138) cwX4_52 cf4 dX4_readField_135 rfl l4 (Nat.le_of_ble_eq_true rfl) (Nat.le_of_ble_eq_true rfl) (Nat.le_of_ble_eq_true rfl) (Nat.le_of_ble_eq_true rfl) (Nat.le_of_ble_eq_true rfl) (kX4_readEndOfField (x := x) (p := e) (f := f) hRT hxT hf hpT (by rw [hLT]; omega) ?_)
          refine g_vret dX4_readField_138 rfl (Nat.le_of_ble_eq_true rfl) (Nat.le_of_ble_eq_true rfl) ?_
          exact endF
  have M67 : ∀ (T : gS) (_ : T = tFl x f p S), gG E mX4_readField (gBof 6 0 0 ad [] Q) 67 [some (vR 4 0 0), some (vI (nI f)), none] [] T 0 0 := by
    intro T hT
    have kT : rK f (tFl x f p S) T := by rw [hT]; exact rK.rf
    rw [← hT] at hR0
    obtain ⟨hRT, hxT, hpT, hwT, hzT, hLT⟩ := hR0
    have l4 : lv T 4 0 0 := hRT.1
    clear hR
    refine g_aload_n (pc' := 68) dX4_readField_67 rfl rfl ?_
    refine g_iload_n (pc' := 69) dX4_readField_68 rfl rfl ?_
    refine gcv1 (pc' := 72) cwX4_49 cf4 dX4_readField_69 rfl l4 (Nat.le_of_ble_eq_true rfl) (Nat.le_of_ble_eq_true rfl) (Nat.le_of_ble_eq_true rfl) (Nat.le_of_ble_eq_true rfl) (Nat.le_of_ble_eq_true rfl) (kX4_readItem (x := x) (p := p) (f := f) hRT hxT hf hpT (by rw [hLT]; exact hp2) hwT ?_ ?_)
    · intro q e it
      have item_fl : item x p f = .inl q → FE x f p = .inl q ∨ (FE x f p = .inr q ∧ x q ≠ dueC f) := fun z => Or.inl (FE_l z)
      refine g_iconst (pc' := 73) (v := 1) dX4_readField_72 rfl rfl ?_
      refine gistore_n2 (pc' := 74) dX4_readField_73 rfl (Nat.le_of_ble_eq_true rfl) rfl ?_
      exact FA _ q 1 (item_fl it) (by have := item_f hE hp2 it; omega) (kT.tr (rK_132.tr rK_133)) fI_at
    · intro e lo hi st it
      have hin := item_in hE hp2 it
      have hhi := fHi_le f
      have ka := tAdd_keep (f := f) (lo := lo) (st := st) (hi + 1 - lo) lo (sfI T 132 0 0 (nI e))
      have hw2 : fI (tAdd f lo st (hi + 1 - lo) lo (sfI T 132 0 0 (nI e))) 133 0 0 = -1 := by rw [ka.1]; exact hwT
      have hp3 : fI (tAdd f lo st (hi + 1 - lo) lo (sfI T 132 0 0 (nI e))) 132 0 0 = nI e := by rw [ka.1]; exact fI_at
      have hb : ∀ v, v < 64 → (eBit (aL (tAdd f lo st (hi + 1 - lo) lo (sfI T 132 0 0 (nI e))) 11 0 f) v || (if x e = 44 then FH x f v (e + 1) else false)) = FH x f v p := fun v hv => by
        rw [tAdd_bit hv hf _ _ _ (Nat.le_refl _) (by omega), FH_r hE h60 it, show aL (sfI T 132 0 0 (nI e)) 11 0 f = 0 from hzT, eBit_z, Bool.false_or, inIt, show lo + (hi + 1 - lo) = hi + 1 by omega]
      refine g_iconst (pc' := 73) (v := 1) dX4_readField_72 rfl rfl ?_
      refine gistore_n2 (pc' := 74) dX4_readField_73 rfl (Nat.le_of_ble_eq_true rfl) rfl ?_
      exact LP 60 e _ 1 (by omega) (by omega) (by omega) (kT.tr (rK_132.tr rK_add)) hw2 hp3 hb (FE_r hE h60 it).symm
  clear FA LP hR0
  by_cases hf2 : f = 2
  · subst hf2
    by_cases hs : x p = 42
    · skip
      refine g_aload_n (pc' := 1) dX4_readField_0 rfl rfl ?_
      refine ggX4_18 (pc' := 4) rfl dX4_readField_1 rfl l4 r129 ?_
      refine g_iload_n (pc' := 5) dX4_readField_4 rfl rfl ?_
      refine g_lconst (pc' := 6) (v := 0) dX4_readField_5 rfl rfl ?_
      refine g_last (pc' := 7) (n := 2) dX4_readField_6 rfl (by decide) rfl rfl (show 2 < 5 by decide) l11 ?_
      refine g_iload_n (pc' := 8) dX4_readField_7 rfl rfl ?_
      refine g_iconst (pc' := 9) (v := 2) dX4_readField_8 rfl rfl ?_
      refine g_icmp_ne dX4_readField_9 (tg := 37) (pc' := 12) (by decide) rfl (fun h9 => absurd rfl h9) (fun h9 => ?_)
      refine g_aload_n (pc' := 13) dX4_readField_12 rfl rfl ?_
      refine g_aload_n (pc' := 14) dX4_readField_13 rfl rfl ?_
      refine ggX4_12 (pc' := 17) rfl dX4_readField_14 rfl l4 r128 ?_
      refine g_aload_n (pc' := 18) dX4_readField_17 rfl rfl ?_
      refine ggX4_29 (pc' := 21) rfl dX4_readField_18 rfl l4 ?_
      rw [show fI (saL S 11 0 2 0) 132 0 0 = nI p from hp]
      refine gcv1 (pc' := 24) cwX4_45 cf6 dX4_readField_21 rfl l6 (Nat.le_of_ble_eq_true rfl) (Nat.le_of_ble_eq_true rfl) (Nat.le_of_ble_eq_true rfl) (Nat.le_of_ble_eq_true rfl) (Nat.le_of_ble_eq_true rfl) (kSignX (S := (saL S 11 0 2 0)) (x := x) (p := p) hR hx (by omega) ?_)
      refine g_bipush (pc' := 26) (v := 42) dX4_readField_24 rfl rfl ?_
      refine g_icmp_ne dX4_readField_26 (tg := 33) (pc' := 29) (by decide) rfl (fun h26 => absurd (congrArg nI hs) h26) (fun h26 => ?_)
      refine g_iconst (pc' := 30) (v := 1) dX4_readField_29 rfl rfl ?_
      refine g_goto dX4_readField_30 (pc' := 34) (by decide) ?_
      refine gpX4_22 (pc' := 37) rfl dX4_readField_34 rfl l4 (Or.inr rfl) ?_
      refine g_iload_n (pc' := 38) dX4_readField_37 rfl rfl ?_
      refine g_iconst (pc' := 39) (v := 4) dX4_readField_38 rfl rfl ?_
      refine g_icmp_ne dX4_readField_39 (tg := 67) (pc' := 42) (by decide) rfl (fun h39 => ?_) (fun h39 => absurd h39 (by decide))
      exact M67 _ (by rw [tFl, if_pos rfl, decide_eq_true hs]; rfl)
    · skip
      refine g_aload_n (pc' := 1) dX4_readField_0 rfl rfl ?_
      refine ggX4_18 (pc' := 4) rfl dX4_readField_1 rfl l4 r129 ?_
      refine g_iload_n (pc' := 5) dX4_readField_4 rfl rfl ?_
      refine g_lconst (pc' := 6) (v := 0) dX4_readField_5 rfl rfl ?_
      refine g_last (pc' := 7) (n := 2) dX4_readField_6 rfl (by decide) rfl rfl (show 2 < 5 by decide) l11 ?_
      refine g_iload_n (pc' := 8) dX4_readField_7 rfl rfl ?_
      refine g_iconst (pc' := 9) (v := 2) dX4_readField_8 rfl rfl ?_
      refine g_icmp_ne dX4_readField_9 (tg := 37) (pc' := 12) (by decide) rfl (fun h9 => absurd rfl h9) (fun h9 => ?_)
      refine g_aload_n (pc' := 13) dX4_readField_12 rfl rfl ?_
      refine g_aload_n (pc' := 14) dX4_readField_13 rfl rfl ?_
      refine ggX4_12 (pc' := 17) rfl dX4_readField_14 rfl l4 r128 ?_
      refine g_aload_n (pc' := 18) dX4_readField_17 rfl rfl ?_
      refine ggX4_29 (pc' := 21) rfl dX4_readField_18 rfl l4 ?_
      rw [show fI (saL S 11 0 2 0) 132 0 0 = nI p from hp]
      refine gcv1 (pc' := 24) cwX4_45 cf6 dX4_readField_21 rfl l6 (Nat.le_of_ble_eq_true rfl) (Nat.le_of_ble_eq_true rfl) (Nat.le_of_ble_eq_true rfl) (Nat.le_of_ble_eq_true rfl) (Nat.le_of_ble_eq_true rfl) (kSignX (S := (saL S 11 0 2 0)) (x := x) (p := p) hR hx (by omega) ?_)
      refine g_bipush (pc' := 26) (v := 42) dX4_readField_24 rfl rfl ?_
      refine g_icmp_ne dX4_readField_26 (tg := 33) (pc' := 29) (by decide) rfl (fun h26 => ?_) (fun h26 => absurd h26 (hne p 42 hs (by decide)))
      refine g_iconst (pc' := 34) (v := 0) dX4_readField_33 rfl rfl ?_
      refine gpX4_22 (pc' := 37) rfl dX4_readField_34 rfl l4 (Or.inl rfl) ?_
      refine g_iload_n (pc' := 38) dX4_readField_37 rfl rfl ?_
      refine g_iconst (pc' := 39) (v := 4) dX4_readField_38 rfl rfl ?_
      refine g_icmp_ne dX4_readField_39 (tg := 67) (pc' := 42) (by decide) rfl (fun h39 => ?_) (fun h39 => absurd h39 (by decide))
      exact M67 _ (by rw [tFl, if_pos rfl, decide_eq_false hs]; rfl)
  · by_cases hf4 : f = 4
    · subst hf4
      by_cases hs : x p = 42
      · skip
        refine g_aload_n (pc' := 1) dX4_readField_0 rfl rfl ?_
        refine ggX4_18 (pc' := 4) rfl dX4_readField_1 rfl l4 r129 ?_
        refine g_iload_n (pc' := 5) dX4_readField_4 rfl rfl ?_
        refine g_lconst (pc' := 6) (v := 0) dX4_readField_5 rfl rfl ?_
        refine g_last (pc' := 7) (n := 4) dX4_readField_6 rfl (by decide) rfl rfl (show 4 < 5 by decide) l11 ?_
        refine g_iload_n (pc' := 8) dX4_readField_7 rfl rfl ?_
        refine g_iconst (pc' := 9) (v := 2) dX4_readField_8 rfl rfl ?_
        refine g_icmp_ne dX4_readField_9 (tg := 37) (pc' := 12) (by decide) rfl (fun h9 => ?_) (fun h9 => absurd h9 (by decide))
        refine g_iload_n (pc' := 38) dX4_readField_37 rfl rfl ?_
        refine g_iconst (pc' := 39) (v := 4) dX4_readField_38 rfl rfl ?_
        refine g_icmp_ne dX4_readField_39 (tg := 67) (pc' := 42) (by decide) rfl (fun h39 => absurd rfl h39) (fun h39 => ?_)
        refine g_aload_n (pc' := 43) dX4_readField_42 rfl rfl ?_
        refine g_aload_n (pc' := 44) dX4_readField_43 rfl rfl ?_
        refine ggX4_12 (pc' := 47) rfl dX4_readField_44 rfl l4 r128 ?_
        refine g_aload_n (pc' := 48) dX4_readField_47 rfl rfl ?_
        refine ggX4_29 (pc' := 51) rfl dX4_readField_48 rfl l4 ?_
        rw [show fI (saL S 11 0 4 0) 132 0 0 = nI p from hp]
        refine gcv1 (pc' := 54) cwX4_45 cf6 dX4_readField_51 rfl l6 (Nat.le_of_ble_eq_true rfl) (Nat.le_of_ble_eq_true rfl) (Nat.le_of_ble_eq_true rfl) (Nat.le_of_ble_eq_true rfl) (Nat.le_of_ble_eq_true rfl) (kSignX (S := (saL S 11 0 4 0)) (x := x) (p := p) hR hx (by omega) ?_)
        refine g_bipush (pc' := 56) (v := 42) dX4_readField_54 rfl rfl ?_
        refine g_icmp_ne dX4_readField_56 (tg := 63) (pc' := 59) (by decide) rfl (fun h56 => absurd (congrArg nI hs) h56) (fun h56 => ?_)
        refine g_iconst (pc' := 60) (v := 1) dX4_readField_59 rfl rfl ?_
        refine g_goto dX4_readField_60 (pc' := 64) (by decide) ?_
        refine gpX4_26 (pc' := 67) rfl dX4_readField_64 rfl l4 (Or.inr rfl) ?_
        exact M67 _ (by rw [tFl, if_neg (by decide), if_pos rfl, decide_eq_true hs]; rfl)
      · skip
        refine g_aload_n (pc' := 1) dX4_readField_0 rfl rfl ?_
        refine ggX4_18 (pc' := 4) rfl dX4_readField_1 rfl l4 r129 ?_
        refine g_iload_n (pc' := 5) dX4_readField_4 rfl rfl ?_
        refine g_lconst (pc' := 6) (v := 0) dX4_readField_5 rfl rfl ?_
        refine g_last (pc' := 7) (n := 4) dX4_readField_6 rfl (by decide) rfl rfl (show 4 < 5 by decide) l11 ?_
        refine g_iload_n (pc' := 8) dX4_readField_7 rfl rfl ?_
        refine g_iconst (pc' := 9) (v := 2) dX4_readField_8 rfl rfl ?_
        refine g_icmp_ne dX4_readField_9 (tg := 37) (pc' := 12) (by decide) rfl (fun h9 => ?_) (fun h9 => absurd h9 (by decide))
        refine g_iload_n (pc' := 38) dX4_readField_37 rfl rfl ?_
        refine g_iconst (pc' := 39) (v := 4) dX4_readField_38 rfl rfl ?_
        refine g_icmp_ne dX4_readField_39 (tg := 67) (pc' := 42) (by decide) rfl (fun h39 => absurd rfl h39) (fun h39 => ?_)
        refine g_aload_n (pc' := 43) dX4_readField_42 rfl rfl ?_
        refine g_aload_n (pc' := 44) dX4_readField_43 rfl rfl ?_
        refine ggX4_12 (pc' := 47) rfl dX4_readField_44 rfl l4 r128 ?_
        refine g_aload_n (pc' := 48) dX4_readField_47 rfl rfl ?_
        refine ggX4_29 (pc' := 51) rfl dX4_readField_48 rfl l4 ?_
        rw [show fI (saL S 11 0 4 0) 132 0 0 = nI p from hp]
        refine gcv1 (pc' := 54) cwX4_45 cf6 dX4_readField_51 rfl l6 (Nat.le_of_ble_eq_true rfl) (Nat.le_of_ble_eq_true rfl) (Nat.le_of_ble_eq_true rfl) (Nat.le_of_ble_eq_true rfl) (Nat.le_of_ble_eq_true rfl) (kSignX (S := (saL S 11 0 4 0)) (x := x) (p := p) hR hx (by omega) ?_)
        refine g_bipush (pc' := 56) (v := 42) dX4_readField_54 rfl rfl ?_
        refine g_icmp_ne dX4_readField_56 (tg := 63) (pc' := 59) (by decide) rfl (fun h56 => ?_) (fun h56 => absurd h56 (hne p 42 hs (by decide)))
        refine g_iconst (pc' := 64) (v := 0) dX4_readField_63 rfl rfl ?_
        refine gpX4_26 (pc' := 67) rfl dX4_readField_64 rfl l4 (Or.inl rfl) ?_
        exact M67 _ (by rw [tFl, if_neg (by decide), if_pos rfl, decide_eq_false hs]; rfl)
    · skip
      refine g_aload_n (pc' := 1) dX4_readField_0 rfl rfl ?_
      refine ggX4_18 (pc' := 4) rfl dX4_readField_1 rfl l4 r129 ?_
      refine g_iload_n (pc' := 5) dX4_readField_4 rfl rfl ?_
      refine g_lconst (pc' := 6) (v := 0) dX4_readField_5 rfl rfl ?_
      refine g_last (pc' := 7) (n := f) dX4_readField_6 rfl (by decide) rfl rfl (show f < 5 from hf) l11 ?_
      refine g_iload_n (pc' := 8) dX4_readField_7 rfl rfl ?_
      refine g_iconst (pc' := 9) (v := 2) dX4_readField_8 rfl rfl ?_
      refine g_icmp_ne dX4_readField_9 (tg := 37) (pc' := 12) (by decide) rfl (fun h9 => ?_) (fun h9 => absurd h9 (fun z => hf2 ((nI_eq (b := 2) (by omega) (by decide)).mp z)))
      refine g_iload_n (pc' := 38) dX4_readField_37 rfl rfl ?_
      refine g_iconst (pc' := 39) (v := 4) dX4_readField_38 rfl rfl ?_
      refine g_icmp_ne dX4_readField_39 (tg := 67) (pc' := 42) (by decide) rfl (fun h39 => ?_) (fun h39 => absurd h39 (fun z => hf4 ((nI_eq (b := 4) (by omega) (by decide)).mp z)))
      exact M67 _ (by rw [tFl, if_neg hf2, if_neg hf4])

