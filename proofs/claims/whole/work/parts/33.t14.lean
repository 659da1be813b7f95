/-! THE CLASS (14): the whole text -/
/-- where field f begins -/
def fsx (x : Nat → Nat) : Nat → Nat
  | 0 => 0
  | f + 1 => match FE x f (fsx x f) with
    | .inl _ => 0
    | .inr e => e + 1
/-- the fault from field f on, with k fields left -/
def rd (x : Nat → Nat) : Nat → Nat → Nat → Option Nat
  | 0, _, _ => none
  | k + 1, f, p => match FE x f p with
    | .inl q => some q
    | .inr e => if x e = dueC f then rd x k (f + 1) (e + 1) else some e
def rdK (S S' : gS) : Prop := gL S' = gL S ∧ fR S' = fR S ∧ aR S' = aR S ∧ aI S' = aI S ∧ (∀ g j t, g ≠ 130 → g ≠ 131 → g ≠ 132 → g ≠ 133 → fI S' g j t = fI S g j t) ∧ ∀ k j i, ¬ (k = 11 ∧ j = 0) → aL S' k j i = aL S k j i
theorem rdK.rf {S : gS} : rdK S S := ⟨rfl, rfl, rfl, rfl, fun _ _ _ _ _ _ _ => rfl, fun _ _ _ _ => rfl⟩
theorem rdK.tr {S S1 S2 : gS} (h : rdK S S1) (h2 : rdK S1 S2) : rdK S S2 := by
  obtain ⟨a1, a2, a3, a4, a5, a6⟩ := h
  obtain ⟨b1, b2, b3, b4, b5, b6⟩ := h2
  exact ⟨b1.trans a1, b2.trans a2, b3.trans a3, b4.trans a4, fun g j t h1 h2 h3 h4 => (b5 g j t h1 h2 h3 h4).trans (a5 g j t h1 h2 h3 h4), fun k j i hk => (b6 k j i hk).trans (a6 k j i hk)⟩
theorem rdK.of {f : Nat} {S S' : gS} (h : rK f S S') : rdK S S' := ⟨h.1, h.2.1, h.2.2.1, h.2.2.2.1, fun g j t _ _ h1 h2 => h.2.2.2.2.1 g j t h1 h2, fun k j i hk => h.2.2.2.2.2 k j i (fun z => hk ⟨z.1, z.2.1⟩)⟩
theorem rdK_sfI {S : gS} {g j t : Nat} {v : Int32} (hg : g = 130 ∨ g = 131 ∨ g = 132 ∨ g = 133) : rdK S (sfI S g j t v) := ⟨rfl, rfl, rfl, rfl, fun g' j' t' h1 h2 h3 h4 => fI_ne (by rcases hg with rfl | rfl | rfl | rfl <;> assumption), fun _ _ _ _ => rfl⟩
theorem rdK_saL {S : gS} {i : Nat} {v : Int64} : rdK S (saL S 11 0 i v) := ⟨rfl, rfl, rfl, rfl, fun _ _ _ _ _ _ _ => rfl, fun k j i' hk => if_neg (fun z => hk ⟨z.1, z.2.1⟩)⟩
theorem rdK_tFl {x : Nat → Nat} {f p : Nat} {S : gS} : rdK S (tFl x f p S) := by
  unfold tFl
  split
  · exact rdK_saL.tr (rdK_sfI (Or.inl rfl))
  · split
    · exact rdK_saL.tr (rdK_sfI (Or.inr (Or.inl rfl)))
    · exact rdK_saL
theorem RdOk.rd {S S' : gS} (h : RdOk S) (k : rdK S S') : RdOk S' := h.of k.1 k.2.1 (k.2.2.2.2.1 193 0 0 (by decide) (by decide) (by decide) (by decide)) k.2.2.2.1
theorem xc_rd {S S' : gS} (k : rdK S S') : xc S' = xc S := xc_eq (k.2.2.2.2.1 193 0 0 (by decide) (by decide) (by decide) (by decide)) k.2.2.2.1
theorem xl_rd {S S' : gS} (k : rdK S S') : xl S' = xl S := by rw [xl, xl, k.2.2.2.2.1 193 0 0 (by decide) (by decide) (by decide) (by decide)]
/-- what the fields before f came to -/
def rIn (x : Nat → Nat) (f : Nat) (T : gS) : Prop := (∀ g, g < f → ∀ v, v < 64 → eBit (aL T 11 0 g) v = FH x g v (fsx x g)) ∧ (2 < f → fI T 130 0 0 = bI (decide (x (fsx x 2) = 42))) ∧ (4 < f → fI T 131 0 0 = bI (decide (x (fsx x 4) = 42)))
theorem rIn_next {x : Nat → Nat} {f : Nat} {T S' : gS} (h : rIn x f T) (k : rK f (tFl x f (fsx x f) T) S') (hb : ∀ v, v < 64 → eBit (aL S' 11 0 f) v = FH x f v (fsx x f)) : rIn x (f + 1) S' := by
  obtain ⟨h1, h2, h3⟩ := h
  refine ⟨fun g hg v hv => ?_, fun hf => ?_, fun hf => ?_⟩
  · by_cases e : g = f
    · subst e; exact hb v hv
    · rw [k.2.2.2.2.2 11 0 g (fun z => e z.2.2), show aL (tFl x f (fsx x f) T) 11 0 g = aL T 11 0 g from ?_]
      · exact h1 g (by omega) v hv
      · unfold tFl
        split
        · exact if_neg (fun z => e z.2.2)
        · split
          · exact if_neg (fun z => e z.2.2)
          · exact if_neg (fun z => e z.2.2)
  · rw [k.2.2.2.2.1 130 0 0 (by decide) (by decide)]
    by_cases e : f = 2
    · subst e
      rw [tFl, if_pos rfl]
      exact fI_at
    · rw [← h2 (by omega), tFl, if_neg e]
      split
      · exact fI_ne (by decide)
      · rfl
  · rw [k.2.2.2.2.1 131 0 0 (by decide) (by decide)]
    by_cases e : f = 4
    · subst e
      rw [tFl, if_neg (by decide), if_pos rfl]
      exact fI_at
    · rw [← h3 (by omega), tFl, if_neg (by omega), if_neg e]
      rfl
set_option maxRecDepth 100000 in
set_option maxHeartbeats 2000000 in
theorem kX4_read {E : gE} {S : gS} {x : Nat → Nat} {Q : Option gV → gS → Prop} (hR : RdOk S) (hx : xc S = x) (hQ : ∀ S', rdK S S' → (rd x 5 0 0 = none → rIn x 5 S') → (∀ q, rd x 5 0 0 = some q → q ≤ 60) → Q (some (vI (oI (rd x 5 0 0)))) S') : gRun E mX4_read 7 0 0 [vR 4 0 0] S [] Q := by
  refine gRun_of (ls := [some (vR 4 0 0), none]) rfl (Nat.le_of_ble_eq_true rfl) rfl (fun ad => ?_)
  obtain ⟨l4, l6, l10, l11, r128, r129, r192, hX⟩ := id hR
  have hE : txE x (xl S) := by rw [← hx]; exact txE_of hX
  have h60 := hX.2.1
  have FA : ∀ (T : gS) (q i : Nat) (hi : i ≤ 5) (kT : rdK S T) (hrd : rd x 5 0 0 = some q) (hq2 : q ≤ 60) (hq : fI T 133 0 0 = nI q), gG E mX4_read (gBof 7 0 0 ad [] Q) 12 [some (vR 4 0 0), some (vI (nI i))] [] T 0 0 := by
    intro T q i hi kT hrd hq2 hq
    have l4 : lv T 4 0 0 := (hR.rd kT).1
    refine g_iload_n (pc' := 13) dX4_read_12 rfl rfl ?_
    refine g_iconst (pc' := 14) (v := 5) dX4_read_13 rfl rfl ?_
    refine g_icmp_ge dX4_read_14 (tg := 36) (pc' := 17) (by decide) rfl (fun h14 => ?_) (fun h14 => ?_)
    · refine g_aload_n (pc' := 37) dX4_read_36 rfl rfl ?_
      refine ggX4_33 (pc' := 40) rfl dX4_read_37 rfl l4 ?_
      refine g_iret dX4_read_40 rfl rfl (Nat.le_of_ble_eq_true rfl) (Nat.le_of_ble_eq_true rfl) ?_
      exact gq (hQ T kT (fun h => by cases (hrd.symm.trans h)) (fun q9 h => by cases (hrd.symm.trans h); exact hq2)) (by rw [hq, hrd]; rfl)
    · refine g_aload_n (pc' := 18) dX4_read_17 rfl rfl ?_
      refine ggX4_33 (pc' := 21) rfl dX4_read_18 rfl l4 ?_
      refine g_iconst (pc' := 22) (v := (-1)) dX4_read_21 rfl rfl ?_
      refine g_icmp_ne dX4_read_22 (tg := 36) (pc' := 25) (by decide) rfl (fun h22 => ?_) (fun h22 => absurd h22 (by rw [hq]; exact nI_ne1 (by omega)))
      refine g_aload_n (pc' := 37) dX4_read_36 rfl rfl ?_
      refine ggX4_33 (pc' := 40) rfl dX4_read_37 rfl l4 ?_
      refine g_iret dX4_read_40 rfl rfl (Nat.le_of_ble_eq_true rfl) (Nat.le_of_ble_eq_true rfl) ?_
      exact gq (hQ T kT (fun h => by cases (hrd.symm.trans h)) (fun q9 h => by cases (hrd.symm.trans h); exact hq2)) (by rw [hq, hrd]; rfl)
  have LP : ∀ (k f : Nat) (T : gS) (hk : f + k = 5) (hle : f < 5 → fsx x f ≤ xl S) (kT : rdK S T) (hwT : fI T 133 0 0 = -1) (hpT : fI T 132 0 0 = nI (fsx x f)) (hI : rIn x f T) (hrd : rd x 5 0 0 = rd x k f (fsx x f)), gG E mX4_read (gBof 7 0 0 ad [] Q) 12 [some (vR 4 0 0), some (vI (nI f))] [] T 0 0 := by
    intro k
    induction k with
    | zero =>
      intro f T hk hle kT hwT hpT hI hrd
      have hf : f = 5 := by omega
      subst hf
      have l4 : lv T 4 0 0 := (hR.rd kT).1
      rw [rd] at hrd
      refine g_iload_n (pc' := 13) dX4_read_12 rfl rfl ?_
      refine g_iconst (pc' := 14) (v := 5) dX4_read_13 rfl rfl ?_
      refine g_icmp_ge dX4_read_14 (tg := 36) (pc' := 17) (by decide) rfl (fun h14 => ?_) (fun h14 => absurd (by rw [show (5 : Int32) = nI 5 from rfl, nI_leI (by omega) (by omega)]; omega) h14)
      refine g_aload_n (pc' := 37) dX4_read_36 rfl rfl ?_
      refine ggX4_33 (pc' := 40) rfl dX4_read_37 rfl l4 ?_
      refine g_iret dX4_read_40 rfl rfl (Nat.le_of_ble_eq_true rfl) (Nat.le_of_ble_eq_true rfl) ?_
      exact gq (hQ T kT (fun _ => hI) (fun q9 h => by cases (hrd.symm.trans h))) (by rw [hwT, hrd]; rfl)
    | succ k ih =>
      intro f T hk hle kT hwT hpT hI hrd
      have hf5 : f < 5 := by omega
      have hRT := hR.rd kT
      have hxT : xc T = x := (xc_rd kT).trans hx
      have hLT := xl_rd kT
      have l4 : lv T 4 0 0 := hRT.1
      refine g_iload_n (pc' := 13) dX4_read_12 rfl rfl ?_
      refine g_iconst (pc' := 14) (v := 5) dX4_read_13 rfl rfl ?_
      refine g_icmp_ge dX4_read_14 (tg := 36) (pc' := 17) (by decide) rfl (fun h14 => absurd h14 (by rw [show (5 : Int32) = nI 5 from rfl, nI_leI (by omega) (by omega)]; omega)) (fun h14 => ?_)
      refine g_aload_n (pc' := 18) dX4_read_17 rfl rfl ?_
      refine ggX4_33 (pc' := 21) rfl dX4_read_18 rfl l4 ?_
      refine g_iconst (pc' := 22) (v := (-1)) dX4_read_21 rfl rfl ?_
      refine g_icmp_ne dX4_read_22 (tg := 36) (pc' := 25) (by decide) rfl (fun h22 => absurd hwT h22) (fun h22 => ?_)
      refine g_aload_n (pc' := 26) dX4_read_25 rfl rfl ?_
      refine g_iload_n (pc' := 27) dX4_read_26 rfl rfl ?_
      refine gcv1 (pc' := 30) cwX4_36 cf4 dX4_read_27 rfl l4 (Nat.le_of_ble_eq_true rfl) (Nat.le_of_ble_eq_true rfl) (Nat.le_of_ble_eq_true rfl) (Nat.le_of_ble_eq_true rfl) (Nat.le_of_ble_eq_true rfl) (kX4_readField (x := x) (p := fsx x f) (f := f) hRT hxT hf5 hpT (by rw [hLT]; exact hle hf5) hwT ?_)
      intro S' kS oS
      refine giinc1 (pc' := 33) (c := 1) dX4_read_30 rfl rfl (Nat.le_of_ble_eq_true rfl) rfl ?_
      rw [nI_1]
      refine g_goto dX4_read_33 (pc' := 12) (by decide) ?_
      rcases oS with ⟨q, hq, hq2, hF⟩ | ⟨e, hF, hd, he, hw, hpl, hb⟩
      · exact FA S' q (f + 1) (by omega) (kT.tr (rdK_tFl.tr (rdK.of kS))) (hrd.trans (by
          rcases hF with hF | ⟨hF, hn⟩
          · rw [rd, hF]
          · rw [rd, hF]; exact if_neg hn)) hq2 hq
      · have hfs : fsx x (f + 1) = e + 1 := by rw [fsx, hF]
        refine ih (f + 1) S' (by omega) (fun h => ?_) (kT.tr (rdK_tFl.tr (rdK.of kS))) hw (by rw [hfs]; exact hpl) (rIn_next hI kS hb) (hrd.trans (by rw [rd, hF, hfs]; exact if_pos hd))
        rw [hfs]
        rw [dueC, if_neg (by omega)] at hd
        exact txE_nz hE (by omega)
  refine g_aload_n (pc' := 1) dX4_read_0 rfl rfl ?_
  refine g_iconst (pc' := 2) (v := 0) dX4_read_1 rfl rfl ?_
  refine gpX4_29 (pc' := 5) rfl dX4_read_2 rfl l4 ?_
  refine g_aload_n (pc' := 6) dX4_read_5 rfl rfl ?_
  refine g_iconst (pc' := 7) (v := (-1)) dX4_read_6 rfl rfl ?_
  refine gpX4_33 (pc' := 10) rfl dX4_read_7 rfl l4 ?_
  refine g_iconst (pc' := 11) (v := 0) dX4_read_10 rfl rfl ?_
  refine gistore_n1 (pc' := 12) dX4_read_11 rfl (Nat.le_of_ble_eq_true rfl) rfl ?_
  exact LP 5 0 (sfI (sfI S 132 0 0 0) 133 0 0 (-1)) rfl (fun _ => Nat.zero_le _) ((rdK_sfI (Or.inr (Or.inr (Or.inl rfl)))).tr (rdK_sfI (Or.inr (Or.inr (Or.inr rfl))))) fI_at rfl ⟨fun g hg => absurd hg (Nat.not_lt_zero g), fun h => absurd h (by decide), fun h => absurd h (by decide)⟩ rfl

