/-! THE CLASS (11): the reader: the text's words as functions, numbers -/
theorem fI_at {S : gS} {g j t : Nat} {v : Int32} : fI (sfI S g j t v) g j t = v := if_pos ⟨rfl, rfl, rfl⟩
theorem fI_ne {S : gS} {g j t g' j' t' : Nat} {v : Int32} (h : g' ≠ g) : fI (sfI S g j t v) g' j' t' = fI S g' j' t' := if_neg (fun z => h z.1)
def isD (c : Nat) : Bool := decide (48 ≤ c ∧ c ≤ 57)
def dg (x : Nat → Nat) (p : Nat) : Nat := if isD (x p) = true then (if isD (x (p + 1)) = true then 2 else 1) else 0
def vl (x : Nat → Nat) (p : Nat) : Nat := if isD (x p) = true then (if isD (x (p + 1)) = true then (x p - 48) * 10 + (x (p + 1) - 48) else x p - 48) else 0
def isN (x : Nat → Nat) (p hi lo : Nat) : Bool := decide (0 < dg x p ∧ lo ≤ vl x p ∧ vl x p ≤ hi)
def fLo (f : Nat) : Nat := if f = 2 ∨ f = 3 then 1 else 0
def fHi (f : Nat) : Nat := if f = 0 then 59 else if f = 1 then 23 else if f = 2 then 31 else if f = 3 then 12 else 7
def kp (f n : Nat) : Nat := if f = 4 then n % 7 else n
abbrev itR : Type := Nat ⊕ (Nat × Nat × Nat × Nat)
def stp (x : Nat → Nat) (a lo hi : Nat) : itR := if x a = 47 then (if dg x (a + 1) = 0 ∨ vl x (a + 1) = 0 then .inl (a + 1) else .inr (a + 1 + dg x (a + 1), lo, hi, vl x (a + 1))) else .inr (a, lo, hi, 1)
/-- an item from p on: the place of its fault, or its end, least, most, step -/
def item (x : Nat → Nat) (p f : Nat) : itR := if x p = 42 then stp x (p + 1) (fLo f) (fHi f) else if isN x p (fHi f) (fLo f) = true then (if x (p + dg x p) = 45 then (if isN x (p + dg x p + 1) (fHi f) (vl x p) = true then stp x (p + dg x p + 1 + dg x (p + dg x p + 1)) (vl x p) (vl x (p + dg x p + 1)) else .inl (p + dg x p + 1)) else .inr (p + dg x p, vl x p, vl x p, 1)) else .inl p
/-- a text that ends at L -/
def txE (x : Nat → Nat) (L : Nat) : Prop := (∀ p, L ≤ p → x p = 0) ∧ ∀ p, p < L → 32 ≤ x p ∧ x p ≤ 126
theorem txE_nz {x : Nat → Nat} {L p : Nat} (h : txE x L) (hp : x p ≠ 0) : p < L := by
  rcases Nat.lt_or_ge p L with q | q
  · exact q
  · exact absurd (h.1 p q) hp
theorem txE_le {x : Nat → Nat} {L : Nat} (h : txE x L) (p : Nat) : x p ≤ 126 := by
  rcases Nat.lt_or_ge p L with q | q
  · exact (h.2 p q).2
  · rw [h.1 p q]; omega
theorem txE_D {x : Nat → Nat} {L p : Nat} (h : txE x L) (hp : isD (x p) = true) : p < L := txE_nz h (by
  rw [isD, decide_eq_true_eq] at hp; omega)
theorem dg_end {x : Nat → Nat} {L p : Nat} (h : txE x L) (hp : p ≤ L) : p + dg x p ≤ L := by
  unfold dg
  split
  · rename_i h1
    have := txE_D h h1
    split
    · rename_i h2
      have := txE_D h h2
      omega
    · omega
  · omega
theorem dg_le (x : Nat → Nat) (p : Nat) : dg x p ≤ 2 := by
  unfold dg; split
  · split <;> omega
  · omega
theorem vl_le (x : Nat → Nat) (p : Nat) : vl x p ≤ 99 := by
  unfold vl
  split
  · rename_i h1
    rw [isD, decide_eq_true_eq] at h1
    split
    · rename_i h2
      rw [isD, decide_eq_true_eq] at h2
      omega
    · omega
  · omega
theorem stp_in {x : Nat → Nat} {L a lo hi e lo' hi' st : Nat} (h : txE x L) (ha : a ≤ L) (hr : stp x a lo hi = .inr (e, lo', hi', st)) : a ≤ e ∧ e ≤ L ∧ lo' = lo ∧ hi' = hi ∧ 1 ≤ st ∧ st ≤ 99 := by
  unfold stp at hr
  split at hr
  · rename_i h1
    have hL : a < L := txE_nz h (by omega)
    split at hr
    · cases hr
    · rename_i h2
      have h4 := dg_end h (p := a + 1) (by omega)
      have h5 := vl_le x (a + 1)
      injection hr with hr
      injection hr with h6 hr
      injection hr with h7 hr
      injection hr with h8 h9
      omega
  · injection hr with hr
    injection hr with h6 hr
    injection hr with h7 hr
    injection hr with h8 h9
    omega
theorem isN_in {x : Nat → Nat} {p hi lo : Nat} (h : isN x p hi lo = true) : 0 < dg x p ∧ lo ≤ vl x p ∧ vl x p ≤ hi := by rw [isN, decide_eq_true_eq] at h; exact h
theorem fLo_le (f : Nat) : fLo f ≤ 1 := by unfold fLo; split <;> omega
theorem fHi_le (f : Nat) : fHi f ≤ 59 ∧ 7 ≤ fHi f := by
  unfold fHi
  repeat' split
  all_goals omega
theorem item_in {x : Nat → Nat} {L p f e lo hi st : Nat} (h : txE x L) (hp : p ≤ L) (hr : item x p f = .inr (e, lo, hi, st)) : p < e ∧ e ≤ L ∧ fLo f ≤ lo ∧ lo ≤ hi ∧ hi ≤ fHi f ∧ 1 ≤ st ∧ st ≤ 99 := by
  have hlo := fLo_le f
  have hhi := fHi_le f
  unfold item at hr
  split at hr
  · rename_i h1
    have hL : p < L := txE_nz h (by omega)
    have := stp_in h (by omega) hr
    omega
  · split at hr
    · rename_i h2
      have h2 := isN_in h2
      have hd := dg_end h hp
      split at hr
      · rename_i h3
        have hL : p + dg x p < L := txE_nz h (by omega)
        split at hr
        · rename_i h4
          have h4 := isN_in h4
          have hd2 := dg_end h (p := p + dg x p + 1) (by omega)
          have := stp_in h hd2 hr
          omega
        · cases hr
      · injection hr with hr
        injection hr with h6 hr
        injection hr with h7 hr
        injection hr with h8 h9
        omega
    · cases hr
theorem item_f {x : Nat → Nat} {L p f q : Nat} (h : txE x L) (hp : p ≤ L) (hr : item x p f = .inl q) : q ≤ L := by
  unfold item at hr
  have hs : ∀ {a lo hi : Nat}, a ≤ L → stp x a lo hi = .inl q → q ≤ L := fun {a lo hi} ha hr => by
    unfold stp at hr
    split at hr
    · have hL : a < L := txE_nz h (by omega)
      split at hr
      · cases hr; omega
      · cases hr
    · cases hr
  split at hr
  · have hL : p < L := txE_nz h (by omega)
    exact hs (by omega) hr
  · split at hr
    · have hd := dg_end h hp
      split at hr
      · have hL : p + dg x p < L := txE_nz h (by omega)
        split at hr
        · exact hs (dg_end h (by omega)) hr
        · cases hr; omega
      · cases hr
    · cases hr; omega
def RdOk (S : gS) : Prop := lv S 4 0 0 ∧ lv S 6 0 0 ∧ lv S 10 0 0 ∧ lv S 11 0 0 ∧ fR S 128 0 0 = some (6, 0, 0) ∧ fR S 129 0 0 = some (11, 0, 0) ∧ fR S 192 0 0 = some (10, 0, 0) ∧ TextOk S
theorem txE_of {S : gS} (h : TextOk S) : txE (xc S) (xl S) := ⟨fun p hp => xc_out hp, fun p hp => xc_in h hp⟩
theorem kSignX {E : gE} {S : gS} {x : Nat → Nat} {p : Nat} {Q : Option gV → gS → Prop} (hR : RdOk S) (hx : xc S = x) (hp : p < 2 ^ 30) (hQ : Q (some (vI (nI (x p)))) S) : gRun E mX6_signAt 1 0 0 [vR 6 0 0, vI (nI p)] S [] Q :=
  kSign hR.2.1 hR.2.2.1 hR.2.2.2.2.2.2.1 hR.2.2.2.2.2.2.2 hp (by rw [hx]; exact hQ)
def tNum (S : gS) (x : Nat → Nat) (p lo hi : Nat) : gS := if isN x p hi lo = true then sfI S 132 0 0 (nI (p + dg x p)) else sfI (sfI S 132 0 0 (nI (p + dg x p))) 133 0 0 (nI p)
def tAdd (f lo st : Nat) : Nat → Nat → gS → gS
  | 0, _, S => S
  | k + 1, n, S => tAdd f lo st k (n + 1) (if (n - lo) % st = 0 then saL S 11 0 f (aL S 11 0 f ||| (1 : Int64) <<< ((nI (kp f n)).toInt64 &&& 63)) else S)
theorem gt0 {f : Nat} (hf : f < 5) : (gtab 0).getD f 0 = nI (fLo f) := (by decide : ∀ f, f < 5 → (gtab 0).getD f 0 = nI (fLo f)) f hf
theorem gt1 {f : Nat} (hf : f < 5) : (gtab 1).getD f 0 = nI (fHi f) := (by decide : ∀ f, f < 5 → (gtab 1).getD f 0 = nI (fHi f)) f hf
set_option maxRecDepth 100000 in
set_option maxHeartbeats 2000000 in
theorem kX4_isDigit {E : gE} {S : gS} {c : Nat} {Q : Option gV → gS → Prop} (hc : c < 65536) (hQ : Q (some (vI (bI (isD c)))) S) : gRun E mX4_isDigit 1 0 0 [vI (nI c)] S [] Q := by
  refine gRun_of (ls := [some (vI (nI c))]) rfl (Nat.le_of_ble_eq_true rfl) rfl (fun ad => ?_)
  refine g_iload_n (pc' := 1) dX4_isDigit_0 rfl rfl ?_
  refine g_bipush (pc' := 3) (v := 48) dX4_isDigit_1 rfl rfl ?_
  rw [show (48 : Int32) = nI 48 from rfl]
  refine g_icmp_lt dX4_isDigit_3 (tg := 16) (pc' := 6) (by decide) rfl (fun h3 => ?_) (fun h3 => ?_)
  · refine g_iconst (pc' := 17) (v := 0) dX4_isDigit_16 rfl rfl ?_
    refine g_iret dX4_isDigit_17 rfl rfl (Nat.le_of_ble_eq_true rfl) (Nat.le_of_ble_eq_true rfl) ?_
    first
      | exact gq hQ (bd_t ⟨Nat.le_of_not_lt (fun z => h3 ((nI_ltI (by omega) (by omega)).mpr z)), Nat.le_of_not_lt (fun z => h9 ((nI_ltI (by omega) (by omega)).mpr z))⟩)
      | exact gq hQ (bd_f (fun z => absurd ((nI_ltI (by omega) (by omega)).mp h9) (by omega)))
      | exact gq hQ (bd_f (fun z => absurd ((nI_ltI (by omega) (by omega)).mp h3) (by omega)))
  · refine g_iload_n (pc' := 7) dX4_isDigit_6 rfl rfl ?_
    refine g_bipush (pc' := 9) (v := 57) dX4_isDigit_7 rfl rfl ?_
    rw [show (57 : Int32) = nI 57 from rfl]
    refine g_icmp_gt dX4_isDigit_9 (tg := 16) (pc' := 12) (by decide) rfl (fun h9 => ?_) (fun h9 => ?_)
    · refine g_iconst (pc' := 17) (v := 0) dX4_isDigit_16 rfl rfl ?_
      refine g_iret dX4_isDigit_17 rfl rfl (Nat.le_of_ble_eq_true rfl) (Nat.le_of_ble_eq_true rfl) ?_
      first
        | exact gq hQ (bd_t ⟨Nat.le_of_not_lt (fun z => h3 ((nI_ltI (by omega) (by omega)).mpr z)), Nat.le_of_not_lt (fun z => h9 ((nI_ltI (by omega) (by omega)).mpr z))⟩)
        | exact gq hQ (bd_f (fun z => absurd ((nI_ltI (by omega) (by omega)).mp h9) (by omega)))
        | exact gq hQ (bd_f (fun z => absurd ((nI_ltI (by omega) (by omega)).mp h3) (by omega)))
    · refine g_iconst (pc' := 13) (v := 1) dX4_isDigit_12 rfl rfl ?_
      refine g_goto dX4_isDigit_13 (pc' := 17) (by decide) ?_
      refine g_iret dX4_isDigit_17 rfl rfl (Nat.le_of_ble_eq_true rfl) (Nat.le_of_ble_eq_true rfl) ?_
      first
        | exact gq hQ (bd_t ⟨Nat.le_of_not_lt (fun z => h3 ((nI_ltI (by omega) (by omega)).mpr z)), Nat.le_of_not_lt (fun z => h9 ((nI_ltI (by omega) (by omega)).mpr z))⟩)
        | exact gq hQ (bd_f (fun z => absurd ((nI_ltI (by omega) (by omega)).mp h9) (by omega)))
        | exact gq hQ (bd_f (fun z => absurd ((nI_ltI (by omega) (by omega)).mp h3) (by omega)))

set_option maxRecDepth 100000 in
set_option maxHeartbeats 2000000 in
theorem kX4_readNumber {E : gE} {S : gS} {x : Nat → Nat} {p lo hi : Nat} {Q : Option gV → gS → Prop} (hR : RdOk S) (hx : xc S = x) (hp : fI S 132 0 0 = nI p) (hp2 : p < 2 ^ 20) (hlo : lo < 2 ^ 20) (hhi : hi < 2 ^ 20) (hQ : Q (some (vI (nI (vl x p)))) (tNum S x p lo hi)) : gRun E mX4_readNumber 3 0 0 [vR 4 0 0, vI (nI lo), vI (nI hi)] S [] Q := by
  refine gRun_of (ls := [some (vR 4 0 0), some (vI (nI lo)), some (vI (nI hi)), none, none]) rfl (Nat.le_of_ble_eq_true rfl) rfl (fun ad => ?_)
  obtain ⟨l4, l6, l10, l11, r128, r129, r192, hX⟩ := id hR
  have hT : ∀ q, x q ≤ 126 := fun q => by rw [← hx]; exact xc_le hX q
  have hvl := vl_le x p
  have hQ1 : (0 < dg x p ∧ lo ≤ vl x p ∧ vl x p ≤ hi) → Q (some (vI (nI (vl x p)))) (sfI S 132 0 0 (nI (p + dg x p))) := fun h => by rw [tNum, isN, if_pos (decide_eq_true h)] at hQ; exact hQ
  have hQ2 : ¬ (0 < dg x p ∧ lo ≤ vl x p ∧ vl x p ≤ hi) → Q (some (vI (nI (vl x p)))) (sfI (sfI S 132 0 0 (nI (p + dg x p))) 133 0 0 (nI p)) := fun h => by rw [tNum, isN, decide_eq_false h] at hQ; exact hQ
  have F : ∀ a (ha : dg x p = a), gG E mX4_readNumber (gBof 3 0 0 ad [] Q) 70 [some (vR 4 0 0), some (vI (nI lo)), some (vI (nI hi)), some (vI (nI p)), some (vI (nI (vl x p)))] [] (sfI S 132 0 0 (nI (p + a))) 0 0 := by
    intro a ha
    subst ha
    have ha : dg x p = dg x p := rfl
    have hd2 := dg_le x p
    refine g_aload_n (pc' := 71) dX4_readNumber_70 rfl rfl ?_
    refine ggX4_29 (pc' := 74) rfl dX4_readNumber_71 rfl l4 ?_
    rw [fI_at]
    refine g_iload_n (pc' := 75) dX4_readNumber_74 rfl rfl ?_
    refine g_icmp_eq dX4_readNumber_75 (tg := 90) (pc' := 78) (by decide) rfl (fun h75 => ?_) (fun h75 => ?_)
    · refine g_aload_n (pc' := 91) dX4_readNumber_90 rfl rfl ?_
      refine g_iload_n (pc' := 92) dX4_readNumber_91 rfl rfl ?_
      refine gpX4_33 (pc' := 95) rfl dX4_readNumber_92 rfl l4 ?_
      refine g_iload (pc' := 97) dX4_readNumber_95 rfl rfl ?_
      refine g_iret dX4_readNumber_97 rfl rfl (Nat.le_of_ble_eq_true rfl) (Nat.le_of_ble_eq_true rfl) ?_
      first
        | exact hQ1 ⟨Nat.pos_of_ne_zero (fun z => h75 (by rw [← ha, z]; rfl)), Nat.le_of_not_lt (fun z => h81 ((nI_ltI (by omega) (by omega)).mpr z)), (nI_leI (by omega) (by omega)).mp h87⟩
        | exact hQ2 (fun z => absurd ((nI_eq (by omega) (by omega)).mp h75) (by omega))
        | exact hQ2 (fun z => absurd ((nI_ltI (by omega) (by omega)).mp h81) (by omega))
        | exact hQ2 (fun z => absurd ((nI_leI (by omega) (by omega)).mpr z.2.2) h87)
    · refine g_iload (pc' := 80) dX4_readNumber_78 rfl rfl ?_
      refine g_iload_n (pc' := 81) dX4_readNumber_80 rfl rfl ?_
      refine g_icmp_lt dX4_readNumber_81 (tg := 90) (pc' := 84) (by decide) rfl (fun h81 => ?_) (fun h81 => ?_)
      · refine g_aload_n (pc' := 91) dX4_readNumber_90 rfl rfl ?_
        refine g_iload_n (pc' := 92) dX4_readNumber_91 rfl rfl ?_
        refine gpX4_33 (pc' := 95) rfl dX4_readNumber_92 rfl l4 ?_
        refine g_iload (pc' := 97) dX4_readNumber_95 rfl rfl ?_
        refine g_iret dX4_readNumber_97 rfl rfl (Nat.le_of_ble_eq_true rfl) (Nat.le_of_ble_eq_true rfl) ?_
        first
          | exact hQ1 ⟨Nat.pos_of_ne_zero (fun z => h75 (by rw [← ha, z]; rfl)), Nat.le_of_not_lt (fun z => h81 ((nI_ltI (by omega) (by omega)).mpr z)), (nI_leI (by omega) (by omega)).mp h87⟩
          | exact hQ2 (fun z => absurd ((nI_eq (by omega) (by omega)).mp h75) (by omega))
          | exact hQ2 (fun z => absurd ((nI_ltI (by omega) (by omega)).mp h81) (by omega))
          | exact hQ2 (fun z => absurd ((nI_leI (by omega) (by omega)).mpr z.2.2) h87)
      · refine g_iload (pc' := 86) dX4_readNumber_84 rfl rfl ?_
        refine g_iload_n (pc' := 87) dX4_readNumber_86 rfl rfl ?_
        refine g_icmp_le dX4_readNumber_87 (tg := 95) (pc' := 90) (by decide) rfl (fun h87 => ?_) (fun h87 => ?_)
        · refine g_iload (pc' := 97) dX4_readNumber_95 rfl rfl ?_
          refine g_iret dX4_readNumber_97 rfl rfl (Nat.le_of_ble_eq_true rfl) (Nat.le_of_ble_eq_true rfl) ?_
          first
            | exact hQ1 ⟨Nat.pos_of_ne_zero (fun z => h75 (by rw [← ha, z]; rfl)), Nat.le_of_not_lt (fun z => h81 ((nI_ltI (by omega) (by omega)).mpr z)), (nI_leI (by omega) (by omega)).mp h87⟩
            | exact hQ2 (fun z => absurd ((nI_eq (by omega) (by omega)).mp h75) (by omega))
            | exact hQ2 (fun z => absurd ((nI_ltI (by omega) (by omega)).mp h81) (by omega))
            | exact hQ2 (fun z => absurd ((nI_leI (by omega) (by omega)).mpr z.2.2) h87)
        · refine g_aload_n (pc' := 91) dX4_readNumber_90 rfl rfl ?_
          refine g_iload_n (pc' := 92) dX4_readNumber_91 rfl rfl ?_
          refine gpX4_33 (pc' := 95) rfl dX4_readNumber_92 rfl l4 ?_
          refine g_iload (pc' := 97) dX4_readNumber_95 rfl rfl ?_
          refine g_iret dX4_readNumber_97 rfl rfl (Nat.le_of_ble_eq_true rfl) (Nat.le_of_ble_eq_true rfl) ?_
          first
            | exact hQ1 ⟨Nat.pos_of_ne_zero (fun z => h75 (by rw [← ha, z]; rfl)), Nat.le_of_not_lt (fun z => h81 ((nI_ltI (by omega) (by omega)).mpr z)), (nI_leI (by omega) (by omega)).mp h87⟩
            | exact hQ2 (fun z => absurd ((nI_eq (by omega) (by omega)).mp h75) (by omega))
            | exact hQ2 (fun z => absurd ((nI_ltI (by omega) (by omega)).mp h81) (by omega))
            | exact hQ2 (fun z => absurd ((nI_leI (by omega) (by omega)).mpr z.2.2) h87)
  clear hQ hQ1 hQ2
  have L2 : isD (x p) = true → isD (x (p + 1)) = true → gG E mX4_readNumber (gBof 3 0 0 ad [] Q) 8 [some (vR 4 0 0), some (vI (nI lo)), some (vI (nI hi)), some (vI (nI p)), some (vI (nI (vl x p)))] [] (sfI S 132 0 0 (nI (p + 2))) 0 0 := by
    intro q1 q2
    have hdg : dg x p = 2 := by rw [dg, if_pos q1, if_pos q2]
    refine g_aload_n (pc' := 9) dX4_readNumber_8 rfl rfl ?_
    refine ggX4_29 (pc' := 12) rfl dX4_readNumber_9 rfl l4 ?_
    rw [fI_at]
    refine g_iload_n (pc' := 13) dX4_readNumber_12 rfl rfl ?_
    refine g_iconst (pc' := 14) (v := 2) dX4_readNumber_13 rfl rfl ?_
    refine g_iadd (pc' := 15) dX4_readNumber_14 rfl ?_
    rw [show (2 : Int32) = nI 2 from rfl, nI_add]
    refine g_icmp_ge dX4_readNumber_15 (tg := 70) (pc' := 18) (by decide) rfl (fun h15 => ?_) (fun h15 => absurd (by rw [nI_leI (by omega) (by omega)]; omega) h15)
    exact F 2 hdg
  have L1 : isD (x p) = true → gG E mX4_readNumber (gBof 3 0 0 ad [] Q) 8 [some (vR 4 0 0), some (vI (nI lo)), some (vI (nI hi)), some (vI (nI p)), some (vI (nI (x p - 48)))] [] (sfI S 132 0 0 (nI (p + 1))) 0 0 := by
    intro q1
    have a1 := hT (p + 1)
    have hRa : RdOk (sfI S 132 0 0 (nI (p + 1))) := hR
    cases hd1 : isD (x (p + 1)) with
    | true =>
      have L2 := L2 q1 hd1
      rw [show vl x p = (x p - 48) * 10 + (x (p + 1) - 48) by rw [vl, if_pos q1, if_pos hd1]] at L2
      have b1 : 48 ≤ x (p + 1) := by rw [isD, decide_eq_true_eq] at hd1; exact hd1.1
      refine g_aload_n (pc' := 9) dX4_readNumber_8 rfl rfl ?_
      refine ggX4_29 (pc' := 12) rfl dX4_readNumber_9 rfl l4 ?_
      rw [fI_at]
      refine g_iload_n (pc' := 13) dX4_readNumber_12 rfl rfl ?_
      refine g_iconst (pc' := 14) (v := 2) dX4_readNumber_13 rfl rfl ?_
      refine g_iadd (pc' := 15) dX4_readNumber_14 rfl ?_
      rw [show (2 : Int32) = nI 2 from rfl, nI_add]
      refine g_icmp_ge dX4_readNumber_15 (tg := 70) (pc' := 18) (by decide) rfl (fun h15 => absurd h15 (by rw [nI_leI (by omega) (by omega)]; omega)) (fun h15 => ?_)
      refine g_aload_n (pc' := 19) dX4_readNumber_18 rfl rfl ?_
      refine ggX4_12 (pc' := 22) rfl dX4_readNumber_19 rfl l4 r128 ?_
      refine g_aload_n (pc' := 23) dX4_readNumber_22 rfl rfl ?_
      refine ggX4_29 (pc' := 26) rfl dX4_readNumber_23 rfl l4 ?_
      rw [fI_at]
      refine gcv1 (pc' := 29) cwX4_45 cf6 dX4_readNumber_26 rfl l6 (Nat.le_of_ble_eq_true rfl) (Nat.le_of_ble_eq_true rfl) (Nat.le_of_ble_eq_true rfl) (Nat.le_of_ble_eq_true rfl) (Nat.le_of_ble_eq_true rfl) (kSignX (x := x) (p := p + 1) hRa hx (by omega) ?_)
      refine gcs1 (pc' := 32) cwX4_70 dX4_readNumber_29 rfl (Nat.le_of_ble_eq_true rfl) (Nat.le_of_ble_eq_true rfl) (Nat.le_of_ble_eq_true rfl) (Nat.le_of_ble_eq_true rfl) (Nat.le_of_ble_eq_true rfl) (kX4_isDigit (c := x (p + 1)) (by omega) ?_)
      refine g_if_eq dX4_readNumber_32 (tg := 70) (pc' := 35) (by decide) rfl (fun h32 => ?_) (fun h32 => ?_)
      · rw [bI_f] at h32
        exact absurd hd1 (by rw [h32]; decide)
      · skip
        refine g_iload (pc' := 37) dX4_readNumber_35 rfl rfl ?_
        refine g_bipush (pc' := 39) (v := 10) dX4_readNumber_37 rfl rfl ?_
        refine g_imul (pc' := 40) dX4_readNumber_39 rfl ?_
        rw [show (10 : Int32) = nI 10 from rfl, pk_mul]
        refine g_aload_n (pc' := 41) dX4_readNumber_40 rfl rfl ?_
        refine ggX4_12 (pc' := 44) rfl dX4_readNumber_41 rfl l4 r128 ?_
        refine g_aload_n (pc' := 45) dX4_readNumber_44 rfl rfl ?_
        refine ggX4_29 (pc' := 48) rfl dX4_readNumber_45 rfl l4 ?_
        rw [fI_at]
        refine gcv1 (pc' := 51) cwX4_45 cf6 dX4_readNumber_48 rfl l6 (Nat.le_of_ble_eq_true rfl) (Nat.le_of_ble_eq_true rfl) (Nat.le_of_ble_eq_true rfl) (Nat.le_of_ble_eq_true rfl) (Nat.le_of_ble_eq_true rfl) (kSignX (x := x) (p := p + 1) hRa hx (by omega) ?_)
        refine g_bipush (pc' := 53) (v := 48) dX4_readNumber_51 rfl rfl ?_
        refine g_isub (pc' := 54) dX4_readNumber_53 rfl ?_
        rw [show (48 : Int32) = nI 48 from rfl, pk_sub (by omega)]
        refine g_iadd (pc' := 55) dX4_readNumber_54 rfl ?_
        rw [nI_add]
        refine gistore4 (pc' := 57) dX4_readNumber_55 rfl (Nat.le_of_ble_eq_true rfl) rfl ?_
        refine g_aload_n (pc' := 58) dX4_readNumber_57 rfl rfl ?_
        refine g_dup (pc' := 59) dX4_readNumber_58 rfl rfl ?_
        refine ggX4_29 (pc' := 62) rfl dX4_readNumber_59 rfl l4 ?_
        rw [fI_at]
        refine g_iconst (pc' := 63) (v := 1) dX4_readNumber_62 rfl rfl ?_
        refine g_iadd (pc' := 64) dX4_readNumber_63 rfl ?_
        rw [nI_1]
        refine gpX4_29 (pc' := 67) rfl dX4_readNumber_64 rfl l4 ?_
        rw [sfI_sfI, Nat.add_assoc]
        refine g_goto dX4_readNumber_67 (pc' := 8) (by decide) ?_
        exact L2
    | false =>
      have hdg : dg x p = 1 := by rw [dg, if_pos q1, if_neg (by rw [hd1]; decide)]
      rw [show x p - 48 = vl x p by rw [vl, if_pos q1, if_neg (by rw [hd1]; decide)]]
      refine g_aload_n (pc' := 9) dX4_readNumber_8 rfl rfl ?_
      refine ggX4_29 (pc' := 12) rfl dX4_readNumber_9 rfl l4 ?_
      rw [fI_at]
      refine g_iload_n (pc' := 13) dX4_readNumber_12 rfl rfl ?_
      refine g_iconst (pc' := 14) (v := 2) dX4_readNumber_13 rfl rfl ?_
      refine g_iadd (pc' := 15) dX4_readNumber_14 rfl ?_
      rw [show (2 : Int32) = nI 2 from rfl, nI_add]
      refine g_icmp_ge dX4_readNumber_15 (tg := 70) (pc' := 18) (by decide) rfl (fun h15 => absurd h15 (by rw [nI_leI (by omega) (by omega)]; omega)) (fun h15 => ?_)
      refine g_aload_n (pc' := 19) dX4_readNumber_18 rfl rfl ?_
      refine ggX4_12 (pc' := 22) rfl dX4_readNumber_19 rfl l4 r128 ?_
      refine g_aload_n (pc' := 23) dX4_readNumber_22 rfl rfl ?_
      refine ggX4_29 (pc' := 26) rfl dX4_readNumber_23 rfl l4 ?_
      rw [fI_at]
      refine gcv1 (pc' := 29) cwX4_45 cf6 dX4_readNumber_26 rfl l6 (Nat.le_of_ble_eq_true rfl) (Nat.le_of_ble_eq_true rfl) (Nat.le_of_ble_eq_true rfl) (Nat.le_of_ble_eq_true rfl) (Nat.le_of_ble_eq_true rfl) (kSignX (x := x) (p := p + 1) hRa hx (by omega) ?_)
      refine gcs1 (pc' := 32) cwX4_70 dX4_readNumber_29 rfl (Nat.le_of_ble_eq_true rfl) (Nat.le_of_ble_eq_true rfl) (Nat.le_of_ble_eq_true rfl) (Nat.le_of_ble_eq_true rfl) (Nat.le_of_ble_eq_true rfl) (kX4_isDigit (c := x (p + 1)) (by omega) ?_)
      refine g_if_eq dX4_readNumber_32 (tg := 70) (pc' := 35) (by decide) rfl (fun h32 => ?_) (fun h32 => absurd (bI_f.mpr hd1) h32)
      exact F 1 hdg
  have L0 : gG E mX4_readNumber (gBof 3 0 0 ad [] Q) 8 [some (vR 4 0 0), some (vI (nI lo)), some (vI (nI hi)), some (vI (nI p)), some (vI (nI (0)))] [] (sfI S 132 0 0 (nI (p + 0))) 0 0 := by
    have a1 := hT (p + 0)
    have hRa : RdOk (sfI S 132 0 0 (nI (p + 0))) := hR
    cases hd1 : isD (x (p + 0)) with
    | true =>
      have L2 := L1 hd1
      rw [show x p - 48 = 0 * 10 + (x p - 48) by omega] at L2
      have b1 : 48 ≤ x (p + 0) := by rw [isD, decide_eq_true_eq] at hd1; exact hd1.1
      refine g_aload_n (pc' := 9) dX4_readNumber_8 rfl rfl ?_
      refine ggX4_29 (pc' := 12) rfl dX4_readNumber_9 rfl l4 ?_
      rw [fI_at]
      refine g_iload_n (pc' := 13) dX4_readNumber_12 rfl rfl ?_
      refine g_iconst (pc' := 14) (v := 2) dX4_readNumber_13 rfl rfl ?_
      refine g_iadd (pc' := 15) dX4_readNumber_14 rfl ?_
      rw [show (2 : Int32) = nI 2 from rfl, nI_add]
      refine g_icmp_ge dX4_readNumber_15 (tg := 70) (pc' := 18) (by decide) rfl (fun h15 => absurd h15 (by rw [nI_leI (by omega) (by omega)]; omega)) (fun h15 => ?_)
      refine g_aload_n (pc' := 19) dX4_readNumber_18 rfl rfl ?_
      refine ggX4_12 (pc' := 22) rfl dX4_readNumber_19 rfl l4 r128 ?_
      refine g_aload_n (pc' := 23) dX4_readNumber_22 rfl rfl ?_
      refine ggX4_29 (pc' := 26) rfl dX4_readNumber_23 rfl l4 ?_
      rw [fI_at]
      refine gcv1 (pc' := 29) cwX4_45 cf6 dX4_readNumber_26 rfl l6 (Nat.le_of_ble_eq_true rfl) (Nat.le_of_ble_eq_true rfl) (Nat.le_of_ble_eq_true rfl) (Nat.le_of_ble_eq_true rfl) (Nat.le_of_ble_eq_true rfl) (kSignX (x := x) (p := p + 0) hRa hx (by omega) ?_)
      refine gcs1 (pc' := 32) cwX4_70 dX4_readNumber_29 rfl (Nat.le_of_ble_eq_true rfl) (Nat.le_of_ble_eq_true rfl) (Nat.le_of_ble_eq_true rfl) (Nat.le_of_ble_eq_true rfl) (Nat.le_of_ble_eq_true rfl) (kX4_isDigit (c := x (p + 0)) (by omega) ?_)
      refine g_if_eq dX4_readNumber_32 (tg := 70) (pc' := 35) (by decide) rfl (fun h32 => ?_) (fun h32 => ?_)
      · rw [bI_f] at h32
        exact absurd hd1 (by rw [h32]; decide)
      · skip
        refine g_iload (pc' := 37) dX4_readNumber_35 rfl rfl ?_
        refine g_bipush (pc' := 39) (v := 10) dX4_readNumber_37 rfl rfl ?_
        refine g_imul (pc' := 40) dX4_readNumber_39 rfl ?_
        rw [show (10 : Int32) = nI 10 from rfl, pk_mul]
        refine g_aload_n (pc' := 41) dX4_readNumber_40 rfl rfl ?_
        refine ggX4_12 (pc' := 44) rfl dX4_readNumber_41 rfl l4 r128 ?_
        refine g_aload_n (pc' := 45) dX4_readNumber_44 rfl rfl ?_
        refine ggX4_29 (pc' := 48) rfl dX4_readNumber_45 rfl l4 ?_
        rw [fI_at]
        refine gcv1 (pc' := 51) cwX4_45 cf6 dX4_readNumber_48 rfl l6 (Nat.le_of_ble_eq_true rfl) (Nat.le_of_ble_eq_true rfl) (Nat.le_of_ble_eq_true rfl) (Nat.le_of_ble_eq_true rfl) (Nat.le_of_ble_eq_true rfl) (kSignX (x := x) (p := p + 0) hRa hx (by omega) ?_)
        refine g_bipush (pc' := 53) (v := 48) dX4_readNumber_51 rfl rfl ?_
        refine g_isub (pc' := 54) dX4_readNumber_53 rfl ?_
        rw [show (48 : Int32) = nI 48 from rfl, pk_sub (by omega)]
        refine g_iadd (pc' := 55) dX4_readNumber_54 rfl ?_
        rw [nI_add]
        refine gistore4 (pc' := 57) dX4_readNumber_55 rfl (Nat.le_of_ble_eq_true rfl) rfl ?_
        refine g_aload_n (pc' := 58) dX4_readNumber_57 rfl rfl ?_
        refine g_dup (pc' := 59) dX4_readNumber_58 rfl rfl ?_
        refine ggX4_29 (pc' := 62) rfl dX4_readNumber_59 rfl l4 ?_
        rw [fI_at]
        refine g_iconst (pc' := 63) (v := 1) dX4_readNumber_62 rfl rfl ?_
        refine g_iadd (pc' := 64) dX4_readNumber_63 rfl ?_
        rw [nI_1]
        refine gpX4_29 (pc' := 67) rfl dX4_readNumber_64 rfl l4 ?_
        rw [sfI_sfI, Nat.add_assoc]
        refine g_goto dX4_readNumber_67 (pc' := 8) (by decide) ?_
        exact L2
    | false =>
      have hd2 : isD (x p) = false := hd1
      have hdg : dg x p = 0 := by rw [dg, if_neg (by rw [hd2]; decide)]
      have hv0 : vl x p = 0 := by rw [vl, if_neg (by rw [hd2]; decide)]
      rw [hv0] at F
      refine g_aload_n (pc' := 9) dX4_readNumber_8 rfl rfl ?_
      refine ggX4_29 (pc' := 12) rfl dX4_readNumber_9 rfl l4 ?_
      rw [fI_at]
      refine g_iload_n (pc' := 13) dX4_readNumber_12 rfl rfl ?_
      refine g_iconst (pc' := 14) (v := 2) dX4_readNumber_13 rfl rfl ?_
      refine g_iadd (pc' := 15) dX4_readNumber_14 rfl ?_
      rw [show (2 : Int32) = nI 2 from rfl, nI_add]
      refine g_icmp_ge dX4_readNumber_15 (tg := 70) (pc' := 18) (by decide) rfl (fun h15 => absurd h15 (by rw [nI_leI (by omega) (by omega)]; omega)) (fun h15 => ?_)
      refine g_aload_n (pc' := 19) dX4_readNumber_18 rfl rfl ?_
      refine ggX4_12 (pc' := 22) rfl dX4_readNumber_19 rfl l4 r128 ?_
      refine g_aload_n (pc' := 23) dX4_readNumber_22 rfl rfl ?_
      refine ggX4_29 (pc' := 26) rfl dX4_readNumber_23 rfl l4 ?_
      rw [fI_at]
      refine gcv1 (pc' := 29) cwX4_45 cf6 dX4_readNumber_26 rfl l6 (Nat.le_of_ble_eq_true rfl) (Nat.le_of_ble_eq_true rfl) (Nat.le_of_ble_eq_true rfl) (Nat.le_of_ble_eq_true rfl) (Nat.le_of_ble_eq_true rfl) (kSignX (x := x) (p := p + 0) hRa hx (by omega) ?_)
      refine gcs1 (pc' := 32) cwX4_70 dX4_readNumber_29 rfl (Nat.le_of_ble_eq_true rfl) (Nat.le_of_ble_eq_true rfl) (Nat.le_of_ble_eq_true rfl) (Nat.le_of_ble_eq_true rfl) (Nat.le_of_ble_eq_true rfl) (kX4_isDigit (c := x (p + 0)) (by omega) ?_)
      refine g_if_eq dX4_readNumber_32 (tg := 70) (pc' := 35) (by decide) rfl (fun h32 => ?_) (fun h32 => absurd (bI_f.mpr hd1) h32)
      exact F 0 hdg
  refine g_aload_n (pc' := 1) dX4_readNumber_0 rfl rfl ?_
  refine ggX4_29 (pc' := 4) rfl dX4_readNumber_1 rfl l4 ?_
  rw [hp]
  refine gistore_n3 (pc' := 5) dX4_readNumber_4 rfl (Nat.le_of_ble_eq_true rfl) rfl ?_
  refine g_iconst (pc' := 6) (v := 0) dX4_readNumber_5 rfl rfl ?_
  refine gistore4 (pc' := 8) dX4_readNumber_6 rfl (Nat.le_of_ble_eq_true rfl) rfl ?_
  rw [← sfI_id hp]
  exact L0

