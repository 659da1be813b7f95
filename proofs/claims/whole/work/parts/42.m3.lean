/-! THE MODEL (3): the letters of a job's expression -/
def LtM (S : gS) (j : Nat) (y : Nat → Nat) : Prop := ∀ p, p ≤ 60 → aI S 21 0 (61 * j + p) = nI (y p)
def okc (c : Nat) : Prop := c ≠ 44 ∧ c ≠ 32 ∧ c ≠ 0
theorem okc_D {c : Nat} (h : isD c = true) : okc c := by
  have := isD_in h
  unfold okc
  omega
theorem dg_mid {y : Nat → Nat} {p q : Nat} (h1 : p ≤ q) (h2 : q < p + dg y p) : okc (y q) := by
  unfold dg at h2
  split at h2
  · rename_i c1
    split at h2
    · rename_i c2
      rcases Nat.lt_or_ge q (p + 1) with z | z
      · rw [show q = p by omega]; exact okc_D c1
      · rw [show q = p + 1 by omega]; exact okc_D c2
    · rw [show q = p by omega]; exact okc_D c1
  · omega
def stpS (y : Nat → Nat) (a e st : Nat) : Prop := (y a = 47 ∧ 0 < dg y (a + 1) ∧ st = vl y (a + 1) ∧ 0 < st ∧ e = a + 1 + dg y (a + 1)) ∨ (y a ≠ 47 ∧ st = 1 ∧ e = a)
theorem stp_S {y : Nat → Nat} {a lo hi e lo' hi' st : Nat} (h : stp y a lo hi = .inr (e, lo', hi', st)) : stpS y a e st ∧ lo' = lo ∧ hi' = hi := by
  unfold stp at h
  split at h
  · rename_i h1
    split at h
    · cases h
    · rename_i h2
      cases h
      refine ⟨Or.inl ⟨h1, ?_, rfl, ?_, rfl⟩, rfl, rfl⟩ <;> omega
  · rename_i h1
    cases h
    exact ⟨Or.inr ⟨h1, rfl, rfl⟩, rfl, rfl⟩
theorem stpS_mid {y : Nat → Nat} {a e st q : Nat} (h : stpS y a e st) (h1 : a ≤ q) (h2 : q < e) : okc (y q) := by
  rcases h with ⟨c1, c2, c3, c4, c5⟩ | ⟨c1, c2, c3⟩
  · rcases Nat.lt_or_ge q (a + 1) with z | z
    · rw [show q = a by omega, c1]; unfold okc; omega
    · exact dg_mid z (by omega)
  · omega
theorem item_S {y : Nat → Nat} {p f e lo hi st : Nat} (h : item y p f = .inr (e, lo, hi, st)) (he : y e ≠ 47) : ∃ a, stpS y a e st ∧ ((y p = 42 ∧ a = p + 1 ∧ lo = fLo f ∧ hi = fHi f) ∨ (y p ≠ 42 ∧ 0 < dg y p ∧ a = p + dg y p ∧ y a ≠ 45 ∧ lo = vl y p ∧ hi = vl y p) ∨ (y p ≠ 42 ∧ 0 < dg y p ∧ y (p + dg y p) = 45 ∧ 0 < dg y (p + dg y p + 1) ∧ a = p + dg y p + 1 + dg y (p + dg y p + 1) ∧ lo = vl y p ∧ hi = vl y (p + dg y p + 1))) := by
  unfold item at h
  split at h
  · rename_i h1
    obtain ⟨q1, q2, q3⟩ := stp_S h
    exact ⟨_, q1, Or.inl ⟨h1, rfl, q2, q3⟩⟩
  · rename_i h1
    split at h
    · rename_i h2
      have h2 := (isN_in h2).1
      split at h
      · rename_i h3
        split at h
        · rename_i h4
          obtain ⟨q1, q2, q3⟩ := stp_S h
          exact ⟨_, q1, Or.inr (Or.inr ⟨h1, h2, h3, (isN_in h4).1, rfl, q2, q3⟩)⟩
        · cases h
      · rename_i h3
        cases h
        exact ⟨_, Or.inr ⟨he, rfl, rfl⟩, Or.inr (Or.inl ⟨h1, h2, rfl, h3, rfl, rfl⟩)⟩
    · cases h
theorem item_mid {y : Nat → Nat} {p f e lo hi st q : Nat} (h : item y p f = .inr (e, lo, hi, st)) (he : y e ≠ 47) (h1 : p ≤ q) (h2 : q < e) : okc (y q) := by
  obtain ⟨a, hS, hc⟩ := item_S h he
  rcases Nat.lt_or_ge q a with z | z
  · rcases hc with ⟨c1, c2, -⟩ | ⟨c1, c2, c3, -⟩ | ⟨c1, c2, c3, c4, c5, -⟩
    · rw [show q = p by omega, c1]; unfold okc; omega
    · exact dg_mid h1 (by omega)
    · rcases Nat.lt_or_ge q (p + dg y p) with z2 | z2
      · exact dg_mid h1 z2
      · rcases Nat.lt_or_ge q (p + dg y p + 1) with z3 | z3
        · rw [show q = p + dg y p by omega, c3]; unfold okc; omega
        · exact dg_mid z3 (by omega)
  · exact stpS_mid hS z h2
def mI (lo hi st v : Nat) : Bool := decide (lo ≤ v ∧ v ≤ hi ∧ (v - lo) % st = 0)
def fM (x : Nat → Nat) (f v : Nat) : Nat → Nat → Bool
  | 0, _ => false
  | k + 1, p => match item x p f with
    | .inl _ => false
    | .inr d => mI d.2.1 d.2.2.1 d.2.2.2 v || (if x d.1 = 44 then fM x f v k (d.1 + 1) else false)
def FM (x : Nat → Nat) (f v p : Nat) : Bool := fM x f v 61 p
theorem fM_fuel {x : Nat → Nat} {L f v : Nat} (h : txE x L) (hL : L ≤ 60) : ∀ k p, 61 ≤ p + k → fM x f v k p = fM x f v (k + 1) p
  | 0, p, hp => by
    rw [fM, fM, item_out h (by omega)]
  | k + 1, p, hp => by
    rw [fM, fM]
    cases e : item x p f with
    | inl q => rfl
    | inr d =>
      have h1 : p < d.1 := by
        rcases Nat.lt_or_ge p L with q | q
        · exact (item_in h (Nat.le_of_lt q) (by rw [e])).1
        · rw [item_out h q] at e; cases e
      simp only
      split
      · rw [fM_fuel h hL k (d.1 + 1) (by omega)]
      · rfl
theorem FM_r {x : Nat → Nat} {L p f v a lo hi st : Nat} (h : txE x L) (hL : L ≤ 60) (e : item x p f = .inr (a, lo, hi, st)) : FM x f v p = (mI lo hi st v || (if x a = 44 then FM x f v (a + 1) else false)) := by
  rw [FM, fM, e]
  simp only
  split
  · rw [FM, fM_fuel h hL 60 (a + 1) (by omega)]
  · rfl
theorem inIt_n {f lo hi st v : Nat} (h : f ≠ 4) : inIt f lo hi st v = mI lo hi st v := by
  unfold inIt mI
  refine decide_eq_decide.mpr ⟨?_, ?_⟩
  · rintro ⟨n, h1, h2, h3, h4⟩
    rw [kp, if_neg h] at h4
    subst h4
    exact ⟨h2, by omega, h3⟩
  · rintro ⟨h1, h2, h3⟩
    exact ⟨v, by omega, h1, h3, by rw [kp, if_neg h]⟩
theorem inIt_4 {lo hi st v : Nat} (hh : hi ≤ 7) (hv : v < 7) : inIt 4 lo hi st v = (mI lo hi st v || (decide (v = 0) && mI lo hi st 7)) := by
  unfold inIt mI
  rw [← Bool.decide_and, ← Bool.decide_or]
  refine decide_eq_decide.mpr ⟨?_, ?_⟩
  · rintro ⟨n, h1, h2, h3, h4⟩
    rw [kp, if_pos rfl] at h4
    rcases Nat.lt_or_ge n 7 with z | z
    · have e : v = n := by omega
      rw [e]
      exact Or.inl ⟨h2, by omega, h3⟩
    · have e : n = 7 := by omega
      rw [e] at h1 h2 h3 h4
      exact Or.inr ⟨by omega, h2, by omega, h3⟩
  · rintro (⟨h1, h2, h3⟩ | ⟨h0, h1, h2, h3⟩)
    · exact ⟨v, by omega, h1, h3, by rw [kp, if_pos rfl]; omega⟩
    · exact ⟨7, by omega, h1, h3, by rw [kp, if_pos rfl]; omega⟩
theorem fH_fM {x : Nat → Nat} {f v : Nat} (h : f ≠ 4) : ∀ k p, fH x f v k p = fM x f v k p
  | 0, p => rfl
  | k + 1, p => by
    rw [fH, fM]
    cases item x p f with
    | inl q => rfl
    | inr d =>
      simp only
      rw [inIt_n h, fH_fM h k]
theorem FH_FM {x : Nat → Nat} {f v p : Nat} (h : f ≠ 4) : FH x f v p = FM x f v p := fH_fM h 61 p
theorem fH_fM4 {x : Nat → Nat} {L v : Nat} (hx : txE x L) (hv : v < 7) : ∀ k p, fH x 4 v k p = (fM x 4 v k p || (decide (v = 0) && fM x 4 7 k p))
  | 0, p => by simp [fH, fM]
  | k + 1, p => by
    rw [fH, fM, fM]
    cases e : item x p 4 with
    | inl q => simp
    | inr d =>
      have hd : d.2.2.1 ≤ 7 := by
        rcases Nat.lt_or_ge p L with q | q
        · exact (item_in (lo := d.2.1) (st := d.2.2.2) hx (Nat.le_of_lt q) (by rw [e])).2.2.2.2.1
        · rw [item_out hx q] at e; cases e
      simp only
      rw [inIt_4 hd hv]
      split
      · rw [fH_fM4 hx hv k]
        cases mI d.2.1 d.2.2.1 d.2.2.2 v <;> cases decide (v = 0) <;> cases mI d.2.1 d.2.2.1 d.2.2.2 7 <;> cases fM x 4 v k (d.1 + 1) <;> cases fM x 4 7 k (d.1 + 1) <;> rfl
      · cases mI d.2.1 d.2.2.1 d.2.2.2 v <;> cases decide (v = 0) <;> cases mI d.2.1 d.2.2.1 d.2.2.2 7 <;> rfl
theorem FH_FM4 {x : Nat → Nat} {L v p : Nat} (hx : txE x L) (hv : v < 7) : FH x 4 v p = (FM x 4 v p || (decide (v = 0) && FM x 4 7 p)) := fH_fM4 hx hv 61 p
set_option maxRecDepth 100000 in
set_option maxHeartbeats 2000000 in
theorem kX8_isLetterDigit {E : gE} {S : gS} {y : Nat → Nat} {L j p : Nat} {Q : Option gV → gS → Prop} (hM : ModS S) (hLt : LtM S j y) (hy : txE y L) (hj : j < 6) (hp : p ≤ 60) (hQ : Q (some (vI (bI (isD (y p))))) S) : gRun E mX8_isLetterDigit 2 0 0 [vR 8 0 0, vI (nI (61 * j + p))] S [] Q := by
  refine gRun_of (ls := [some (vR 8 0 0), some (vI (nI (61 * j + p)))]) rfl (Nat.le_of_ble_eq_true rfl) rfl (fun ad => ?_)
  obtain ⟨l8, l20, l21, l22, l23, l24, l25, l26, l27, l28, l29, l30, l31, l32, l33, l34, l35, r262, r265, r266, r267, r268, r269, r270, r271, r272, r273, r274, r275, r276, r277, r278, r280⟩ := id hM
  refine g_aload_n (pc' := 1) dX8_isLetterDigit_0 rfl rfl ?_
  refine ggX8_20 (pc' := 4) rfl dX8_isLetterDigit_1 rfl l8 r265 ?_
  refine g_iload_n (pc' := 5) dX8_isLetterDigit_4 rfl rfl ?_
  refine g_iald (pc' := 6) (n := 61 * j + p) dX8_isLetterDigit_5 rfl (by decide) rfl rfl (show 61 * j + p < 366 by omega) l21 ?_
  rw [hLt p hp]
  refine gcs1 (pc' := 9) cwX8_78 dX8_isLetterDigit_6 rfl (Nat.le_of_ble_eq_true rfl) (Nat.le_of_ble_eq_true rfl) (Nat.le_of_ble_eq_true rfl) (Nat.le_of_ble_eq_true rfl) (Nat.le_of_ble_eq_true rfl) (kX8_isDigit (by have := txE_le hy p; omega) ?_)
  refine g_iret dX8_isLetterDigit_9 rfl (bI_nar _) (Nat.le_of_ble_eq_true rfl) (Nat.le_of_ble_eq_true rfl) ?_
  exact hQ

set_option maxRecDepth 100000 in
set_option maxHeartbeats 2000000 in
theorem kX8_numberFrom {E : gE} {S : gS} {y : Nat → Nat} {L j p : Nat} {Q : Option gV → gS → Prop} (hM : ModS S) (hLt : LtM S j y) (hy : txE y L) (hj : j < 6) (hL : L ≤ 60) (hd : 0 < dg y p) (hQ : Q (some (vI (nI (vl y p)))) S) : gRun E mX8_numberFrom 3 0 0 [vR 8 0 0, vI (nI (61 * j + p))] S [] Q := by
  refine gRun_of (ls := [some (vR 8 0 0), some (vI (nI (61 * j + p))), none]) rfl (Nat.le_of_ble_eq_true rfl) rfl (fun ad => ?_)
  obtain ⟨l8, l20, l21, l22, l23, l24, l25, l26, l27, l28, l29, l30, l31, l32, l33, l34, l35, r262, r265, r266, r267, r268, r269, r270, r271, r272, r273, r274, r275, r276, r277, r278, r280⟩ := id hM
  have hd1 : isD (y p) = true := by
    by_cases c : dg y p = 2
    · exact (dg_2 c).1
    · exact (dg_1 hd c).1
  have hdp := isD_in hd1
  have hpL := txE_D hy hd1
  refine g_aload_n (pc' := 1) dX8_numberFrom_0 rfl rfl ?_
  refine ggX8_20 (pc' := 4) rfl dX8_numberFrom_1 rfl l8 r265 ?_
  refine g_iload_n (pc' := 5) dX8_numberFrom_4 rfl rfl ?_
  refine g_iald (pc' := 6) (n := 61 * j + p) dX8_numberFrom_5 rfl (by decide) rfl rfl (show 61 * j + p < 366 by omega) l21 ?_
  rw [hLt p (by omega)]
  refine g_bipush (pc' := 8) (v := 48) dX8_numberFrom_6 rfl rfl ?_
  refine g_isub (pc' := 9) dX8_numberFrom_8 rfl ?_
  rw [show (48 : Int32) = nI 48 from rfl, pk_sub hdp.1]
  refine gistore_n2 (pc' := 10) dX8_numberFrom_9 rfl (Nat.le_of_ble_eq_true rfl) rfl ?_
  refine g_aload_n (pc' := 11) dX8_numberFrom_10 rfl rfl ?_
  refine g_iload_n (pc' := 12) dX8_numberFrom_11 rfl rfl ?_
  refine g_iconst (pc' := 13) (v := 1) dX8_numberFrom_12 rfl rfl ?_
  refine g_iadd (pc' := 14) dX8_numberFrom_13 rfl ?_
  rw [nI_1]
  refine gcv1 (pc' := 17) cwX8_109 cf8 dX8_numberFrom_14 rfl l8 (Nat.le_of_ble_eq_true rfl) (Nat.le_of_ble_eq_true rfl) (Nat.le_of_ble_eq_true rfl) (Nat.le_of_ble_eq_true rfl) (Nat.le_of_ble_eq_true rfl) (kX8_isLetterDigit (p := p + 1) hM hLt hy hj (by omega) ?_)
  refine g_if_eq dX8_numberFrom_17 (tg := 39) (pc' := 20) (by decide) rfl (fun h17 => ?_) (fun h17 => ?_)
  · refine g_iload_n (pc' := 40) dX8_numberFrom_39 rfl rfl ?_
    refine g_iret dX8_numberFrom_40 rfl rfl (Nat.le_of_ble_eq_true rfl) (Nat.le_of_ble_eq_true rfl) ?_
    first
      | exact gq hQ (by rw [vl, if_pos hd1, if_pos c2]; exact congrArg nI (by omega))
      | exact gq hQ (by rw [vl, if_pos hd1, if_neg (bbn h17)])
  · have c2 := bbp h17
    have c3 := isD_in c2
    refine g_bipush (pc' := 22) (v := 10) dX8_numberFrom_20 rfl rfl ?_
    refine g_iload_n (pc' := 23) dX8_numberFrom_22 rfl rfl ?_
    refine g_imul (pc' := 24) dX8_numberFrom_23 rfl ?_
    refine g_aload_n (pc' := 25) dX8_numberFrom_24 rfl rfl ?_
    refine ggX8_20 (pc' := 28) rfl dX8_numberFrom_25 rfl l8 r265 ?_
    refine g_iload_n (pc' := 29) dX8_numberFrom_28 rfl rfl ?_
    refine g_iconst (pc' := 30) (v := 1) dX8_numberFrom_29 rfl rfl ?_
    refine g_iadd (pc' := 31) dX8_numberFrom_30 rfl ?_
    rw [nI_1]
    refine g_iald (pc' := 32) (n := 61 * j + (p + 1)) dX8_numberFrom_31 rfl (by decide) rfl rfl (show 61 * j + (p + 1) < 366 by omega) l21 ?_
    rw [hLt (p + 1) (by omega)]
    refine g_iadd (pc' := 33) dX8_numberFrom_32 rfl ?_
    refine g_bipush (pc' := 35) (v := 48) dX8_numberFrom_33 rfl rfl ?_
    refine g_isub (pc' := 36) dX8_numberFrom_35 rfl ?_
    rw [show (10 : Int32) = nI 10 from rfl, pk_mul, nI_add, show (48 : Int32) = nI 48 from rfl, pk_sub (by omega)]
    refine g_goto dX8_numberFrom_36 (pc' := 40) (by decide) ?_
    refine g_iret dX8_numberFrom_40 rfl rfl (Nat.le_of_ble_eq_true rfl) (Nat.le_of_ble_eq_true rfl) ?_
    first
      | exact gq hQ (by rw [vl, if_pos hd1, if_pos c2]; exact congrArg nI (by omega))
      | exact gq hQ (by rw [vl, if_pos hd1, if_neg (bbn h17)])

set_option maxRecDepth 100000 in
set_option maxHeartbeats 2000000 in
theorem kX8_behindNumber {E : gE} {S : gS} {y : Nat → Nat} {L j p : Nat} {Q : Option gV → gS → Prop} (hM : ModS S) (hLt : LtM S j y) (hy : txE y L) (hj : j < 6) (hL : L ≤ 60) (hd : 0 < dg y p) (hQ : Q (some (vI (nI (61 * j + (p + dg y p))))) S) : gRun E mX8_behindNumber 3 0 0 [vR 8 0 0, vI (nI (61 * j + p))] S [] Q := by
  refine gRun_of (ls := [some (vR 8 0 0), some (vI (nI (61 * j + p)))]) rfl (Nat.le_of_ble_eq_true rfl) rfl (fun ad => ?_)
  obtain ⟨l8, l20, l21, l22, l23, l24, l25, l26, l27, l28, l29, l30, l31, l32, l33, l34, l35, r262, r265, r266, r267, r268, r269, r270, r271, r272, r273, r274, r275, r276, r277, r278, r280⟩ := id hM
  have hd1 : isD (y p) = true := by
    by_cases c : dg y p = 2
    · exact (dg_2 c).1
    · exact (dg_1 hd c).1
  have hdp := isD_in hd1
  have hpL := txE_D hy hd1
  refine g_aload_n (pc' := 1) dX8_behindNumber_0 rfl rfl ?_
  refine g_iload_n (pc' := 2) dX8_behindNumber_1 rfl rfl ?_
  refine g_iconst (pc' := 3) (v := 1) dX8_behindNumber_2 rfl rfl ?_
  refine g_iadd (pc' := 4) dX8_behindNumber_3 rfl ?_
  rw [nI_1]
  refine gcv1 (pc' := 7) cwX8_109 cf8 dX8_behindNumber_4 rfl l8 (Nat.le_of_ble_eq_true rfl) (Nat.le_of_ble_eq_true rfl) (Nat.le_of_ble_eq_true rfl) (Nat.le_of_ble_eq_true rfl) (Nat.le_of_ble_eq_true rfl) (kX8_isLetterDigit (p := p + 1) hM hLt hy hj (by omega) ?_)
  refine g_if_eq dX8_behindNumber_7 (tg := 16) (pc' := 10) (by decide) rfl (fun h7 => ?_) (fun h7 => ?_)
  · refine g_iload_n (pc' := 17) dX8_behindNumber_16 rfl rfl ?_
    refine g_iconst (pc' := 18) (v := 1) dX8_behindNumber_17 rfl rfl ?_
    refine g_iadd (pc' := 19) dX8_behindNumber_18 rfl ?_
    try rw [nI_1]
    refine g_iret dX8_behindNumber_19 rfl rfl (Nat.le_of_ble_eq_true rfl) (Nat.le_of_ble_eq_true rfl) ?_
    first
      | exact gq hQ (by rw [dg, if_pos hd1, if_pos (bbp h7)]; exact congrArg nI (by omega))
      | exact gq hQ (by rw [dg, if_pos hd1, if_neg (bbn h7)]; exact congrArg nI (by omega))
  · refine g_iload_n (pc' := 11) dX8_behindNumber_10 rfl rfl ?_
    refine g_iconst (pc' := 12) (v := 2) dX8_behindNumber_11 rfl rfl ?_
    refine g_iadd (pc' := 13) dX8_behindNumber_12 rfl ?_
    rw [show (2 : Int32) = nI 2 from rfl, nI_add]
    refine g_goto dX8_behindNumber_13 (pc' := 19) (by decide) ?_
    try rw [nI_1]
    refine g_iret dX8_behindNumber_19 rfl rfl (Nat.le_of_ble_eq_true rfl) (Nat.le_of_ble_eq_true rfl) ?_
    first
      | exact gq hQ (by rw [dg, if_pos hd1, if_pos (bbp h7)]; exact congrArg nI (by omega))
      | exact gq hQ (by rw [dg, if_pos hd1, if_neg (bbn h7)]; exact congrArg nI (by omega))

set_option maxRecDepth 100000 in
set_option maxHeartbeats 2000000 in
theorem kX8_itemHas {E : gE} {S : gS} {y : Nat → Nat} {L j p f v e lo hi st : Nat} {Q : Option gV → gS → Prop} (hM : ModS S) (hLt : LtM S j y) (hy : txE y L) (hj : j < 6) (hL : L ≤ 60) (hf : f < 5) (hv : v < 64) (e0 : item y p f = .inr (e, lo, hi, st)) (he : y e ≠ 47) (hQ : Q (some (vI (bI (mI lo hi st v)))) S) : gRun E mX8_itemHas 5 0 0 [vR 8 0 0, vI (nI (61 * j + p)), vI (nI f), vI (nI v)] S [] Q := by
  refine gRun_of (ls := [some (vR 8 0 0), some (vI (nI (61 * j + p))), some (vI (nI f)), some (vI (nI v)), none, none, none, none]) rfl (Nat.le_of_ble_eq_true rfl) rfl (fun ad => ?_)
  obtain ⟨l8, l20, l21, l22, l23, l24, l25, l26, l27, l28, l29, l30, l31, l32, l33, l34, l35, r262, r265, r266, r267, r268, r269, r270, r271, r272, r273, r274, r275, r276, r277, r278, r280⟩ := id hM
  obtain ⟨a, hS, hc⟩ := item_S e0 he
  have hin : p < L := by
    rcases Nat.lt_or_ge p L with q | q
    · exact q
    · rw [item_out hy q] at e0; cases e0
  obtain ⟨i1, i2, i3, i4, i5, hst, hst2⟩ := item_in hy (Nat.le_of_lt hin) e0
  have hl1 := fLo_le f
  have hh1 := fHi_le f
  have hvp := vl_le y p
  have hvp2 := vl_le y (p + dg y p + 1)
  have M104 : ∀ (a s : Nat) (_ : 0 < s) (_ : s < 100) (_ : st = s), gG E mX8_itemHas (gBof 5 0 0 ad [] Q) 104 [some (vR 8 0 0), some (vI (nI (61 * j + p))), some (vI (nI f)), some (vI (nI v)), some (vI (nI lo)), some (vI (nI hi)), some (vI (nI (61 * j + a))), some (vI (nI s))] [] S 0 0 := by
      intro a s q1 q2 q3
      subst q3
      refine g_iload_n (pc' := 105) dX8_itemHas_104 rfl rfl ?_
      refine g_iload (pc' := 107) dX8_itemHas_105 rfl rfl ?_
      refine g_icmp_lt dX8_itemHas_107 (tg := 130) (pc' := 110) (by decide) rfl (fun h107 => ?_) (fun h107 => ?_)
      · try rw [nI_ltI (by omega) (by omega)] at h107
        try rw [nI_ltI (by omega) (by omega)] at h113
        refine g_iconst (pc' := 131) (v := 0) dX8_itemHas_130 rfl rfl ?_
        refine g_iret dX8_itemHas_131 rfl rfl (Nat.le_of_ble_eq_true rfl) (Nat.le_of_ble_eq_true rfl) ?_
        first
          | exact gq hQ (bd_f (by omega))
          | (rw [show (0 : Int32) = nI 0 from rfl, nI_eq (by have := Nat.mod_lt (v - lo) hst; omega) (by decide)] at h123
             first
               | exact gq hQ (bd_t ⟨by omega, by omega, h123⟩)
               | exact gq hQ (bd_f (fun z => h123 z.2.2)))
      · rw [nI_ltI (by omega) (by omega)] at h107
        refine g_iload_n (pc' := 111) dX8_itemHas_110 rfl rfl ?_
        refine g_iload (pc' := 113) dX8_itemHas_111 rfl rfl ?_
        refine g_icmp_gt dX8_itemHas_113 (tg := 130) (pc' := 116) (by decide) rfl (fun h113 => ?_) (fun h113 => ?_)
        · try rw [nI_ltI (by omega) (by omega)] at h107
          try rw [nI_ltI (by omega) (by omega)] at h113
          refine g_iconst (pc' := 131) (v := 0) dX8_itemHas_130 rfl rfl ?_
          refine g_iret dX8_itemHas_131 rfl rfl (Nat.le_of_ble_eq_true rfl) (Nat.le_of_ble_eq_true rfl) ?_
          first
            | exact gq hQ (bd_f (by omega))
            | (rw [show (0 : Int32) = nI 0 from rfl, nI_eq (by have := Nat.mod_lt (v - lo) hst; omega) (by decide)] at h123
               first
                 | exact gq hQ (bd_t ⟨by omega, by omega, h123⟩)
                 | exact gq hQ (bd_f (fun z => h123 z.2.2)))
        · rw [nI_ltI (by omega) (by omega)] at h113
          refine g_iload_n (pc' := 117) dX8_itemHas_116 rfl rfl ?_
          refine g_iload (pc' := 119) dX8_itemHas_117 rfl rfl ?_
          refine g_isub (pc' := 120) dX8_itemHas_119 rfl ?_
          rw [pk_sub (by omega)]
          refine g_iload (pc' := 122) dX8_itemHas_120 rfl rfl ?_
          refine g_irem (pc' := 123) dX8_itemHas_122 rfl (nI_ne0 hst (by omega)) ?_
          rw [nI_rem (by omega) hst (by omega)]
          refine g_if_ne dX8_itemHas_123 (tg := 130) (pc' := 126) (by decide) rfl (fun h123 => ?_) (fun h123 => ?_)
          · try rw [nI_ltI (by omega) (by omega)] at h107
            try rw [nI_ltI (by omega) (by omega)] at h113
            refine g_iconst (pc' := 131) (v := 0) dX8_itemHas_130 rfl rfl ?_
            refine g_iret dX8_itemHas_131 rfl rfl (Nat.le_of_ble_eq_true rfl) (Nat.le_of_ble_eq_true rfl) ?_
            first
              | exact gq hQ (bd_f (by omega))
              | (rw [show (0 : Int32) = nI 0 from rfl, nI_eq (by have := Nat.mod_lt (v - lo) hst; omega) (by decide)] at h123
                 first
                   | exact gq hQ (bd_t ⟨by omega, by omega, h123⟩)
                   | exact gq hQ (bd_f (fun z => h123 z.2.2)))
          · refine g_iconst (pc' := 127) (v := 1) dX8_itemHas_126 rfl rfl ?_
            refine g_goto dX8_itemHas_127 (pc' := 131) (by decide) ?_
            refine g_iret dX8_itemHas_131 rfl rfl (Nat.le_of_ble_eq_true rfl) (Nat.le_of_ble_eq_true rfl) ?_
            first
              | exact gq hQ (bd_f (by omega))
              | (rw [show (0 : Int32) = nI 0 from rfl, nI_eq (by have := Nat.mod_lt (v - lo) hst; omega) (by decide)] at h123
                 first
                   | exact gq hQ (bd_t ⟨by omega, by omega, h123⟩)
                   | exact gq hQ (bd_f (fun z => h123 z.2.2)))
  have M78 : ∀ (a lo' hi' : Nat) (_ : stpS y a e st) (_ : a ≤ 60) (_ : lo' < 1000) (_ : hi' < 1000) (_ : lo = lo') (_ : hi = hi') {w : Option gV}, gG E mX8_itemHas (gBof 5 0 0 ad [] Q) 78 [some (vR 8 0 0), some (vI (nI (61 * j + p))), some (vI (nI f)), some (vI (nI v)), some (vI (nI lo')), some (vI (nI hi')), some (vI (nI (61 * j + a))), w] [] S 0 0 := by
    intro a lo' hi' hS ha q5 q6 q3 q4 w
    subst q3 q4
    rcases hS with ⟨c1, c2, c3, c4, c5⟩ | ⟨c1, c2, c3⟩
    · have haL := txE_nz hy (p := a) (by omega)
      refine g_aload_n (pc' := 79) dX8_itemHas_78 rfl rfl ?_
      refine ggX8_20 (pc' := 82) rfl dX8_itemHas_79 rfl l8 r265 ?_
      refine g_iload (pc' := 84) dX8_itemHas_82 rfl rfl ?_
      refine g_iald (pc' := 85) (n := 61 * j + a) dX8_itemHas_84 rfl (by decide) rfl rfl (show 61 * j + a < 366 by omega) l21 ?_
      rw [hLt a (by omega)]
      refine g_bipush (pc' := 87) (v := 47) dX8_itemHas_85 rfl rfl ?_
      refine g_icmp_ne dX8_itemHas_87 (tg := 101) (pc' := 90) (by decide) rfl (fun h87 => absurd (by rw [c1]; rfl) h87) (fun h87 => ?_)
      refine g_aload_n (pc' := 91) dX8_itemHas_90 rfl rfl ?_
      refine g_iload (pc' := 93) dX8_itemHas_91 rfl rfl ?_
      refine g_iconst (pc' := 94) (v := 1) dX8_itemHas_93 rfl rfl ?_
      refine g_iadd (pc' := 95) dX8_itemHas_94 rfl ?_
      rw [nI_1]
      refine gcv1 (pc' := 98) cwX8_112 cf8 dX8_itemHas_95 rfl l8 (Nat.le_of_ble_eq_true rfl) (Nat.le_of_ble_eq_true rfl) (Nat.le_of_ble_eq_true rfl) (Nat.le_of_ble_eq_true rfl) (Nat.le_of_ble_eq_true rfl) (kX8_numberFrom (p := a + 1) hM hLt hy hj hL c2 ?_)
      refine g_goto dX8_itemHas_98 (pc' := 102) (by decide) ?_
      refine gistore7 (pc' := 104) dX8_itemHas_102 rfl (Nat.le_of_ble_eq_true rfl) rfl ?_
      exact M104 a (vl y (a + 1)) (by omega) (by have := vl_le y (a + 1); omega) c3
    · skip
      refine g_aload_n (pc' := 79) dX8_itemHas_78 rfl rfl ?_
      refine ggX8_20 (pc' := 82) rfl dX8_itemHas_79 rfl l8 r265 ?_
      refine g_iload (pc' := 84) dX8_itemHas_82 rfl rfl ?_
      refine g_iald (pc' := 85) (n := 61 * j + a) dX8_itemHas_84 rfl (by decide) rfl rfl (show 61 * j + a < 366 by omega) l21 ?_
      rw [hLt a (by omega)]
      refine g_bipush (pc' := 87) (v := 47) dX8_itemHas_85 rfl rfl ?_
      refine g_icmp_ne dX8_itemHas_87 (tg := 101) (pc' := 90) (by decide) rfl (fun h87 => ?_) (fun h87 => absurd h87 (fun z => c1 (by rw [show (47 : Int32) = nI 47 from rfl, nI_eq (by have := txE_le hy a; omega) (by decide)] at z; exact z)))
      refine g_iconst (pc' := 102) (v := 1) dX8_itemHas_101 rfl rfl ?_
      refine gistore7 (pc' := 104) dX8_itemHas_102 rfl (Nat.le_of_ble_eq_true rfl) rfl ?_
      exact M104 a 1 (by omega) (by omega) c2
  rcases hc with ⟨c1, rfl, q2, q3⟩ | ⟨c1, c2, rfl, c4, q2, q3⟩ | ⟨c1, c2, c3, c4, rfl, q2, q3⟩
  · skip
    refine g_iload_n (pc' := 1) dX8_itemHas_0 rfl rfl ?_
    refine gcs1 (pc' := 4) cwX8_91 dX8_itemHas_1 rfl (Nat.le_of_ble_eq_true rfl) (Nat.le_of_ble_eq_true rfl) (Nat.le_of_ble_eq_true rfl) (Nat.le_of_ble_eq_true rfl) (Nat.le_of_ble_eq_true rfl) (kX8_least hf ?_)
    refine gistore4 (pc' := 6) dX8_itemHas_4 rfl (Nat.le_of_ble_eq_true rfl) rfl ?_
    refine g_iload_n (pc' := 7) dX8_itemHas_6 rfl rfl ?_
    refine gcs1 (pc' := 10) cwX8_88 dX8_itemHas_7 rfl (Nat.le_of_ble_eq_true rfl) (Nat.le_of_ble_eq_true rfl) (Nat.le_of_ble_eq_true rfl) (Nat.le_of_ble_eq_true rfl) (Nat.le_of_ble_eq_true rfl) (kX8_most hf ?_)
    refine gistore5 (pc' := 12) dX8_itemHas_10 rfl (Nat.le_of_ble_eq_true rfl) rfl ?_
    refine g_iload_n (pc' := 13) dX8_itemHas_12 rfl rfl ?_
    refine g_iconst (pc' := 14) (v := 1) dX8_itemHas_13 rfl rfl ?_
    refine g_iadd (pc' := 15) dX8_itemHas_14 rfl ?_
    rw [nI_1]
    refine gistore6 (pc' := 17) dX8_itemHas_15 rfl (Nat.le_of_ble_eq_true rfl) rfl ?_
    refine g_aload_n (pc' := 18) dX8_itemHas_17 rfl rfl ?_
    refine ggX8_20 (pc' := 21) rfl dX8_itemHas_18 rfl l8 r265 ?_
    refine g_iload_n (pc' := 22) dX8_itemHas_21 rfl rfl ?_
    refine g_iald (pc' := 23) (n := 61 * j + p) dX8_itemHas_22 rfl (by decide) rfl rfl (show 61 * j + p < 366 by omega) l21 ?_
    rw [hLt p (by omega)]
    refine g_bipush (pc' := 25) (v := 42) dX8_itemHas_23 rfl rfl ?_
    refine g_icmp_eq dX8_itemHas_25 (tg := 78) (pc' := 28) (by decide) rfl (fun h25 => ?_) (fun h25 => absurd (by rw [c1]; rfl) h25)
    exact M78 (p + 1) (fLo f) (fHi f) hS (by omega) (by omega) (by omega) q2 q3
  · have hda := dg_end hy (Nat.le_of_lt hin)
    refine g_iload_n (pc' := 1) dX8_itemHas_0 rfl rfl ?_
    refine gcs1 (pc' := 4) cwX8_91 dX8_itemHas_1 rfl (Nat.le_of_ble_eq_true rfl) (Nat.le_of_ble_eq_true rfl) (Nat.le_of_ble_eq_true rfl) (Nat.le_of_ble_eq_true rfl) (Nat.le_of_ble_eq_true rfl) (kX8_least hf ?_)
    refine gistore4 (pc' := 6) dX8_itemHas_4 rfl (Nat.le_of_ble_eq_true rfl) rfl ?_
    refine g_iload_n (pc' := 7) dX8_itemHas_6 rfl rfl ?_
    refine gcs1 (pc' := 10) cwX8_88 dX8_itemHas_7 rfl (Nat.le_of_ble_eq_true rfl) (Nat.le_of_ble_eq_true rfl) (Nat.le_of_ble_eq_true rfl) (Nat.le_of_ble_eq_true rfl) (Nat.le_of_ble_eq_true rfl) (kX8_most hf ?_)
    refine gistore5 (pc' := 12) dX8_itemHas_10 rfl (Nat.le_of_ble_eq_true rfl) rfl ?_
    refine g_iload_n (pc' := 13) dX8_itemHas_12 rfl rfl ?_
    refine g_iconst (pc' := 14) (v := 1) dX8_itemHas_13 rfl rfl ?_
    refine g_iadd (pc' := 15) dX8_itemHas_14 rfl ?_
    rw [nI_1]
    refine gistore6 (pc' := 17) dX8_itemHas_15 rfl (Nat.le_of_ble_eq_true rfl) rfl ?_
    refine g_aload_n (pc' := 18) dX8_itemHas_17 rfl rfl ?_
    refine ggX8_20 (pc' := 21) rfl dX8_itemHas_18 rfl l8 r265 ?_
    refine g_iload_n (pc' := 22) dX8_itemHas_21 rfl rfl ?_
    refine g_iald (pc' := 23) (n := 61 * j + p) dX8_itemHas_22 rfl (by decide) rfl rfl (show 61 * j + p < 366 by omega) l21 ?_
    rw [hLt p (by omega)]
    refine g_bipush (pc' := 25) (v := 42) dX8_itemHas_23 rfl rfl ?_
    refine g_icmp_eq dX8_itemHas_25 (tg := 78) (pc' := 28) (by decide) rfl (fun h25 => absurd h25 (fun z => c1 (by rw [show (42 : Int32) = nI 42 from rfl, nI_eq (by have := txE_le hy p; omega) (by decide)] at z; exact z))) (fun h25 => ?_)
    refine g_aload_n (pc' := 29) dX8_itemHas_28 rfl rfl ?_
    refine g_iload_n (pc' := 30) dX8_itemHas_29 rfl rfl ?_
    refine gcv1 (pc' := 33) cwX8_112 cf8 dX8_itemHas_30 rfl l8 (Nat.le_of_ble_eq_true rfl) (Nat.le_of_ble_eq_true rfl) (Nat.le_of_ble_eq_true rfl) (Nat.le_of_ble_eq_true rfl) (Nat.le_of_ble_eq_true rfl) (kX8_numberFrom (p := p) hM hLt hy hj hL c2 ?_)
    refine gistore4 (pc' := 35) dX8_itemHas_33 rfl (Nat.le_of_ble_eq_true rfl) rfl ?_
    refine g_iload (pc' := 37) dX8_itemHas_35 rfl rfl ?_
    refine gistore5 (pc' := 39) dX8_itemHas_37 rfl (Nat.le_of_ble_eq_true rfl) rfl ?_
    refine g_aload_n (pc' := 40) dX8_itemHas_39 rfl rfl ?_
    refine g_iload_n (pc' := 41) dX8_itemHas_40 rfl rfl ?_
    refine gcv1 (pc' := 44) cwX8_115 cf8 dX8_itemHas_41 rfl l8 (Nat.le_of_ble_eq_true rfl) (Nat.le_of_ble_eq_true rfl) (Nat.le_of_ble_eq_true rfl) (Nat.le_of_ble_eq_true rfl) (Nat.le_of_ble_eq_true rfl) (kX8_behindNumber (p := p) hM hLt hy hj hL c2 ?_)
    refine gistore6 (pc' := 46) dX8_itemHas_44 rfl (Nat.le_of_ble_eq_true rfl) rfl ?_
    refine g_aload_n (pc' := 47) dX8_itemHas_46 rfl rfl ?_
    refine ggX8_20 (pc' := 50) rfl dX8_itemHas_47 rfl l8 r265 ?_
    refine g_iload (pc' := 52) dX8_itemHas_50 rfl rfl ?_
    refine g_iald (pc' := 53) (n := 61 * j + (p + dg y p)) dX8_itemHas_52 rfl (by decide) rfl rfl (show 61 * j + (p + dg y p) < 366 by omega) l21 ?_
    rw [hLt (p + dg y p) (by omega)]
    refine g_bipush (pc' := 55) (v := 45) dX8_itemHas_53 rfl rfl ?_
    refine g_icmp_ne dX8_itemHas_55 (tg := 78) (pc' := 58) (by decide) rfl (fun h55 => ?_) (fun h55 => absurd h55 (fun z => c4 (by rw [show (45 : Int32) = nI 45 from rfl, nI_eq (by have := txE_le hy (p + dg y p); omega) (by decide)] at z; exact z)))
    exact M78 (p + dg y p) (vl y p) (vl y p) hS (by omega) (by omega) (by omega) q2 q3
  · have hda := dg_end hy (Nat.le_of_lt hin)
    have h45 := txE_nz hy (p := p + dg y p) (by omega)
    have hdb := dg_end hy (p := p + dg y p + 1) (by omega)
    refine g_iload_n (pc' := 1) dX8_itemHas_0 rfl rfl ?_
    refine gcs1 (pc' := 4) cwX8_91 dX8_itemHas_1 rfl (Nat.le_of_ble_eq_true rfl) (Nat.le_of_ble_eq_true rfl) (Nat.le_of_ble_eq_true rfl) (Nat.le_of_ble_eq_true rfl) (Nat.le_of_ble_eq_true rfl) (kX8_least hf ?_)
    refine gistore4 (pc' := 6) dX8_itemHas_4 rfl (Nat.le_of_ble_eq_true rfl) rfl ?_
    refine g_iload_n (pc' := 7) dX8_itemHas_6 rfl rfl ?_
    refine gcs1 (pc' := 10) cwX8_88 dX8_itemHas_7 rfl (Nat.le_of_ble_eq_true rfl) (Nat.le_of_ble_eq_true rfl) (Nat.le_of_ble_eq_true rfl) (Nat.le_of_ble_eq_true rfl) (Nat.le_of_ble_eq_true rfl) (kX8_most hf ?_)
    refine gistore5 (pc' := 12) dX8_itemHas_10 rfl (Nat.le_of_ble_eq_true rfl) rfl ?_
    refine g_iload_n (pc' := 13) dX8_itemHas_12 rfl rfl ?_
    refine g_iconst (pc' := 14) (v := 1) dX8_itemHas_13 rfl rfl ?_
    refine g_iadd (pc' := 15) dX8_itemHas_14 rfl ?_
    rw [nI_1]
    refine gistore6 (pc' := 17) dX8_itemHas_15 rfl (Nat.le_of_ble_eq_true rfl) rfl ?_
    refine g_aload_n (pc' := 18) dX8_itemHas_17 rfl rfl ?_
    refine ggX8_20 (pc' := 21) rfl dX8_itemHas_18 rfl l8 r265 ?_
    refine g_iload_n (pc' := 22) dX8_itemHas_21 rfl rfl ?_
    refine g_iald (pc' := 23) (n := 61 * j + p) dX8_itemHas_22 rfl (by decide) rfl rfl (show 61 * j + p < 366 by omega) l21 ?_
    rw [hLt p (by omega)]
    refine g_bipush (pc' := 25) (v := 42) dX8_itemHas_23 rfl rfl ?_
    refine g_icmp_eq dX8_itemHas_25 (tg := 78) (pc' := 28) (by decide) rfl (fun h25 => absurd h25 (fun z => c1 (by rw [show (42 : Int32) = nI 42 from rfl, nI_eq (by have := txE_le hy p; omega) (by decide)] at z; exact z))) (fun h25 => ?_)
    refine g_aload_n (pc' := 29) dX8_itemHas_28 rfl rfl ?_
    refine g_iload_n (pc' := 30) dX8_itemHas_29 rfl rfl ?_
    refine gcv1 (pc' := 33) cwX8_112 cf8 dX8_itemHas_30 rfl l8 (Nat.le_of_ble_eq_true rfl) (Nat.le_of_ble_eq_true rfl) (Nat.le_of_ble_eq_true rfl) (Nat.le_of_ble_eq_true rfl) (Nat.le_of_ble_eq_true rfl) (kX8_numberFrom (p := p) hM hLt hy hj hL c2 ?_)
    refine gistore4 (pc' := 35) dX8_itemHas_33 rfl (Nat.le_of_ble_eq_true rfl) rfl ?_
    refine g_iload (pc' := 37) dX8_itemHas_35 rfl rfl ?_
    refine gistore5 (pc' := 39) dX8_itemHas_37 rfl (Nat.le_of_ble_eq_true rfl) rfl ?_
    refine g_aload_n (pc' := 40) dX8_itemHas_39 rfl rfl ?_
    refine g_iload_n (pc' := 41) dX8_itemHas_40 rfl rfl ?_
    refine gcv1 (pc' := 44) cwX8_115 cf8 dX8_itemHas_41 rfl l8 (Nat.le_of_ble_eq_true rfl) (Nat.le_of_ble_eq_true rfl) (Nat.le_of_ble_eq_true rfl) (Nat.le_of_ble_eq_true rfl) (Nat.le_of_ble_eq_true rfl) (kX8_behindNumber (p := p) hM hLt hy hj hL c2 ?_)
    refine gistore6 (pc' := 46) dX8_itemHas_44 rfl (Nat.le_of_ble_eq_true rfl) rfl ?_
    refine g_aload_n (pc' := 47) dX8_itemHas_46 rfl rfl ?_
    refine ggX8_20 (pc' := 50) rfl dX8_itemHas_47 rfl l8 r265 ?_
    refine g_iload (pc' := 52) dX8_itemHas_50 rfl rfl ?_
    refine g_iald (pc' := 53) (n := 61 * j + (p + dg y p)) dX8_itemHas_52 rfl (by decide) rfl rfl (show 61 * j + (p + dg y p) < 366 by omega) l21 ?_
    rw [hLt (p + dg y p) (by omega)]
    refine g_bipush (pc' := 55) (v := 45) dX8_itemHas_53 rfl rfl ?_
    refine g_icmp_ne dX8_itemHas_55 (tg := 78) (pc' := 58) (by decide) rfl (fun h55 => absurd (by rw [c3]; rfl) h55) (fun h55 => ?_)
    refine g_aload_n (pc' := 59) dX8_itemHas_58 rfl rfl ?_
    refine g_iload (pc' := 61) dX8_itemHas_59 rfl rfl ?_
    refine g_iconst (pc' := 62) (v := 1) dX8_itemHas_61 rfl rfl ?_
    refine g_iadd (pc' := 63) dX8_itemHas_62 rfl ?_
    rw [nI_1]
    refine gcv1 (pc' := 66) cwX8_112 cf8 dX8_itemHas_63 rfl l8 (Nat.le_of_ble_eq_true rfl) (Nat.le_of_ble_eq_true rfl) (Nat.le_of_ble_eq_true rfl) (Nat.le_of_ble_eq_true rfl) (Nat.le_of_ble_eq_true rfl) (kX8_numberFrom (p := p + dg y p + 1) hM hLt hy hj hL c4 ?_)
    refine gistore5 (pc' := 68) dX8_itemHas_66 rfl (Nat.le_of_ble_eq_true rfl) rfl ?_
    refine g_aload_n (pc' := 69) dX8_itemHas_68 rfl rfl ?_
    refine g_iload (pc' := 71) dX8_itemHas_69 rfl rfl ?_
    refine g_iconst (pc' := 72) (v := 1) dX8_itemHas_71 rfl rfl ?_
    refine g_iadd (pc' := 73) dX8_itemHas_72 rfl ?_
    rw [nI_1]
    refine gcv1 (pc' := 76) cwX8_115 cf8 dX8_itemHas_73 rfl l8 (Nat.le_of_ble_eq_true rfl) (Nat.le_of_ble_eq_true rfl) (Nat.le_of_ble_eq_true rfl) (Nat.le_of_ble_eq_true rfl) (Nat.le_of_ble_eq_true rfl) (kX8_behindNumber (p := p + dg y p + 1) hM hLt hy hj hL c4 ?_)
    refine gistore6 (pc' := 78) dX8_itemHas_76 rfl (Nat.le_of_ble_eq_true rfl) rfl ?_
    exact M78 (p + dg y p + 1 + dg y (p + dg y p + 1)) (vl y p) (vl y (p + dg y p + 1)) hS (by omega) (by omega) (by omega) q2 q3

theorem FE_le {y : Nat → Nat} {L f p e : Nat} (hy : txE y L) (h : FE y f p = .inr e) : p < L := by
  rcases Nat.lt_or_ge p L with q | q
  · exact q
  · rw [FE_l (item_out hy q)] at h; cases h
theorem due47 {f c : Nat} (h : c = dueC f) : c ≠ 47 ∧ c ≠ 44 ∧ (c = 32 ∨ c = 0) := by
  unfold dueC at h
  split at h <;> omega
/-- the next item of a field that has no fault -/
theorem FE_next {y : Nat → Nat} {L f p e : Nat} (hy : txE y L) (hL : L ≤ 60) (h : FE y f p = .inr e) (he : y e = dueC f) : ∃ a lo hi st, item y p f = .inr (a, lo, hi, st) ∧ p < a ∧ a ≤ L ∧ y a ≠ 47 ∧ ((y a = 44 ∧ FE y f (a + 1) = .inr e) ∨ (y a ≠ 44 ∧ a = e)) := by
  have hp := FE_le hy h
  cases e0 : item y p f with
  | inl q => rw [FE_l e0] at h; cases h
  | inr d =>
    obtain ⟨a, lo, hi, st⟩ := d
    obtain ⟨i1, i2, -⟩ := item_in hy (Nat.le_of_lt hp) e0
    have h2 := h
    rw [FE_r hy hL e0] at h2
    by_cases c : y a = 44
    · rw [if_pos c] at h2
      exact ⟨a, lo, hi, st, rfl, i1, i2, by omega, Or.inl ⟨c, h2⟩⟩
    · rw [if_neg c] at h2
      have e1 : a = e := by injection h2
      have := due47 he
      exact ⟨a, lo, hi, st, rfl, i1, i2, by rw [e1]; omega, Or.inr ⟨c, e1⟩⟩
set_option maxRecDepth 100000 in
set_option maxHeartbeats 2000000 in
theorem kX8_has {E : gE} {S : gS} {y : Nat → Nat} {L j f v p0 e : Nat} {Q : Option gV → gS → Prop} (hM : ModS S) (hLt : LtM S j y) (hy : txE y L) (hL : L ≤ 60) (hj : j < 6) (hf : f < 5) (hp22 : aI S 22 0 (5 * j + f) = nI p0) (hF : FE y f p0 = .inr e) (he : y e = dueC f) (hv : v < 64) (hQ : Q (some (vI (bI (FM y f v p0)))) S) : gRun E mX8_has 6 0 0 [vR 8 0 0, vI (nI j), vI (nI f), vI (nI v)] S [] Q := by
  refine gRun_of (ls := [some (vR 8 0 0), some (vI (nI j)), some (vI (nI f)), some (vI (nI v)), none, none]) rfl (Nat.le_of_ble_eq_true rfl) rfl (fun ad => ?_)
  obtain ⟨l8, l20, l21, l22, l23, l24, l25, l26, l27, l28, l29, l30, l31, l32, l33, l34, l35, r262, r265, r266, r267, r268, r269, r270, r271, r272, r273, r274, r275, r276, r277, r278, r280⟩ := id hM
  obtain ⟨a, lo, hi, st, e0, ha1, ha2, h47, hr⟩ := FE_next hy hL hF he
  have LP : ∀ (k p a : Nat) (B : Bool) (_ : 61 ≤ p + k) (_ : p ≤ a) (ha : a ≤ L) (hm : ∀ q, p ≤ q → q < a → okc (y q)) (hr : (y a = 44 ∧ FE y f (a + 1) = .inr e) ∨ (y a ≠ 44 ∧ y a = dueC f)) (hB : (B || (if y a = 44 then FM y f v (a + 1) else false)) = FM y f v p0), gG E mX8_has (gBof 6 0 0 ad [] Q) 27 [some (vR 8 0 0), some (vI (nI j)), some (vI (nI f)), some (vI (nI v)), some (vI (nI (61 * j + p))), some (vI (bI B))] [] S 0 0 := by
    intro k
    induction k with
    | zero => intro p a B h1 h2 ha; omega
    | succ k ih =>
      intro p a B h1 h2 ha hm hr hB
      rcases Nat.lt_or_ge p a with c | c
      · obtain ⟨hk1, hk2, hk3⟩ := hm p (Nat.le_refl _) c
        refine g_aload_n (pc' := 28) dX8_has_27 rfl rfl ?_
        refine ggX8_20 (pc' := 31) rfl dX8_has_28 rfl l8 r265 ?_
        refine g_iload (pc' := 33) dX8_has_31 rfl rfl ?_
        refine g_iald (pc' := 34) (n := 61 * j + p) dX8_has_33 rfl (by decide) rfl rfl (show 61 * j + p < 366 by omega) l21 ?_
        rw [hLt p (by omega)]
        refine g_bipush (pc' := 36) (v := 32) dX8_has_34 rfl rfl ?_
        refine g_icmp_eq dX8_has_36 (tg := 95) (pc' := 39) (by decide) rfl (fun h36 => absurd h36 (fun z => hk2 (by rw [show (32 : Int32) = nI 32 from rfl, nI_eq (by have := txE_le hy p; omega) (by decide)] at z; exact z))) (fun h36 => ?_)
        refine g_aload_n (pc' := 40) dX8_has_39 rfl rfl ?_
        refine ggX8_20 (pc' := 43) rfl dX8_has_40 rfl l8 r265 ?_
        refine g_iload (pc' := 45) dX8_has_43 rfl rfl ?_
        refine g_iald (pc' := 46) (n := 61 * j + p) dX8_has_45 rfl (by decide) rfl rfl (show 61 * j + p < 366 by omega) l21 ?_
        rw [hLt p (by omega)]
        refine g_if_eq dX8_has_46 (tg := 95) (pc' := 49) (by decide) rfl (fun h46 => absurd h46 (fun z => hk3 (by rw [show (0 : Int32) = nI 0 from rfl, nI_eq (by have := txE_le hy p; omega) (by decide)] at z; exact z))) (fun h46 => ?_)
        refine g_aload_n (pc' := 50) dX8_has_49 rfl rfl ?_
        refine ggX8_20 (pc' := 53) rfl dX8_has_50 rfl l8 r265 ?_
        refine g_iload (pc' := 55) dX8_has_53 rfl rfl ?_
        refine g_iald (pc' := 56) (n := 61 * j + p) dX8_has_55 rfl (by decide) rfl rfl (show 61 * j + p < 366 by omega) l21 ?_
        rw [hLt p (by omega)]
        refine g_bipush (pc' := 58) (v := 44) dX8_has_56 rfl rfl ?_
        refine g_icmp_ne dX8_has_58 (tg := 86) (pc' := 61) (by decide) rfl (fun h58 => ?_) (fun h58 => absurd h58 (fun z => hk1 (by rw [show (44 : Int32) = nI 44 from rfl, nI_eq (by have := txE_le hy p; omega) (by decide)] at z; exact z)))
        refine g_iload (pc' := 88) dX8_has_86 rfl rfl ?_
        refine g_iconst (pc' := 89) (v := 1) dX8_has_88 rfl rfl ?_
        refine g_iadd (pc' := 90) dX8_has_89 rfl ?_
        rw [nI_1]
        refine gistore4 (pc' := 92) dX8_has_90 rfl (Nat.le_of_ble_eq_true rfl) rfl ?_
        refine g_goto dX8_has_92 (pc' := 27) (by decide) ?_
        exact ih (p + 1) a B (by omega) (by omega) ha (fun q h1 h2 => hm q (by omega) h2) hr hB
      · have e9 : p = a := by omega
        subst e9
        rcases hr with ⟨hr1, hr2⟩ | ⟨hr1, hr2⟩
        · have hk2 : y p ≠ 32 := by omega
          have hk3 : y p ≠ 0 := by omega
          have hpL := FE_le hy hr2
          obtain ⟨a2, lo2, hi2, st2, e1, hb1, ha2, h47, hr4⟩ := FE_next hy hL hr2 he
          have hr3 : (y a2 = 44 ∧ FE y f (a2 + 1) = .inr e) ∨ (y a2 ≠ 44 ∧ y a2 = dueC f) := by
            rcases hr4 with hr4 | hr4
            · exact Or.inl hr4
            · exact Or.inr ⟨hr4.1, by rw [hr4.2]; exact he⟩
          have hB2 : (B || (if y p = 44 then FM y f v (p + 1) else false)) = ((B || mI lo2 hi2 st2 v) || (if y a2 = 44 then FM y f v (a2 + 1) else false)) := by rw [if_pos hr1, FM_r hy hL e1, Bool.or_assoc]
          refine g_aload_n (pc' := 28) dX8_has_27 rfl rfl ?_
          refine ggX8_20 (pc' := 31) rfl dX8_has_28 rfl l8 r265 ?_
          refine g_iload (pc' := 33) dX8_has_31 rfl rfl ?_
          refine g_iald (pc' := 34) (n := 61 * j + p) dX8_has_33 rfl (by decide) rfl rfl (show 61 * j + p < 366 by omega) l21 ?_
          rw [hLt p (by omega)]
          refine g_bipush (pc' := 36) (v := 32) dX8_has_34 rfl rfl ?_
          refine g_icmp_eq dX8_has_36 (tg := 95) (pc' := 39) (by decide) rfl (fun h36 => absurd h36 (fun z => hk2 (by rw [show (32 : Int32) = nI 32 from rfl, nI_eq (by have := txE_le hy p; omega) (by decide)] at z; exact z))) (fun h36 => ?_)
          refine g_aload_n (pc' := 40) dX8_has_39 rfl rfl ?_
          refine ggX8_20 (pc' := 43) rfl dX8_has_40 rfl l8 r265 ?_
          refine g_iload (pc' := 45) dX8_has_43 rfl rfl ?_
          refine g_iald (pc' := 46) (n := 61 * j + p) dX8_has_45 rfl (by decide) rfl rfl (show 61 * j + p < 366 by omega) l21 ?_
          rw [hLt p (by omega)]
          refine g_if_eq dX8_has_46 (tg := 95) (pc' := 49) (by decide) rfl (fun h46 => absurd h46 (fun z => hk3 (by rw [show (0 : Int32) = nI 0 from rfl, nI_eq (by have := txE_le hy p; omega) (by decide)] at z; exact z))) (fun h46 => ?_)
          refine g_aload_n (pc' := 50) dX8_has_49 rfl rfl ?_
          refine ggX8_20 (pc' := 53) rfl dX8_has_50 rfl l8 r265 ?_
          refine g_iload (pc' := 55) dX8_has_53 rfl rfl ?_
          refine g_iald (pc' := 56) (n := 61 * j + p) dX8_has_55 rfl (by decide) rfl rfl (show 61 * j + p < 366 by omega) l21 ?_
          rw [hLt p (by omega)]
          refine g_bipush (pc' := 58) (v := 44) dX8_has_56 rfl rfl ?_
          refine g_icmp_ne dX8_has_58 (tg := 86) (pc' := 61) (by decide) rfl (fun h58 => absurd (by rw [hr1]; rfl) h58) (fun h58 => ?_)
          refine g_iload (pc' := 63) dX8_has_61 rfl rfl ?_
          refine g_if_ne dX8_has_63 (tg := 79) (pc' := 66) (by decide) rfl (fun h63 => ?_) (fun h63 => ?_)
          · refine g_iconst (pc' := 80) (v := 1) dX8_has_79 rfl rfl ?_
            refine g_goto dX8_has_80 (pc' := 84) (by decide) ?_
            refine gistore5 (pc' := 86) dX8_has_84 rfl (Nat.le_of_ble_eq_true rfl) rfl ?_
            refine g_iload (pc' := 88) dX8_has_86 rfl rfl ?_
            refine g_iconst (pc' := 89) (v := 1) dX8_has_88 rfl rfl ?_
            refine g_iadd (pc' := 90) dX8_has_89 rfl ?_
            rw [nI_1]
            refine gistore4 (pc' := 92) dX8_has_90 rfl (Nat.le_of_ble_eq_true rfl) rfl ?_
            refine g_goto dX8_has_92 (pc' := 27) (by decide) ?_
            first
              | exact ih (p + 1) a2 true (by omega) (by omega) ha2 (fun q h1 h2 => item_mid e1 h47 h1 h2) hr3 (by rw [← hB, hB2, bbp h63]; rfl)
              | exact ih (p + 1) a2 true (by omega) (by omega) ha2 (fun q h1 h2 => item_mid e1 h47 h1 h2) hr3 (by rw [← hB, hB2, bbp h76, Bool.true_or, Bool.or_true, Bool.true_or])
              | exact ih (p + 1) a2 false (by omega) (by omega) ha2 (fun q h1 h2 => item_mid e1 h47 h1 h2) hr3 (by rw [← hB, hB2, bI_f.mp h63, bI_f.mp h76]; rfl)
          · refine g_aload_n (pc' := 67) dX8_has_66 rfl rfl ?_
            refine g_iload (pc' := 69) dX8_has_67 rfl rfl ?_
            refine g_iconst (pc' := 70) (v := 1) dX8_has_69 rfl rfl ?_
            refine g_iadd (pc' := 71) dX8_has_70 rfl ?_
            refine g_iload_n (pc' := 72) dX8_has_71 rfl rfl ?_
            refine g_iload_n (pc' := 73) dX8_has_72 rfl rfl ?_
            rw [nI_1]
            refine gcv3 (pc' := 76) cwX8_118 cf8 dX8_has_73 rfl l8 (Nat.le_of_ble_eq_true rfl) (Nat.le_of_ble_eq_true rfl) (Nat.le_of_ble_eq_true rfl) (Nat.le_of_ble_eq_true rfl) (Nat.le_of_ble_eq_true rfl) (kX8_itemHas (p := p + 1) hM hLt hy hj hL hf hv e1 h47 ?_)
            refine g_if_eq dX8_has_76 (tg := 83) (pc' := 79) (by decide) rfl (fun h76 => ?_) (fun h76 => ?_)
            · refine g_iconst (pc' := 84) (v := 0) dX8_has_83 rfl rfl ?_
              refine gistore5 (pc' := 86) dX8_has_84 rfl (Nat.le_of_ble_eq_true rfl) rfl ?_
              refine g_iload (pc' := 88) dX8_has_86 rfl rfl ?_
              refine g_iconst (pc' := 89) (v := 1) dX8_has_88 rfl rfl ?_
              refine g_iadd (pc' := 90) dX8_has_89 rfl ?_
              rw [nI_1]
              refine gistore4 (pc' := 92) dX8_has_90 rfl (Nat.le_of_ble_eq_true rfl) rfl ?_
              refine g_goto dX8_has_92 (pc' := 27) (by decide) ?_
              first
                | exact ih (p + 1) a2 true (by omega) (by omega) ha2 (fun q h1 h2 => item_mid e1 h47 h1 h2) hr3 (by rw [← hB, hB2, bbp h63]; rfl)
                | exact ih (p + 1) a2 true (by omega) (by omega) ha2 (fun q h1 h2 => item_mid e1 h47 h1 h2) hr3 (by rw [← hB, hB2, bbp h76, Bool.true_or, Bool.or_true, Bool.true_or])
                | exact ih (p + 1) a2 false (by omega) (by omega) ha2 (fun q h1 h2 => item_mid e1 h47 h1 h2) hr3 (by rw [← hB, hB2, bI_f.mp h63, bI_f.mp h76]; rfl)
            · refine g_iconst (pc' := 80) (v := 1) dX8_has_79 rfl rfl ?_
              refine g_goto dX8_has_80 (pc' := 84) (by decide) ?_
              refine gistore5 (pc' := 86) dX8_has_84 rfl (Nat.le_of_ble_eq_true rfl) rfl ?_
              refine g_iload (pc' := 88) dX8_has_86 rfl rfl ?_
              refine g_iconst (pc' := 89) (v := 1) dX8_has_88 rfl rfl ?_
              refine g_iadd (pc' := 90) dX8_has_89 rfl ?_
              rw [nI_1]
              refine gistore4 (pc' := 92) dX8_has_90 rfl (Nat.le_of_ble_eq_true rfl) rfl ?_
              refine g_goto dX8_has_92 (pc' := 27) (by decide) ?_
              first
                | exact ih (p + 1) a2 true (by omega) (by omega) ha2 (fun q h1 h2 => item_mid e1 h47 h1 h2) hr3 (by rw [← hB, hB2, bbp h63]; rfl)
                | exact ih (p + 1) a2 true (by omega) (by omega) ha2 (fun q h1 h2 => item_mid e1 h47 h1 h2) hr3 (by rw [← hB, hB2, bbp h76, Bool.true_or, Bool.or_true, Bool.true_or])
                | exact ih (p + 1) a2 false (by omega) (by omega) ha2 (fun q h1 h2 => item_mid e1 h47 h1 h2) hr3 (by rw [← hB, hB2, bI_f.mp h63, bI_f.mp h76]; rfl)
        · rw [if_neg hr1, Bool.or_false] at hB
          rcases (due47 hr2).2.2 with hz | hz
          · skip
            refine g_aload_n (pc' := 28) dX8_has_27 rfl rfl ?_
            refine ggX8_20 (pc' := 31) rfl dX8_has_28 rfl l8 r265 ?_
            refine g_iload (pc' := 33) dX8_has_31 rfl rfl ?_
            refine g_iald (pc' := 34) (n := 61 * j + p) dX8_has_33 rfl (by decide) rfl rfl (show 61 * j + p < 366 by omega) l21 ?_
            rw [hLt p (by omega)]
            refine g_bipush (pc' := 36) (v := 32) dX8_has_34 rfl rfl ?_
            refine g_icmp_eq dX8_has_36 (tg := 95) (pc' := 39) (by decide) rfl (fun h36 => ?_) (fun h36 => absurd (by rw [hz]; rfl) h36)
            refine g_iload (pc' := 97) dX8_has_95 rfl rfl ?_
            refine g_iret dX8_has_97 rfl (bI_nar _) (Nat.le_of_ble_eq_true rfl) (Nat.le_of_ble_eq_true rfl) ?_
            exact gq hQ (by rw [← hB])
          · have hz2 : y p ≠ 32 := by omega
            refine g_aload_n (pc' := 28) dX8_has_27 rfl rfl ?_
            refine ggX8_20 (pc' := 31) rfl dX8_has_28 rfl l8 r265 ?_
            refine g_iload (pc' := 33) dX8_has_31 rfl rfl ?_
            refine g_iald (pc' := 34) (n := 61 * j + p) dX8_has_33 rfl (by decide) rfl rfl (show 61 * j + p < 366 by omega) l21 ?_
            rw [hLt p (by omega)]
            refine g_bipush (pc' := 36) (v := 32) dX8_has_34 rfl rfl ?_
            refine g_icmp_eq dX8_has_36 (tg := 95) (pc' := 39) (by decide) rfl (fun h36 => absurd h36 (fun z => hz2 (by rw [show (32 : Int32) = nI 32 from rfl, nI_eq (by have := txE_le hy p; omega) (by decide)] at z; exact z))) (fun h36 => ?_)
            refine g_aload_n (pc' := 40) dX8_has_39 rfl rfl ?_
            refine ggX8_20 (pc' := 43) rfl dX8_has_40 rfl l8 r265 ?_
            refine g_iload (pc' := 45) dX8_has_43 rfl rfl ?_
            refine g_iald (pc' := 46) (n := 61 * j + p) dX8_has_45 rfl (by decide) rfl rfl (show 61 * j + p < 366 by omega) l21 ?_
            rw [hLt p (by omega)]
            refine g_if_eq dX8_has_46 (tg := 95) (pc' := 49) (by decide) rfl (fun h46 => ?_) (fun h46 => absurd (by rw [hz]; rfl) h46)
            refine g_iload (pc' := 97) dX8_has_95 rfl rfl ?_
            refine g_iret dX8_has_97 rfl (bI_nar _) (Nat.le_of_ble_eq_true rfl) (Nat.le_of_ble_eq_true rfl) ?_
            exact gq hQ (by rw [← hB])
  refine g_bipush (pc' := 2) (v := 61) dX8_has_0 rfl rfl ?_
  refine g_iload_n (pc' := 3) dX8_has_2 rfl rfl ?_
  refine g_imul (pc' := 4) dX8_has_3 rfl ?_
  rw [show (61 : Int32) = nI 61 from rfl, pk_mul]
  refine g_aload_n (pc' := 5) dX8_has_4 rfl rfl ?_
  refine ggX8_23 (pc' := 8) rfl dX8_has_5 rfl l8 r266 ?_
  refine g_iconst (pc' := 9) (v := 5) dX8_has_8 rfl rfl ?_
  refine g_iload_n (pc' := 10) dX8_has_9 rfl rfl ?_
  
  refine g_imul (pc' := 11) dX8_has_10 rfl ?_
  rw [show (5 : Int32) = nI 5 from rfl, pk_mul]
  refine g_iload_n (pc' := 12) dX8_has_11 rfl rfl ?_
  refine g_iadd (pc' := 13) dX8_has_12 rfl ?_
  rw [nI_add]
  refine g_iald (pc' := 14) (n := 5 * j + f) dX8_has_13 rfl (by decide) rfl rfl (show 5 * j + f < 30 by omega) l22 ?_
  rw [hp22]
  refine g_iadd (pc' := 15) dX8_has_14 rfl ?_
  rw [nI_add]
  refine gistore4 (pc' := 17) dX8_has_15 rfl (Nat.le_of_ble_eq_true rfl) rfl ?_
  
  refine g_aload_n (pc' := 18) dX8_has_17 rfl rfl ?_
  refine g_iload (pc' := 20) dX8_has_18 rfl rfl ?_
  refine g_iload_n (pc' := 21) dX8_has_20 rfl rfl ?_
  refine g_iload_n (pc' := 22) dX8_has_21 rfl rfl ?_
  refine gcv3 (pc' := 25) cwX8_118 cf8 dX8_has_22 rfl l8 (Nat.le_of_ble_eq_true rfl) (Nat.le_of_ble_eq_true rfl) (Nat.le_of_ble_eq_true rfl) (Nat.le_of_ble_eq_true rfl) (Nat.le_of_ble_eq_true rfl) (kX8_itemHas (p := p0) hM hLt hy hj hL hf hv e0 h47 ?_)
  refine gistore5 (pc' := 27) dX8_has_25 rfl (Nat.le_of_ble_eq_true rfl) rfl ?_
  refine LP 61 p0 a (mI lo hi st v) (by omega) (by omega) ha2 (fun q h1 h2 => item_mid e0 h47 h1 h2) ?_ ?_
  · rcases hr with hr | hr
    · exact Or.inl hr
    · exact Or.inr ⟨hr.1, by rw [hr.2]; exact he⟩
  · rw [FM_r hy hL e0]

set_option maxRecDepth 100000 in
set_option maxHeartbeats 2000000 in
theorem kX8_isFree {E : gE} {S : gS} {y : Nat → Nat} {L j f p0 e : Nat} {Q : Option gV → gS → Prop} (hM : ModS S) (hLt : LtM S j y) (hy : txE y L) (hL : L ≤ 60) (hj : j < 6) (hf : f < 5) (hp22 : aI S 22 0 (5 * j + f) = nI p0) (hF : FE y f p0 = .inr e) (he : y e = dueC f) (hQ : Q (some (vI (bI (decide (y p0 = 42))))) S) : gRun E mX8_isFree 6 0 0 [vR 8 0 0, vI (nI j), vI (nI f)] S [] Q := by
  refine gRun_of (ls := [some (vR 8 0 0), some (vI (nI j)), some (vI (nI f))]) rfl (Nat.le_of_ble_eq_true rfl) rfl (fun ad => ?_)
  obtain ⟨l8, l20, l21, l22, l23, l24, l25, l26, l27, l28, l29, l30, l31, l32, l33, l34, l35, r262, r265, r266, r267, r268, r269, r270, r271, r272, r273, r274, r275, r276, r277, r278, r280⟩ := id hM
  have hpL := FE_le hy hF
  refine g_aload_n (pc' := 1) dX8_isFree_0 rfl rfl ?_
  refine ggX8_20 (pc' := 4) rfl dX8_isFree_1 rfl l8 r265 ?_
  refine g_bipush (pc' := 6) (v := 61) dX8_isFree_4 rfl rfl ?_
  refine g_iload_n (pc' := 7) dX8_isFree_6 rfl rfl ?_
  refine g_imul (pc' := 8) dX8_isFree_7 rfl ?_
  rw [show (61 : Int32) = nI 61 from rfl, pk_mul]
  refine g_aload_n (pc' := 9) dX8_isFree_8 rfl rfl ?_
  refine ggX8_23 (pc' := 12) rfl dX8_isFree_9 rfl l8 r266 ?_
  refine g_iconst (pc' := 13) (v := 5) dX8_isFree_12 rfl rfl ?_
  refine g_iload_n (pc' := 14) dX8_isFree_13 rfl rfl ?_
  refine g_imul (pc' := 15) dX8_isFree_14 rfl ?_
  rw [show (5 : Int32) = nI 5 from rfl, pk_mul]
  refine g_iload_n (pc' := 16) dX8_isFree_15 rfl rfl ?_
  refine g_iadd (pc' := 17) dX8_isFree_16 rfl ?_
  rw [nI_add]
  refine g_iald (pc' := 18) (n := 5 * j + f) dX8_isFree_17 rfl (by decide) rfl rfl (show 5 * j + f < 30 by omega) l22 ?_
  rw [hp22]
  refine g_iadd (pc' := 19) dX8_isFree_18 rfl ?_
  rw [nI_add]
  refine g_iald (pc' := 20) (n := 61 * j + p0) dX8_isFree_19 rfl (by decide) rfl rfl (show 61 * j + p0 < 366 by omega) l21 ?_
  rw [hLt p0 (by omega)]
  refine g_bipush (pc' := 22) (v := 42) dX8_isFree_20 rfl rfl ?_
  refine g_icmp_ne dX8_isFree_22 (tg := 29) (pc' := 25) (by decide) rfl (fun h22 => ?_) (fun h22 => ?_)
  · rw [show (42 : Int32) = nI 42 from rfl, nI_eq (by have := txE_le hy p0; omega) (by decide)] at h22
    refine g_iconst (pc' := 30) (v := 0) dX8_isFree_29 rfl rfl ?_
    refine g_iret dX8_isFree_30 rfl rfl (Nat.le_of_ble_eq_true rfl) (Nat.le_of_ble_eq_true rfl) ?_
    first
      | exact gq hQ (bd_t h22)
      | exact gq hQ (bd_f h22)
  · rw [show (42 : Int32) = nI 42 from rfl, nI_eq (by have := txE_le hy p0; omega) (by decide)] at h22
    refine g_iconst (pc' := 26) (v := 1) dX8_isFree_25 rfl rfl ?_
    refine g_goto dX8_isFree_26 (pc' := 30) (by decide) ?_
    refine g_iret dX8_isFree_30 rfl rfl (Nat.le_of_ble_eq_true rfl) (Nat.le_of_ble_eq_true rfl) ?_
    first
      | exact gq hQ (bd_t h22)
      | exact gq hQ (bd_f h22)

