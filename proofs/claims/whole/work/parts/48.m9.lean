/-! THE MODEL (9): starting, coming up -/
theorem tFR_rd {C : gS} {j : Nat} {now : Int32} : ∀ k i, tFR C j now k i = -1 ∨ ∃ t, i ≤ t ∧ t < i + k ∧ tFR C j now k i = nI t ∧ tReady C j t now (tDone C j t) = true
  | 0, _ => Or.inl rfl
  | k + 1, i => by
    unfold tFR
    split
    · rename_i h
      exact Or.inr ⟨i, Nat.le_refl _, by omega, rfl, h⟩
    · rcases tFR_rd (C := C) (j := j) (now := now) k (i + 1) with h | ⟨t, h1, h2, h3, h4⟩
      · exact Or.inl h
      · exact Or.inr ⟨t, by omega, by omega, h3, h4⟩
theorem rdy_n3 {C : gS} {j : Nat} (hc : jc C j ≤ 6) (h : tRdy C j (fI C 231 0 0) = true) : ¬ fI C 163 j (tFRn C j) = 3 := by
  intro z
  obtain ⟨h1, h2⟩ := tFRn_in hc h
  rcases tFR_rd (C := C) (j := j) (now := fI C 231 0 0) (jc C j) 0 with q | ⟨t, q1, q2, q3, q4⟩
  · rw [q] at h2
    exact nI_ne1 (by omega) h2.symm
  · have e : t = tFRn C j := by
      rw [q3] at h2
      exact (nI_eq (by omega) (by omega)).mp h2
    subst e
    unfold tReady at q4
    have q5 := (of_decide_eq_true q4).1
    rw [z] at q5
    rcases q5 with q5 | q5
    · exact absurd q5 (by decide)
    · exact absurd q5.1 (by decide)
theorem tStart_none {C : gS} (e : tFJ C (fI C 231 0 0) (jn C) = none) : ∀ f s, tStart f s C = (s, C)
  | 0, _ => rfl
  | f + 1, s => by rw [tStart, e]
set_option maxRecDepth 100000 in
set_option maxHeartbeats 2000000 in
theorem kX8_start {E : gE} {S : gS} {C : gS} {Q : Option gV → gS → Prop} (hM : ModS S) (hR : R0 C S) (hs : fI C 230 0 0 = nI (slN C)) (hs6 : slN C ≤ 6) (hb : tl C + 8 < 2 ^ 30) (hQ : ∀ T', R0 (tStartS C).2 T' → mK S T' → Q (some (vI (nI (tStartS C).1))) T') : gRun E mX8_start 3 0 0 [vR 8 0 0] S [] Q := by
  refine gRun_of (ls := [some (vR 8 0 0), none, none]) rfl (Nat.le_of_ble_eq_true rfl) rfl (fun ad => ?_)
  have LP : ∀ (f s : Nat) (C' T : gS) (hS : R0 C' T) (mT : mK S T) (hf : f = slN C - mcn T 36) (hbb : tl C' + f + 1 < 2 ^ 30) (hv : tStart f s C' = tStartS C), gG E mX8_start (gBof 3 0 0 ad [] Q) 7 [some (vR 8 0 0), some (vI (nI s)), some (vI (bstI C' (tFJ C' (fI C' 231 0 0) (jn C'))))] [] T 0 0 := by
    intro f
    induction f with
    | zero =>
      intro s C' T hS mT hf hbb hv
      have hMT := hM.mk mT
      obtain ⟨l8, l20, l21, l22, l23, l24, l25, l26, l27, l28, l29, l30, l31, l32, l33, l34, l35, r262, r265, r266, r267, r268, r269, r270, r271, r272, r273, r274, r275, r276, r277, r278, r280⟩ := id hMT
      have hm36 := mcn_le T 36
      have hfree : fI T 258 0 0 = nI (slN C) := by rw [mT.2.2.2.2.1 258 0 0 rfl, hR.1.2.2.1]; exact hs
      have h0 : tStart 0 s C' = (s, C') := rfl
      rw [h0] at hv
      have fin0 : Q (some (vI (nI s))) T := by
        rw [← hv] at hQ
        exact hQ T hS mT
      cases e : tFJ C' (fI C' 231 0 0) (jn C') with
      | none =>
        show gG E mX8_start (gBof 3 0 0 ad [] Q) 7 [some (vR 8 0 0), some (vI (nI s)), some (vI (-1))] [] T 0 0
        refine g_iload_n (pc' := 8) dX8_start_7 rfl rfl ?_
        refine g_if_lt dX8_start_8 (tg := 54) (pc' := 11) (by decide) rfl (fun h8 => ?_) (fun h8 => absurd (by decide) h8)
        refine g_iload_n (pc' := 55) dX8_start_54 rfl rfl ?_
        refine g_iret dX8_start_55 rfl rfl (Nat.le_of_ble_eq_true rfl) (Nat.le_of_ble_eq_true rfl) ?_
        exact fin0
      | some j =>
        have fin1 := fin0
        obtain ⟨hj, hrd⟩ := tFJ_in e
        have hj6 := hS.j6
        have hcj := hS.c6 hj
        have htn := (tFRn_in hcj hrd).1
        show gG E mX8_start (gBof 3 0 0 ad [] Q) 7 [some (vR 8 0 0), some (vI (nI s)), some (vI (nI (6 * j + tFRn C' j)))] [] T 0 0
        refine g_iload_n (pc' := 8) dX8_start_7 rfl rfl ?_
        refine g_if_lt dX8_start_8 (tg := 54) (pc' := 11) (by decide) rfl (fun h8 => absurd h8 (nI_pos (by omega))) (fun h8 => ?_)
        refine g_aload_n (pc' := 12) dX8_start_11 rfl rfl ?_
        refine gcv0 (pc' := 15) cwX8_186 cf8 dX8_start_12 rfl l8 (Nat.le_of_ble_eq_true rfl) (Nat.le_of_ble_eq_true rfl) (Nat.le_of_ble_eq_true rfl) (Nat.le_of_ble_eq_true rfl) (Nat.le_of_ble_eq_true rfl) (kX8_runningTasks hMT ?_)
        refine g_aload_n (pc' := 16) dX8_start_15 rfl rfl ?_
        refine ggX8_7 (pc' := 19) rfl dX8_start_16 rfl l8 ?_
        refine g_icmp_ge dX8_start_19 (tg := 54) (pc' := 22) (by decide) rfl (fun h19 => ?_) (fun h19 => absurd (by rw [hfree, nI_leI (by omega) (by omega)]; omega) h19)
        refine g_iload_n (pc' := 55) dX8_start_54 rfl rfl ?_
        refine g_iret dX8_start_55 rfl rfl (Nat.le_of_ble_eq_true rfl) (Nat.le_of_ble_eq_true rfl) ?_
        exact fin1
    | succ f ih =>
      intro s C' T hS mT hf hbb hv
      have hMT := hM.mk mT
      obtain ⟨l8, l20, l21, l22, l23, l24, l25, l26, l27, l28, l29, l30, l31, l32, l33, l34, l35, r262, r265, r266, r267, r268, r269, r270, r271, r272, r273, r274, r275, r276, r277, r278, r280⟩ := id hMT
      have hm36 := mcn_le T 36
      have hfree : fI T 258 0 0 = nI (slN C) := by rw [mT.2.2.2.2.1 258 0 0 rfl, hR.1.2.2.1]; exact hs
      cases e : tFJ C' (fI C' 231 0 0) (jn C') with
      | none =>
        have fin0 : Q (some (vI (nI s))) T := by
          rw [tStart_none e] at hv
          rw [← hv] at hQ
          exact hQ T hS mT
        show gG E mX8_start (gBof 3 0 0 ad [] Q) 7 [some (vR 8 0 0), some (vI (nI s)), some (vI (-1))] [] T 0 0
        refine g_iload_n (pc' := 8) dX8_start_7 rfl rfl ?_
        refine g_if_lt dX8_start_8 (tg := 54) (pc' := 11) (by decide) rfl (fun h8 => ?_) (fun h8 => absurd (by decide) h8)
        refine g_iload_n (pc' := 55) dX8_start_54 rfl rfl ?_
        refine g_iret dX8_start_55 rfl rfl (Nat.le_of_ble_eq_true rfl) (Nat.le_of_ble_eq_true rfl) ?_
        exact fin0
      | some j =>
        obtain ⟨hj, hrd⟩ := tFJ_in e
        have hj6 := hS.j6
        have hcj := hS.c6 hj
        have htn := (tFRn_in hcj hrd).1
        have hn3 := rdy_n3 hcj hrd
        rw [tStart, e] at hv
        have hR1 : R0 (tPut C' j) (tLM (saI T 32 0 (6 * j + tFRn C' j) 3) (tl C') 3 (fI C' 231 0 0) (nI j) (nI (tFRn C' j))) := R0.note (k := 3) (m := fI C' 231 0 0) (j := nI j) (t := nI (tFRn C' j)) (hS.set hj htn (s := 3) (by decide) (by decide)) (by show tl C' + 1 < _; omega)
        have hM1 : ModS (tLM (saI T 32 0 (6 * j + tFRn C' j) 3) (tl C') 3 (fI C' 231 0 0) (nI j) (nI (tFRn C' j))) := hMT.of rfl rfl
        have tlP : tl (tPut C' j) = tl C' + 1 := tl_note (by show tl C' + 1 < _; omega)
        have hmc : mcn (tLM (saI T 32 0 (6 * j + tFRn C' j) 3) (tl C') 3 (fI C' 231 0 0) (nI j) (nI (tFRn C' j))) 36 = mcn T 36 + 1 := by
          rw [mcn_set (T := T) (k := 6 * j + tFRn C' j) (by rw [(hS.st hj htn).1]; exact hn3) (by rw [tLM_a (by decide)]; exact aI_at) (fun i hi => by rw [tLM_a (by decide)]; exact aPair (fun z => hi z.2.2)) 36, if_pos (by omega)]
        show gG E mX8_start (gBof 3 0 0 ad [] Q) 7 [some (vR 8 0 0), some (vI (nI s)), some (vI (nI (6 * j + tFRn C' j)))] [] T 0 0
        refine g_iload_n (pc' := 8) dX8_start_7 rfl rfl ?_
        refine g_if_lt dX8_start_8 (tg := 54) (pc' := 11) (by decide) rfl (fun h8 => absurd h8 (nI_pos (by omega))) (fun h8 => ?_)
        refine g_aload_n (pc' := 12) dX8_start_11 rfl rfl ?_
        refine gcv0 (pc' := 15) cwX8_186 cf8 dX8_start_12 rfl l8 (Nat.le_of_ble_eq_true rfl) (Nat.le_of_ble_eq_true rfl) (Nat.le_of_ble_eq_true rfl) (Nat.le_of_ble_eq_true rfl) (Nat.le_of_ble_eq_true rfl) (kX8_runningTasks hMT ?_)
        refine g_aload_n (pc' := 16) dX8_start_15 rfl rfl ?_
        refine ggX8_7 (pc' := 19) rfl dX8_start_16 rfl l8 ?_
        refine g_icmp_ge dX8_start_19 (tg := 54) (pc' := 22) (by decide) rfl (fun h19 => absurd h19 (by rw [hfree, nI_leI (by omega) (by omega)]; omega)) (fun h19 => ?_)
        refine g_aload_n (pc' := 23) dX8_start_22 rfl rfl ?_
        refine ggX8_54 (pc' := 26) rfl dX8_start_23 rfl l8 r276 ?_
        refine g_iload_n (pc' := 27) dX8_start_26 rfl rfl ?_
        refine g_iconst (pc' := 28) (v := 3) dX8_start_27 rfl rfl ?_
        refine g_iast (pc' := 29) (n := 6 * j + tFRn C' j) dX8_start_28 rfl (by decide) rfl rfl (show 6 * j + tFRn C' j < 36 by omega) l32 ?_
        refine g_aload_n (pc' := 30) dX8_start_29 rfl rfl ?_
        refine g_iconst (pc' := 31) (v := 3) dX8_start_30 rfl rfl ?_
        refine g_iload_n (pc' := 32) dX8_start_31 rfl rfl ?_
        refine g_bipush (pc' := 34) (v := 6) dX8_start_32 rfl rfl ?_
        refine g_idiv (pc' := 35) dX8_start_34 rfl (by decide) ?_
        rw [show (6 : Int32) = nI 6 from rfl, pk_div (by omega) (by decide) (by decide), show (6 * j + tFRn C' j) / 6 = j by omega]
        refine g_iload_n (pc' := 36) dX8_start_35 rfl rfl ?_
        refine g_bipush (pc' := 38) (v := 6) dX8_start_36 rfl rfl ?_
        refine g_irem (pc' := 39) dX8_start_38 rfl (by decide) ?_
        rw [show (6 : Int32) = nI 6 from rfl, nI_rem (by omega) (by decide) (by decide), show (6 * j + tFRn C' j) % 6 = tFRn C' j by omega]
        refine gcv3 (pc' := 42) cwX8_176 cf8 dX8_start_39 rfl l8 (Nat.le_of_ble_eq_true rfl) (Nat.le_of_ble_eq_true rfl) (Nat.le_of_ble_eq_true rfl) (Nat.le_of_ble_eq_true rfl) (Nat.le_of_ble_eq_true rfl) (kX8_note (n := tl C') (hMT.of rfl rfl) hS.tot (by omega) ?_)
        rw [show fI (saI T 32 0 (6 * j + tFRn C' j) 3) 257 0 0 = fI C' 231 0 0 from hS.now]
        refine g_iload_n (pc' := 43) dX8_start_42 rfl rfl ?_
        refine g_iconst (pc' := 44) (v := 1) dX8_start_43 rfl rfl ?_
        refine g_iadd (pc' := 45) dX8_start_44 rfl ?_
        rw [nI_1]
        refine gistore_n1 (pc' := 46) dX8_start_45 rfl (Nat.le_of_ble_eq_true rfl) rfl ?_
        refine g_aload_n (pc' := 47) dX8_start_46 rfl rfl ?_
        refine gcv0 (pc' := 50) cwX8_183 cf8 dX8_start_47 rfl l8 (Nat.le_of_ble_eq_true rfl) (Nat.le_of_ble_eq_true rfl) (Nat.le_of_ble_eq_true rfl) (Nat.le_of_ble_eq_true rfl) (Nat.le_of_ble_eq_true rfl) (kX8_best (C := tPut C' j) hM1 hR1 ?_)
        refine gistore_n2 (pc' := 51) dX8_start_50 rfl (Nat.le_of_ble_eq_true rfl) rfl ?_
        refine g_goto dX8_start_51 (pc' := 7) (by decide) ?_
        exact ih (s + 1) (tPut C' j) _ hR1 (mT.tr ((mK_saI rfl).tr tLM_mK)) (by rw [hmc]; omega) (by rw [tlP]; omega) hv
  obtain ⟨l8, l20, l21, l22, l23, l24, l25, l26, l27, l28, l29, l30, l31, l32, l33, l34, l35, r262, r265, r266, r267, r268, r269, r270, r271, r272, r273, r274, r275, r276, r277, r278, r280⟩ := id hM
  refine g_iconst (pc' := 1) (v := 0) dX8_start_0 rfl rfl ?_
  refine gistore_n1 (pc' := 2) dX8_start_1 rfl (Nat.le_of_ble_eq_true rfl) rfl ?_
  refine g_aload_n (pc' := 3) dX8_start_2 rfl rfl ?_
  refine gcv0 (pc' := 6) cwX8_183 cf8 dX8_start_3 rfl l8 (Nat.le_of_ble_eq_true rfl) (Nat.le_of_ble_eq_true rfl) (Nat.le_of_ble_eq_true rfl) (Nat.le_of_ble_eq_true rfl) (Nat.le_of_ble_eq_true rfl) (kX8_best hM hR ?_)
  refine gistore_n2 (pc' := 7) dX8_start_6 rfl (Nat.le_of_ble_eq_true rfl) rfl ?_
  exact LP (slN C - mcn S 36) 0 C S hR mK.rf rfl (by have := mcn_le S 36; omega) (by rw [tStartS, ← mcn_36 hR])

theorem tTurn_f {C : gS} {w g a b : Nat} (h : 4 ≤ g) : fI (tTurn C w) g a b = fI C g a b := by
  simp only [tTurn, fI_sfI]
  rw [if_neg (by omega), if_neg (by omega), if_neg (by omega), if_neg (by omega)]
theorem R0.turn {C S : gS} {w : Nat} (h : R0 C S) : R0 (tTurn C w) S := by
  unfold R0 RN LG RJ RB JK TK tl jn jc at *
  simp (disch := decide) only [tTurn_f]
  exact h
/-- the two expressions of a job say the same -/
def RX (C S : gS) (j : Nat) : Prop := ∃ (y : Nat → Nat) (L : Nat), XM S j y L ∧ (∀ f, f < 5 → ∀ v, v < 64 → eBit (aL C 12 j f) v = FH y f v (fsx y f)) ∧ fI C 33 j 0 = bI (mFr y)
theorem RX.of {C C' S S' : gS} {j : Nat} (h : RX C S j) (a : aL C' 12 j = aL C 12 j) (b : fI C' 33 j 0 = fI C 33 j 0) (c : ∀ i, aI S' 21 0 i = aI S 21 0 i) (d : ∀ i, aI S' 22 0 i = aI S 22 0 i) : RX C' S' j := by
  obtain ⟨y, L, ⟨x1, x2, x3, x4, x5⟩, h2, h3⟩ := h
  exact ⟨y, L, ⟨fun p hp => by rw [c]; exact x1 p hp, x2, x3, x4, fun f hf => by rw [d]; exact x5 f hf⟩, by rw [a]; exact h2, by rw [b]; exact h3⟩
theorem RX.keep {C C' S S' : gS} {j : Nat} (h : RX C S j) (k : tKeep d2 C C') (m : mK S S') : RX C' S' j := h.of (by rw [k.2.2.2.1]) (k.2.2.2.2.1 33 j 0 rfl) (fun i => by rw [m.2.2.2.2.2 21 rfl]) (fun i => by rw [m.2.2.2.2.2 22 rfl])
theorem RX.holds {C S : gS} {j L : Nat} {y : Nat → Nat} (hx : XM S j y L) (hb : ∀ f, f < 5 → ∀ v, v < 64 → eBit (aL C 12 j f) v = FH y f v (fsx y f)) (hf : fI C 33 j 0 = bI (mFr y)) {m : Nat} (hm : m < 20000000) : eHolds C j m = mHo y m := by
  have hd := dD_in (m / 1440)
  have hmm := dM_in (m / 1440)
  have e0 : eTime C j (m % 1440) = mTime y (m % 1440) := by
    unfold eTime mTime mH
    rw [hb 0 (by decide) _ (by omega), hb 1 (by decide) _ (by omega), FH_FM (by decide), FH_FM (by decide)]
  have e1 : eDay C j (m / 1440) = mDay y (m / 1440) := by
    unfold eDay mDay mWk mH
    rw [hb 2 (by decide) _ (by omega), hb 3 (by decide) _ (by omega), hb 4 (by decide) _ (by omega), FH_FM (by decide), FH_FM (by decide), FH_FM4 hx.2.1 (by omega), hf]
    cases mFr y <;> rfl
  rw [eHolds, mHo, e0, e1]
theorem eHolds_keep {C C' : gS} {j : Nat} (a : aL C' 12 j = aL C 12 j) (b : fI C' 33 j 0 = fI C 33 j 0) : eHolds C' j = eHolds C j := by
  funext m
  unfold eHolds eTime eDay
  rw [a, b]
theorem fT_congr {p q : Nat → Bool} : ∀ (k t : Nat), (∀ i, t ≤ i → i < t + k → p i = q i) → fT p k t = fT q k t
  | 0, _, _ => rfl
  | k + 1, t, h => by
    rw [fT, fT, h t (Nat.le_refl _) (by omega), fT_congr k (t + 1) (fun i a b => h i (by omega) (by omega))]
theorem fT_ge {p : Nat → Bool} {k t : Nat} (h : t + k ≤ 2 ^ 30) : fT p k t < 0 ↔ fT p k t = -1 := by
  rcases fT_spec p k t with ⟨h1, -⟩ | ⟨f, h1, h2, -, -, h3⟩
  · rw [h1]; decide
  · rw [h3]
    exact ⟨fun z => absurd z (nI_pos (by omega)), fun z => absurd z (nI_ne1 (by omega))⟩
/-- ending what runs, place by place -/
def gk (C : gS) : Nat → gS
  | 0 => C
  | k + 1 => if k / 6 < jn C ∧ k % 6 < jc C (k / 6) ∧ fI (gk C k) 163 (k / 6) (k % 6) = 3 then tEnd (gk C k) (k / 6) (k % 6) 0 else gk C k
theorem gk_in {C : gS} {j : Nat} (hj : j < jn C) (hc : jc C j ≤ 6) : ∀ t, t ≤ 6 → gk C (6 * j + t) = tCT j (min t (jc C j)) (gk C (6 * j))
  | 0, _ => by rw [Nat.zero_min]; rfl
  | t + 1, ht => by
    have ih := gk_in hj hc t (by omega)
    show (if (6 * j + t) / 6 < jn C ∧ (6 * j + t) % 6 < jc C ((6 * j + t) / 6) ∧ fI (gk C (6 * j + t)) 163 ((6 * j + t) / 6) ((6 * j + t) % 6) = 3 then tEnd (gk C (6 * j + t)) ((6 * j + t) / 6) ((6 * j + t) % 6) 0 else gk C (6 * j + t)) = _
    rw [show (6 * j + t) / 6 = j by omega, show (6 * j + t) % 6 = t by omega, ih]
    rcases Nat.lt_or_ge t (jc C j) with q | q
    · rw [Nat.min_eq_left (Nat.le_of_lt q), Nat.min_eq_left (show t + 1 ≤ jc C j from q), tCT]
      by_cases c : fI (tCT j t (gk C (6 * j))) 163 j t = 3
      · rw [if_pos ⟨hj, q, c⟩, if_pos c]
      · rw [if_neg (fun z => c z.2.2), if_neg c]
    · rw [if_neg (fun z => by omega), Nat.min_eq_right q, Nat.min_eq_right (by omega)]
theorem gk_out {C : gS} {j : Nat} (hj : jn C ≤ j) : ∀ t, t ≤ 6 → gk C (6 * j + t) = gk C (6 * j)
  | 0, _ => rfl
  | t + 1, ht => by
    show (if (6 * j + t) / 6 < jn C ∧ (6 * j + t) % 6 < jc C ((6 * j + t) / 6) ∧ fI (gk C (6 * j + t)) 163 ((6 * j + t) / 6) ((6 * j + t) % 6) = 3 then tEnd (gk C (6 * j + t)) ((6 * j + t) / 6) ((6 * j + t) % 6) 0 else gk C (6 * j + t)) = _
    rw [if_neg (fun z => by omega), gk_out hj t (by omega)]
theorem gk_job {C : gS} (hc : ∀ j, j < jn C → jc C j ≤ 6) : ∀ j, gk C (6 * j) = tCJ (min j (jn C)) C
  | 0 => by rw [Nat.zero_min]; rfl
  | j + 1 => by
    have ih := gk_job hc j
    rw [show 6 * (j + 1) = 6 * j + 6 by omega]
    rcases Nat.lt_or_ge j (jn C) with q | q
    · rw [gk_in q (hc j q) 6 (Nat.le_refl _), ih, Nat.min_eq_left (Nat.le_of_lt q), Nat.min_eq_left (show j + 1 ≤ jn C from q), Nat.min_eq_right (hc j q)]
      rfl
    · rw [gk_out q 6 (Nat.le_refl _), ih, Nat.min_eq_right q, Nat.min_eq_right (by omega)]
theorem gk_36 {C S : gS} (h : R0 C S) : gk C 36 = tCJ (jn C) C := by
  have := gk_job (fun j hj => h.c6 hj) 6
  rw [Nat.min_eq_right h.j6] at this
  exact this
theorem gk_go {C : gS} (hc : ∀ j, j < jn C → jc C j ≤ 6) : ∀ k, tGo d0 (8 * k) C (gk C k)
  | 0 => tGo.rf
  | k + 1 => by
    have ih := gk_go hc k
    rw [gk]
    split
    · rename_i h
      exact (ih.tr (tEnd_go (by rw [jc_go ih]; exact hc _ h.1))).le (by omega)
    · exact ih.le (by omega)
/-- the chain of firings at coming up -/
theorem tC2_chain {b m : Nat} : ∀ (n : Nat) (S T : gS) (_ : tC2 b m n S T), ∃ c : Nat → gS, c 0 = S ∧ c n = T ∧ ∀ i, i < n → ∃ V, (V = c i ∨ ∃ w, w < 13889 ∧ V = tTurn (c i) w) ∧ c (i + 1) = if fT (eHolds (c i) i) (m - b) (b + 1) = -1 then V else tFire V i
  | 0, S, T, h => ⟨fun _ => S, rfl, h.symm, fun i hi => absurd hi (Nat.not_lt_zero _)⟩
  | n + 1, S, T, ⟨U, hU, V, hV, hT⟩ => by
    obtain ⟨c, c1, c2, c3⟩ := tC2_chain n S U hU
    refine ⟨fun i => if i ≤ n then c i else T, ?_, ?_, fun i hi => ?_⟩
    · show (if 0 ≤ n then c 0 else T) = S
      rw [if_pos (Nat.zero_le _)]; exact c1
    · show (if n + 1 ≤ n then c (n + 1) else T) = T
      rw [if_neg (by omega)]
    · show ∃ V, (V = (if i ≤ n then c i else T) ∨ ∃ w, w < 13889 ∧ V = tTurn (if i ≤ n then c i else T) w) ∧ (if i + 1 ≤ n then c (i + 1) else T) = if fT (eHolds (if i ≤ n then c i else T) i) (m - b) (b + 1) = -1 then V else tFire V i
      rw [if_pos (show i ≤ n by omega)]
      rcases Nat.lt_or_ge i n with q | q
      · rw [if_pos (show i + 1 ≤ n from q)]
        exact c3 i q
      · have e : i = n := by omega
        subst e
        rw [if_neg (by omega), c2]
        exact ⟨V, hV, hT⟩
