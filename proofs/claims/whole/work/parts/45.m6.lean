/-! THE MODEL (6): ending and firing -/
theorem aI_at {S : gS} {k j i : Nat} {v : Int32} : aI (saI S k j i v) k j i = v := if_pos ⟨rfl, rfl, rfl⟩
theorem R0.task {C S C' S' : gS} {j0 t0 : Nat} (h : R0 C S) (hj0 : j0 < jn C) (ht0 : t0 < jc C j0) (k : tKeep d0 C C') (m : mK S S') (l1 : fI C' 97 0 0 = fI C 97 0 0) (l2 : aI C' 13 = aI C 13) (l3 : fI S' 279 0 0 = fI S 279 0 0) (l4 : aI S' 35 = aI S 35)
    (a : ∀ g j t, g < 192 → g ≠ 97 → ¬ (160 ≤ g ∧ j = j0 ∧ t = t0) → fI C' g j t = fI C g j t) (c : ∀ k i, 23 ≤ k → k < 35 → ¬ (29 ≤ k ∧ i = 6 * j0 + t0) → aI S' k 0 i = aI S k 0 i) (e : TK C' S' j0 t0) : R0 C' S' :=
  ⟨h.1.of (k.up (fun _ z => d01 z)) m, h.2.1.of l1 l2 l3 l4, h.2.2.1.task h.2.2.2 hj0 ht0 (tKeep_jn (k.up (fun _ z => d12 (d01 z)))) a c e, h.2.2.2.keep (k.up (fun _ z => d12 (d01 z)))⟩
theorem R0.job {C S C' S' : gS} {j0 : Nat} (h : R0 C S) (hj0 : j0 < jn C) (k : tKeep d0 C C') (m : mK S S') (l1 : fI C' 97 0 0 = fI C 97 0 0) (l2 : aI C' 13 = aI C 13) (l3 : fI S' 279 0 0 = fI S 279 0 0) (l4 : aI S' 35 = aI S 35)
    (a : ∀ g j t, g < 192 → g ≠ 97 → ¬ (68 ≤ g ∧ g ≤ 70 ∧ j = j0 ∧ t = 0) → fI C' g j t = fI C g j t) (c : ∀ k i, 23 ≤ k → k < 35 → ¬ (25 ≤ k ∧ k ≤ 27 ∧ i = j0) → aI S' k 0 i = aI S k 0 i)
    (d : aI S' 25 0 j0 = fI C' 68 j0 0 ∧ (fI C' 68 j0 0 = 0 ∨ fI C' 68 j0 0 = 1) ∧ aI S' 26 0 j0 = fI C' 69 j0 0 ∧ aI S' 27 0 j0 = fI C' 70 j0 0) : R0 C' S' :=
  ⟨h.1.of (k.up (fun _ z => d01 z)) m, h.2.1.of l1 l2 l3 l4, h.2.2.1.job h.2.2.2 hj0 (tKeep_jn (k.up (fun _ z => d12 (d01 z)))) a c d, h.2.2.2.keep (k.up (fun _ z => d12 (d01 z)))⟩
theorem R0.tot {C S : gS} (h : R0 C S) : fI S 279 0 0 = nI (tl C) := h.2.1.2.1.trans h.2.1.1
theorem R0.now {C S : gS} (h : R0 C S) : fI S 257 0 0 = fI C 231 0 0 := h.1.2.1
theorem R0.st {C S : gS} (h : R0 C S) {j t : Nat} (hj : j < jn C) (ht : t < jc C j) : TK C S j t := (h.2.2.1.1 j hj).2 t ht
theorem R0.jb {C S : gS} (h : R0 C S) {j : Nat} (hj : j < jn C) : JK C S j := (h.2.2.1.1 j hj).1
theorem R0.j6 {C S : gS} (h : R0 C S) : jn C ≤ 6 := h.2.2.2.2.1
theorem R0.c6 {C S : gS} (h : R0 C S) {j : Nat} (hj : j < jn C) : jc C j ≤ 6 := (h.2.2.2.2.2 j hj).2
theorem R0.sz {C S : gS} (h : R0 C S) {j : Nat} (hj : j < jn C) : aI S 24 0 j = nI (jc C j) := (h.jb hj).2.1.trans (h.2.2.2.2.2 j hj).1
theorem R0.jobs {C S : gS} (h : R0 C S) : fI S 264 0 0 = nI (jn C) := h.1.1.trans h.2.2.2.1
theorem tPair {C : gS} {g j t : Nat} {v : Int32} {g' j' t' : Nat} (h : ¬ (g' = g ∧ j' = j ∧ t' = t)) : fI (sfI C g j t v) g' j' t' = fI C g' j' t' := if_neg h
theorem aPair {C : gS} {g j t : Nat} {v : Int32} {g' j' t' : Nat} (h : ¬ (g' = g ∧ j' = j ∧ t' = t)) : aI (saI C g j t v) g' j' t' = aI C g' j' t' := if_neg h
/-- one task's state -/
theorem R0.set {C S : gS} {j t s : Nat} (h : R0 C S) (hj : j < jn C) (ht : t < jc C j) (hs : s ≤ 6) (h2 : s ≠ 2) : R0 (sfI C 163 j t (nI s)) (saI S 32 0 (6 * j + t) (nI s)) := by
  obtain ⟨q1, q2, q3, q4, q5, q6, q7⟩ := h.st hj ht
  refine h.task hj ht (tKeep_sfI rfl) (mK_saI rfl) rfl rfl rfl rfl (fun g j' t' h8 h9 hn => tPair (fun z => hn (by omega))) (fun k i h8 h9 hn => aPair (fun z => hn (by omega))) ?_
  have e : fI (sfI C 163 j t (nI s)) 163 j t = nI s := fI_at
  refine ⟨aI_at.trans e.symm, ⟨s, hs, e⟩, q3, q4, q5, q6, fun z => ?_⟩
  rw [e, show (2 : Int32) = nI 2 from rfl, nI_eq (by omega) (by decide)] at z
  exact absurd z h2
set_option maxRecDepth 100000 in
set_option maxHeartbeats 2000000 in
theorem kX8_isJob {E : gE} {S : gS} {j : Int32} {Q : Option gV → gS → Prop} (hl : lv S 8 0 0) (hQ : Q (some (vI (bI (decide (0 ≤ j ∧ j < fI S 264 0 0))))) S) : gRun E mX8_isJob 1 0 0 [vR 8 0 0, vI j] S [] Q := by
  refine gRun_of (ls := [some (vR 8 0 0), some (vI j)]) rfl (Nat.le_of_ble_eq_true rfl) rfl (fun ad => ?_)
  refine g_iload_n (pc' := 1) dX8_isJob_0 rfl rfl ?_
  refine g_if_lt dX8_isJob_1 (tg := 16) (pc' := 4) (by decide) rfl (fun h1 => ?_) (fun h1 => ?_)
  · refine g_iconst (pc' := 17) (v := 0) dX8_isJob_16 rfl rfl ?_
    refine g_iret dX8_isJob_17 rfl rfl (Nat.le_of_ble_eq_true rfl) (Nat.le_of_ble_eq_true rfl) ?_
    first
      | exact gq hQ (bd_f (fun z => Int32.not_lt.mpr z.1 h1))
      | exact gq hQ (bd_f (fun z => Int32.not_le.mpr z.2 h9))
      | exact gq hQ (bd_t ⟨Int32.not_lt.mp h1, Int32.not_le.mp h9⟩)
  · refine g_iload_n (pc' := 5) dX8_isJob_4 rfl rfl ?_
    refine g_aload_n (pc' := 6) dX8_isJob_5 rfl rfl ?_
    refine ggX8_98 (pc' := 9) rfl dX8_isJob_6 rfl hl ?_
    refine g_icmp_ge dX8_isJob_9 (tg := 16) (pc' := 12) (by decide) rfl (fun h9 => ?_) (fun h9 => ?_)
    · refine g_iconst (pc' := 17) (v := 0) dX8_isJob_16 rfl rfl ?_
      refine g_iret dX8_isJob_17 rfl rfl (Nat.le_of_ble_eq_true rfl) (Nat.le_of_ble_eq_true rfl) ?_
      first
        | exact gq hQ (bd_f (fun z => Int32.not_lt.mpr z.1 h1))
        | exact gq hQ (bd_f (fun z => Int32.not_le.mpr z.2 h9))
        | exact gq hQ (bd_t ⟨Int32.not_lt.mp h1, Int32.not_le.mp h9⟩)
    · refine g_iconst (pc' := 13) (v := 1) dX8_isJob_12 rfl rfl ?_
      refine g_goto dX8_isJob_13 (pc' := 17) (by decide) ?_
      refine g_iret dX8_isJob_17 rfl rfl (Nat.le_of_ble_eq_true rfl) (Nat.le_of_ble_eq_true rfl) ?_
      first
        | exact gq hQ (bd_f (fun z => Int32.not_lt.mpr z.1 h1))
        | exact gq hQ (bd_f (fun z => Int32.not_le.mpr z.2 h9))
        | exact gq hQ (bd_t ⟨Int32.not_lt.mp h1, Int32.not_le.mp h9⟩)

set_option maxRecDepth 100000 in
set_option maxHeartbeats 2000000 in
theorem kX8_isMinute {E : gE} {S : gS} {m : Int32} {Q : Option gV → gS → Prop} (hQ : Q (some (vI (bI (decide (0 ≤ m ∧ m < 20000000))))) S) : gRun E mX8_isMinute 1 0 0 [vI m] S [] Q := by
  refine gRun_of (ls := [some (vI m)]) rfl (Nat.le_of_ble_eq_true rfl) rfl (fun ad => ?_)
  refine g_iload_n (pc' := 1) dX8_isMinute_0 rfl rfl ?_
  refine g_if_lt dX8_isMinute_1 (tg := 14) (pc' := 4) (by decide) rfl (fun h1 => ?_) (fun h1 => ?_)
  · refine g_iconst (pc' := 15) (v := 0) dX8_isMinute_14 rfl rfl ?_
    refine g_iret dX8_isMinute_15 rfl rfl (Nat.le_of_ble_eq_true rfl) (Nat.le_of_ble_eq_true rfl) ?_
    first
      | exact gq hQ (bd_f (fun z => Int32.not_lt.mpr z.1 h1))
      | exact gq hQ (bd_f (fun z => Int32.not_le.mpr z.2 h7))
      | exact gq hQ (bd_t ⟨Int32.not_lt.mp h1, Int32.not_le.mp h7⟩)
  · refine g_iload_n (pc' := 5) dX8_isMinute_4 rfl rfl ?_
    refine g_ldc (pc' := 7) dX8_isMinute_5 rfl ckX8_156 ?_
    refine g_icmp_ge dX8_isMinute_7 (tg := 14) (pc' := 10) (by decide) rfl (fun h7 => ?_) (fun h7 => ?_)
    · refine g_iconst (pc' := 15) (v := 0) dX8_isMinute_14 rfl rfl ?_
      refine g_iret dX8_isMinute_15 rfl rfl (Nat.le_of_ble_eq_true rfl) (Nat.le_of_ble_eq_true rfl) ?_
      first
        | exact gq hQ (bd_f (fun z => Int32.not_lt.mpr z.1 h1))
        | exact gq hQ (bd_f (fun z => Int32.not_le.mpr z.2 h7))
        | exact gq hQ (bd_t ⟨Int32.not_lt.mp h1, Int32.not_le.mp h7⟩)
    · refine g_iconst (pc' := 11) (v := 1) dX8_isMinute_10 rfl rfl ?_
      refine g_goto dX8_isMinute_11 (pc' := 15) (by decide) ?_
      refine g_iret dX8_isMinute_15 rfl rfl (Nat.le_of_ble_eq_true rfl) (Nat.le_of_ble_eq_true rfl) ?_
      first
        | exact gq hQ (bd_f (fun z => Int32.not_lt.mpr z.1 h1))
        | exact gq hQ (bd_f (fun z => Int32.not_le.mpr z.2 h7))
        | exact gq hQ (bd_t ⟨Int32.not_lt.mp h1, Int32.not_le.mp h7⟩)

theorem R0.jnat {C S : gS} (h : R0 C S) {j : Int32} (hj : 0 ≤ j ∧ j < fI S 264 0 0) : ∃ k, k < jn C ∧ j = nI k := by
  rw [h.jobs] at hj
  exact isU_nat (by have := h.j6; omega) hj
set_option maxRecDepth 100000 in
set_option maxHeartbeats 2000000 in
theorem kX8_isTask {E : gE} {S : gS} {C : gS} {j t : Int32} {Q : Option gV → gS → Prop} (hM : ModS S) (hR : R0 C S) (hQ : Q (some (vI (bI (isTk C j t)))) S) : gRun E mX8_isTask 2 0 0 [vR 8 0 0, vI j, vI t] S [] Q := by
  refine gRun_of (ls := [some (vR 8 0 0), some (vI j), some (vI t)]) rfl (Nat.le_of_ble_eq_true rfl) rfl (fun ad => ?_)
  obtain ⟨l8, l20, l21, l22, l23, l24, l25, l26, l27, l28, l29, l30, l31, l32, l33, l34, l35, r262, r265, r266, r267, r268, r269, r270, r271, r272, r273, r274, r275, r276, r277, r278, r280⟩ := id hM
  refine g_aload_n (pc' := 1) dX8_isTask_0 rfl rfl ?_
  refine g_iload_n (pc' := 2) dX8_isTask_1 rfl rfl ?_
  refine gcv1 (pc' := 5) cwX8_157 cf8 dX8_isTask_2 rfl l8 (Nat.le_of_ble_eq_true rfl) (Nat.le_of_ble_eq_true rfl) (Nat.le_of_ble_eq_true rfl) (Nat.le_of_ble_eq_true rfl) (Nat.le_of_ble_eq_true rfl) (kX8_isJob l8 ?_)
  refine g_if_eq dX8_isTask_5 (tg := 26) (pc' := 8) (by decide) rfl (fun h5 => ?_) (fun h5 => ?_)
  · refine g_iconst (pc' := 27) (v := 0) dX8_isTask_26 rfl rfl ?_
    refine g_iret dX8_isTask_27 rfl rfl (Nat.le_of_ble_eq_true rfl) (Nat.le_of_ble_eq_true rfl) ?_
    first
      | exact gq hQ (bIq (decide_eq_false (fun z => bdn h5 (by rw [hR.1.1]; exact z.1))))
      | exact gq hQ (bIq (decide_eq_false (fun z => Int32.not_lt.mpr z.2.1 h9)))
      | exact gq hQ (bIq (decide_eq_false (fun z => by
          have z2 := z.2.2
          rw [ek, ← (hR.jb hk).2.1] at z2
          exact Int32.not_le.mpr z2 h19)))
      | exact gq hQ (bIq (decide_eq_true ⟨hj2, Int32.not_lt.mp h9, by rw [ek, ← (hR.jb hk).2.1]; exact Int32.not_le.mp h19⟩))
  · have hj := bdp h5
    have hj2 := hj
    rw [hR.1.1] at hj2
    obtain ⟨k, hk, rfl⟩ := hR.jnat hj
    have hk6 := hR.j6
    have ek : (nI k).toNatClampNeg = k := nI_clamp (by omega)
    refine g_iload_n (pc' := 9) dX8_isTask_8 rfl rfl ?_
    refine g_if_lt dX8_isTask_9 (tg := 26) (pc' := 12) (by decide) rfl (fun h9 => ?_) (fun h9 => ?_)
    · refine g_iconst (pc' := 27) (v := 0) dX8_isTask_26 rfl rfl ?_
      refine g_iret dX8_isTask_27 rfl rfl (Nat.le_of_ble_eq_true rfl) (Nat.le_of_ble_eq_true rfl) ?_
      first
        | exact gq hQ (bIq (decide_eq_false (fun z => bdn h5 (by rw [hR.1.1]; exact z.1))))
        | exact gq hQ (bIq (decide_eq_false (fun z => Int32.not_lt.mpr z.2.1 h9)))
        | exact gq hQ (bIq (decide_eq_false (fun z => by
            have z2 := z.2.2
            rw [ek, ← (hR.jb hk).2.1] at z2
            exact Int32.not_le.mpr z2 h19)))
        | exact gq hQ (bIq (decide_eq_true ⟨hj2, Int32.not_lt.mp h9, by rw [ek, ← (hR.jb hk).2.1]; exact Int32.not_le.mp h19⟩))
    · refine g_iload_n (pc' := 13) dX8_isTask_12 rfl rfl ?_
      refine g_aload_n (pc' := 14) dX8_isTask_13 rfl rfl ?_
      refine ggX8_29 (pc' := 17) rfl dX8_isTask_14 rfl l8 r268 ?_
      refine g_iload_n (pc' := 18) dX8_isTask_17 rfl rfl ?_
      refine g_iald (pc' := 19) (n := k) dX8_isTask_18 rfl (by decide) rfl rfl (show k < 6 by omega) l24 ?_
      refine g_icmp_ge dX8_isTask_19 (tg := 26) (pc' := 22) (by decide) rfl (fun h19 => ?_) (fun h19 => ?_)
      · refine g_iconst (pc' := 27) (v := 0) dX8_isTask_26 rfl rfl ?_
        refine g_iret dX8_isTask_27 rfl rfl (Nat.le_of_ble_eq_true rfl) (Nat.le_of_ble_eq_true rfl) ?_
        first
          | exact gq hQ (bIq (decide_eq_false (fun z => bdn h5 (by rw [hR.1.1]; exact z.1))))
          | exact gq hQ (bIq (decide_eq_false (fun z => Int32.not_lt.mpr z.2.1 h9)))
          | exact gq hQ (bIq (decide_eq_false (fun z => by
              have z2 := z.2.2
              rw [ek, ← (hR.jb hk).2.1] at z2
              exact Int32.not_le.mpr z2 h19)))
          | exact gq hQ (bIq (decide_eq_true ⟨hj2, Int32.not_lt.mp h9, by rw [ek, ← (hR.jb hk).2.1]; exact Int32.not_le.mp h19⟩))
      · refine g_iconst (pc' := 23) (v := 1) dX8_isTask_22 rfl rfl ?_
        refine g_goto dX8_isTask_23 (pc' := 27) (by decide) ?_
        refine g_iret dX8_isTask_27 rfl rfl (Nat.le_of_ble_eq_true rfl) (Nat.le_of_ble_eq_true rfl) ?_
        first
          | exact gq hQ (bIq (decide_eq_false (fun z => bdn h5 (by rw [hR.1.1]; exact z.1))))
          | exact gq hQ (bIq (decide_eq_false (fun z => Int32.not_lt.mpr z.2.1 h9)))
          | exact gq hQ (bIq (decide_eq_false (fun z => by
              have z2 := z.2.2
              rw [ek, ← (hR.jb hk).2.1] at z2
              exact Int32.not_le.mpr z2 h19)))
          | exact gq hQ (bIq (decide_eq_true ⟨hj2, Int32.not_lt.mp h9, by rw [ek, ← (hR.jb hk).2.1]; exact Int32.not_le.mp h19⟩))

set_option maxRecDepth 100000 in
set_option maxHeartbeats 2000000 in
theorem kX8_isBusy {E : gE} {S : gS} {C : gS} {Q : Option gV → gS → Prop} (hM : ModS S) (hR : R0 C S) (hQ : Q (some (vI (bI (decide (¬ ∀ j, j < jn C → fI C 68 j 0 = 0))))) S) : gRun E mX8_isBusy 1 0 0 [vR 8 0 0] S [] Q := by
  refine gRun_of (ls := [some (vR 8 0 0), none, none]) rfl (Nat.le_of_ble_eq_true rfl) rfl (fun ad => ?_)
  obtain ⟨l8, l20, l21, l22, l23, l24, l25, l26, l27, l28, l29, l30, l31, l32, l33, l34, l35, r262, r265, r266, r267, r268, r269, r270, r271, r272, r273, r274, r275, r276, r277, r278, r280⟩ := id hM
  have hj6 := hR.j6
  have LP : ∀ (k i : Nat) (B : Bool) (_ : i + k = jn C) (hb : B = decide (¬ ∀ j, j < i → fI C 68 j 0 = 0)), gG E mX8_isBusy (gBof 1 0 0 ad [] Q) 4 [some (vR 8 0 0), some (vI (bI B)), some (vI (nI i))] [] S 0 0 := by
    intro k
    induction k with
    | zero =>
      intro i B hk hb
      have e : i = jn C := by omega
      subst e
      refine g_iload_n (pc' := 5) dX8_isBusy_4 rfl rfl ?_
      refine g_aload_n (pc' := 6) dX8_isBusy_5 rfl rfl ?_
      refine ggX8_98 (pc' := 9) rfl dX8_isBusy_6 rfl l8 ?_
      refine g_icmp_ge dX8_isBusy_9 (tg := 37) (pc' := 12) (by decide) rfl (fun h9 => ?_) (fun h9 => absurd (by rw [hR.jobs]; exact Int32.le_refl _) h9)
      refine g_iload_n (pc' := 38) dX8_isBusy_37 rfl rfl ?_
      refine g_iret dX8_isBusy_38 rfl (bI_nar _) (Nat.le_of_ble_eq_true rfl) (Nat.le_of_ble_eq_true rfl) ?_
      exact gq hQ (by rw [hb])
    | succ k ih =>
      intro i B hk hb
      have hi : i < jn C := by omega
      have hn2 : decide (¬ ∀ j, j < i → fI C 68 j 0 = 0) = true → true = decide (¬ ∀ j, j < i + 1 → fI C 68 j 0 = 0) := fun z => by
        rw [decide_eq_true_eq] at z
        symm
        rw [decide_eq_true_eq]
        exact fun z2 => z (fun j hj => z2 j (by omega))
      have bz1 : ¬ fI C 68 i 0 = 0 → true = decide (¬ ∀ j, j < i + 1 → fI C 68 j 0 = 0) := fun z => by
        symm
        rw [decide_eq_true_eq]
        exact fun z2 => z (z2 i (by omega))
      have bz0 : B = false → fI C 68 i 0 = 0 → false = decide (¬ ∀ j, j < i + 1 → fI C 68 j 0 = 0) := fun z z2 => by
        rw [z] at hb
        have h3 := of_decide_eq_false hb.symm
        rw [Decidable.not_not] at h3
        refine (decide_eq_false (fun z4 => z4 (fun j hj => ?_))).symm
        rcases Nat.lt_or_ge j i with q | q
        · exact h3 j q
        · rw [show j = i by omega]; exact z2
      refine g_iload_n (pc' := 5) dX8_isBusy_4 rfl rfl ?_
      refine g_aload_n (pc' := 6) dX8_isBusy_5 rfl rfl ?_
      refine ggX8_98 (pc' := 9) rfl dX8_isBusy_6 rfl l8 ?_
      refine g_icmp_ge dX8_isBusy_9 (tg := 37) (pc' := 12) (by decide) rfl (fun h9 => absurd h9 (by rw [hR.jobs, nI_leI (by omega) (by omega)]; omega)) (fun h9 => ?_)
      refine g_iload_n (pc' := 13) dX8_isBusy_12 rfl rfl ?_
      refine g_if_ne dX8_isBusy_13 (tg := 25) (pc' := 16) (by decide) rfl (fun h13 => ?_) (fun h13 => ?_)
      · refine g_iconst (pc' := 26) (v := 1) dX8_isBusy_25 rfl rfl ?_
        refine g_goto dX8_isBusy_26 (pc' := 30) (by decide) ?_
        refine gistore_n1 (pc' := 31) dX8_isBusy_30 rfl (Nat.le_of_ble_eq_true rfl) rfl ?_
        refine giinc2 (pc' := 34) (c := 1) dX8_isBusy_31 rfl rfl (Nat.le_of_ble_eq_true rfl) rfl ?_
        refine g_goto dX8_isBusy_34 (pc' := 4) (by decide) ?_
        rw [nI_1]
        first
          | exact ih (i + 1) true (by omega) (by rw [bbp h13] at hb; exact hn2 hb.symm)
          | exact ih (i + 1) true (by omega) (bz1 h22)
          | exact ih (i + 1) false (by omega) (bz0 (bI_f.mp h13) h22)
      · refine g_aload_n (pc' := 17) dX8_isBusy_16 rfl rfl ?_
        refine ggX8_32 (pc' := 20) rfl dX8_isBusy_17 rfl l8 r269 ?_
        refine g_iload_n (pc' := 21) dX8_isBusy_20 rfl rfl ?_
        refine g_zald (pc' := 22) (n := i) dX8_isBusy_21 rfl (by decide) rfl rfl (show i < 6 by omega) l25 ?_
        rw [(hR.jb hi).2.2.1]
        refine g_if_eq dX8_isBusy_22 (tg := 29) (pc' := 25) (by decide) rfl (fun h22 => ?_) (fun h22 => ?_)
        · refine g_iconst (pc' := 30) (v := 0) dX8_isBusy_29 rfl rfl ?_
          refine gistore_n1 (pc' := 31) dX8_isBusy_30 rfl (Nat.le_of_ble_eq_true rfl) rfl ?_
          refine giinc2 (pc' := 34) (c := 1) dX8_isBusy_31 rfl rfl (Nat.le_of_ble_eq_true rfl) rfl ?_
          refine g_goto dX8_isBusy_34 (pc' := 4) (by decide) ?_
          rw [nI_1]
          first
            | exact ih (i + 1) true (by omega) (by rw [bbp h13] at hb; exact hn2 hb.symm)
            | exact ih (i + 1) true (by omega) (bz1 h22)
            | exact ih (i + 1) false (by omega) (bz0 (bI_f.mp h13) h22)
        · refine g_iconst (pc' := 26) (v := 1) dX8_isBusy_25 rfl rfl ?_
          refine g_goto dX8_isBusy_26 (pc' := 30) (by decide) ?_
          refine gistore_n1 (pc' := 31) dX8_isBusy_30 rfl (Nat.le_of_ble_eq_true rfl) rfl ?_
          refine giinc2 (pc' := 34) (c := 1) dX8_isBusy_31 rfl rfl (Nat.le_of_ble_eq_true rfl) rfl ?_
          refine g_goto dX8_isBusy_34 (pc' := 4) (by decide) ?_
          rw [nI_1]
          first
            | exact ih (i + 1) true (by omega) (by rw [bbp h13] at hb; exact hn2 hb.symm)
            | exact ih (i + 1) true (by omega) (bz1 h22)
            | exact ih (i + 1) false (by omega) (bz0 (bI_f.mp h13) h22)
  refine g_iconst (pc' := 1) (v := 0) dX8_isBusy_0 rfl rfl ?_
  refine gistore_n1 (pc' := 2) dX8_isBusy_1 rfl (Nat.le_of_ble_eq_true rfl) rfl ?_
  refine g_iconst (pc' := 3) (v := 0) dX8_isBusy_2 rfl rfl ?_
  refine gistore_n2 (pc' := 4) dX8_isBusy_3 rfl (Nat.le_of_ble_eq_true rfl) rfl ?_
  exact LP (jn C) 0 false (by omega) (decide_eq_false (fun z => z (fun j hj => by omega))).symm

set_option maxRecDepth 100000 in
set_option maxHeartbeats 2000000 in
theorem kX8_leaveOut {E : gE} {S : gS} {C : gS} {j f : Nat} {Q : Option gV → gS → Prop} (hM : ModS S) (hR : R0 C S) (hj : j < jn C) (hf : f < jc C j) (hb : tl C + 8 < 2 ^ 30) (hQ : ∀ T', R0 (tLeave j (jc C j - (f + 1)) (f + 1) (1 <<< (nI f &&& 31)) C) T' → mK S T' → Q none T') : gRun E mX8_leaveOut 2 0 0 [vR 8 0 0, vI (nI j), vI (nI f)] S [] Q := by
  refine gRun_of (ls := [some (vR 8 0 0), some (vI (nI j)), some (vI (nI f)), none, none]) rfl (Nat.le_of_ble_eq_true rfl) rfl (fun ad => ?_)
  have hj6 := hR.j6
  have hc6 := hR.c6 hj
  have hl8 : lv S 8 0 0 := hM.1
  have LP : ∀ (k t : Nat) (lost : Int32) (C' T : gS) (_ : t + k = jc C j) (hS : R0 C' T) (hjn : jn C' = jn C) (hjc : jc C' j = jc C j) (_ : tl C' + k + 1 < 2 ^ 30) (hMT : ModS T) (hQ2 : ∀ T', R0 (tLeave j k t lost C') T' → mK T T' → Q none T'), gG E mX8_leaveOut (gBof 2 0 0 ad [] Q) 9 [some (vR 8 0 0), some (vI (nI j)), some (vI (nI f)), some (vI lost), some (vI (nI t))] [] T 0 0 := by
    intro k
    induction k with
    | zero =>
      intro t lost C' T hk hS hjn hjc hbb hMT hQ2
      obtain ⟨l8, l20, l21, l22, l23, l24, l25, l26, l27, l28, l29, l30, l31, l32, l33, l34, l35, r262, r265, r266, r267, r268, r269, r270, r271, r272, r273, r274, r275, r276, r277, r278, r280⟩ := id hMT
      have hjC : j < jn C' := by omega
      refine g_iload (pc' := 11) dX8_leaveOut_9 rfl rfl ?_
      refine g_aload_n (pc' := 12) dX8_leaveOut_11 rfl rfl ?_
      refine ggX8_29 (pc' := 15) rfl dX8_leaveOut_12 rfl l8 r268 ?_
      refine g_iload_n (pc' := 16) dX8_leaveOut_15 rfl rfl ?_
      refine g_iald (pc' := 17) (n := j) dX8_leaveOut_16 rfl (by decide) rfl rfl (show j < 6 by omega) l24 ?_
      refine g_icmp_ge dX8_leaveOut_17 (tg := 90) (pc' := 20) (by decide) rfl (fun h17 => ?_) (fun h17 => absurd (by rw [hS.sz hjC, nI_leI (by omega) (by omega)]; omega) h17)
      refine g_vret dX8_leaveOut_90 rfl (Nat.le_of_ble_eq_true rfl) (Nat.le_of_ble_eq_true rfl) ?_
      exact hQ2 _ hS mK.rf
    | succ k ih =>
      intro t lost C' T hk hS hjn hjc hbb hMT hQ2
      obtain ⟨l8, l20, l21, l22, l23, l24, l25, l26, l27, l28, l29, l30, l31, l32, l33, l34, l35, r262, r265, r266, r267, r268, r269, r270, r271, r272, r273, r274, r275, r276, r277, r278, r280⟩ := id hMT
      have hjC : j < jn C' := by omega
      have htC : t < jc C' j := by omega
      obtain ⟨q1, -, -, ⟨n0, -, q9, q8⟩, -⟩ := hS.st hjC htC
      refine g_iload (pc' := 11) dX8_leaveOut_9 rfl rfl ?_
      refine g_aload_n (pc' := 12) dX8_leaveOut_11 rfl rfl ?_
      refine ggX8_29 (pc' := 15) rfl dX8_leaveOut_12 rfl l8 r268 ?_
      refine g_iload_n (pc' := 16) dX8_leaveOut_15 rfl rfl ?_
      refine g_iald (pc' := 17) (n := j) dX8_leaveOut_16 rfl (by decide) rfl rfl (show j < 6 by omega) l24 ?_
      refine g_icmp_ge dX8_leaveOut_17 (tg := 90) (pc' := 20) (by decide) rfl (fun h17 => absurd h17 (by rw [hS.sz hjC, nI_leI (by omega) (by omega)]; omega)) (fun h17 => ?_)
      refine g_aload_n (pc' := 21) dX8_leaveOut_20 rfl rfl ?_
      refine ggX8_45 (pc' := 24) rfl dX8_leaveOut_21 rfl l8 r273 ?_
      refine g_bipush (pc' := 26) (v := 6) dX8_leaveOut_24 rfl rfl ?_
      refine g_iload_n (pc' := 27) dX8_leaveOut_26 rfl rfl ?_
      refine g_imul (pc' := 28) dX8_leaveOut_27 rfl ?_
      rw [show (6 : Int32) = nI 6 from rfl, pk_mul]
      refine g_iload (pc' := 30) dX8_leaveOut_28 rfl rfl ?_
      refine g_iadd (pc' := 31) dX8_leaveOut_30 rfl ?_
      rw [nI_add]
      refine g_iald (pc' := 32) (n := 6 * j + t) dX8_leaveOut_31 rfl (by decide) rfl rfl (show 6 * j + t < 36 by omega) l29 ?_
      rw [q8]
      refine g_iload_n (pc' := 33) dX8_leaveOut_32 rfl rfl ?_
      refine g_iand (pc' := 34) dX8_leaveOut_33 rfl ?_
      refine g_if_eq dX8_leaveOut_34 (tg := 84) (pc' := 37) (by decide) rfl (fun h34 => ?_) (fun h34 => ?_)
      · refine giinc4 (pc' := 87) (c := 1) dX8_leaveOut_84 rfl rfl (Nat.le_of_ble_eq_true rfl) rfl ?_
        refine g_goto dX8_leaveOut_87 (pc' := 9) (by decide) ?_
        rw [nI_1]
        first
          | (refine ih (t + 1) _ C' T (by omega) hS (by rw [hjn]) (by rw [hjc]) (by omega) hMT (fun T' h9 m9 => hQ2 T' ?_ m9)
             rw [tLeave, if_pos (by rw [q9]; exact h34)]; exact h9)
          | (refine ih (t + 1) _ C' T (by omega) hS (by rw [hjn]) (by rw [hjc]) (by omega) hMT (fun T' h9 m9 => hQ2 T' ?_ m9)
             rw [tLeave, if_neg (by rw [q9]; exact h34), if_pos h58]; exact h9)
          | (have h7 := R0.note (k := 7) (m := fI C' 231 0 0) (j := nI j) (t := nI t) (hS.set hjC htC (s := 6) (by decide) (by decide)) (by show tl C' + 1 < _; omega)
             have e8 : fI (saI T 32 0 (6 * j + t) 6) 257 0 0 = fI C' 231 0 0 := hS.now
             rw [e8]
             have et : tl (tLogS (sfI C' 163 j t 6) 7 (fI C' 231 0 0) (nI j) (nI t)) = tl C' + 1 := tl_note (by show tl C' + 1 < _; omega)
             have g9 : tGo d0 1 C' (tLogS (sfI C' 163 j t 6) 7 (fI C' 231 0 0) (nI j) (nI t)) := ((tGo_sfI rfl (by decide)).tr tLogS_go)
             refine ih (t + 1) _ (tLogS (sfI C' 163 j t 6) 7 (fI C' 231 0 0) (nI j) (nI t)) _ (by omega) h7 (by rw [jn_go g9, hjn]) (by rw [jc_go g9, hjc]) (by rw [et]; omega) (hMT.of rfl rfl) (fun T' h9 m9 => hQ2 T' ?_ (((mK_saI rfl).tr tLM_mK).tr m9))
             rw [tLeave, if_neg (by rw [q9]; exact h34), if_neg h58]; exact h9)
      · refine g_iload_n (pc' := 38) dX8_leaveOut_37 rfl rfl ?_
        refine g_iconst (pc' := 39) (v := 1) dX8_leaveOut_38 rfl rfl ?_
        refine g_iload (pc' := 41) dX8_leaveOut_39 rfl rfl ?_
        refine g_ishl (pc' := 42) dX8_leaveOut_41 rfl ?_
        refine g_ior (pc' := 43) dX8_leaveOut_42 rfl ?_
        refine gistore_n3 (pc' := 44) dX8_leaveOut_43 rfl (Nat.le_of_ble_eq_true rfl) rfl ?_
        refine g_aload_n (pc' := 45) dX8_leaveOut_44 rfl rfl ?_
        refine ggX8_54 (pc' := 48) rfl dX8_leaveOut_45 rfl l8 r276 ?_
        refine g_bipush (pc' := 50) (v := 6) dX8_leaveOut_48 rfl rfl ?_
        refine g_iload_n (pc' := 51) dX8_leaveOut_50 rfl rfl ?_
        refine g_imul (pc' := 52) dX8_leaveOut_51 rfl ?_
        rw [show (6 : Int32) = nI 6 from rfl, pk_mul]
        refine g_iload (pc' := 54) dX8_leaveOut_52 rfl rfl ?_
        refine g_iadd (pc' := 55) dX8_leaveOut_54 rfl ?_
        rw [nI_add]
        refine g_iald (pc' := 56) (n := 6 * j + t) dX8_leaveOut_55 rfl (by decide) rfl rfl (show 6 * j + t < 36 by omega) l32 ?_
        rw [q1]
        refine g_bipush (pc' := 58) (v := 6) dX8_leaveOut_56 rfl rfl ?_
        refine g_icmp_eq dX8_leaveOut_58 (tg := 84) (pc' := 61) (by decide) rfl (fun h58 => ?_) (fun h58 => ?_)
        · refine giinc4 (pc' := 87) (c := 1) dX8_leaveOut_84 rfl rfl (Nat.le_of_ble_eq_true rfl) rfl ?_
          refine g_goto dX8_leaveOut_87 (pc' := 9) (by decide) ?_
          rw [nI_1]
          first
            | (refine ih (t + 1) _ C' T (by omega) hS (by rw [hjn]) (by rw [hjc]) (by omega) hMT (fun T' h9 m9 => hQ2 T' ?_ m9)
               rw [tLeave, if_pos (by rw [q9]; exact h34)]; exact h9)
            | (refine ih (t + 1) _ C' T (by omega) hS (by rw [hjn]) (by rw [hjc]) (by omega) hMT (fun T' h9 m9 => hQ2 T' ?_ m9)
               rw [tLeave, if_neg (by rw [q9]; exact h34), if_pos h58]; exact h9)
            | (have h7 := R0.note (k := 7) (m := fI C' 231 0 0) (j := nI j) (t := nI t) (hS.set hjC htC (s := 6) (by decide) (by decide)) (by show tl C' + 1 < _; omega)
               have e8 : fI (saI T 32 0 (6 * j + t) 6) 257 0 0 = fI C' 231 0 0 := hS.now
               rw [e8]
               have et : tl (tLogS (sfI C' 163 j t 6) 7 (fI C' 231 0 0) (nI j) (nI t)) = tl C' + 1 := tl_note (by show tl C' + 1 < _; omega)
               have g9 : tGo d0 1 C' (tLogS (sfI C' 163 j t 6) 7 (fI C' 231 0 0) (nI j) (nI t)) := ((tGo_sfI rfl (by decide)).tr tLogS_go)
               refine ih (t + 1) _ (tLogS (sfI C' 163 j t 6) 7 (fI C' 231 0 0) (nI j) (nI t)) _ (by omega) h7 (by rw [jn_go g9, hjn]) (by rw [jc_go g9, hjc]) (by rw [et]; omega) (hMT.of rfl rfl) (fun T' h9 m9 => hQ2 T' ?_ (((mK_saI rfl).tr tLM_mK).tr m9))
               rw [tLeave, if_neg (by rw [q9]; exact h34), if_neg h58]; exact h9)
        · refine g_aload_n (pc' := 62) dX8_leaveOut_61 rfl rfl ?_
          refine ggX8_54 (pc' := 65) rfl dX8_leaveOut_62 rfl l8 r276 ?_
          refine g_bipush (pc' := 67) (v := 6) dX8_leaveOut_65 rfl rfl ?_
          refine g_iload_n (pc' := 68) dX8_leaveOut_67 rfl rfl ?_
          refine g_imul (pc' := 69) dX8_leaveOut_68 rfl ?_
          rw [show (6 : Int32) = nI 6 from rfl, pk_mul]
          refine g_iload (pc' := 71) dX8_leaveOut_69 rfl rfl ?_
          refine g_iadd (pc' := 72) dX8_leaveOut_71 rfl ?_
          rw [nI_add]
          refine g_bipush (pc' := 74) (v := 6) dX8_leaveOut_72 rfl rfl ?_
          refine g_iast (pc' := 75) (n := 6 * j + t) dX8_leaveOut_74 rfl (by decide) rfl rfl (show 6 * j + t < 36 by omega) l32 ?_
          refine g_aload_n (pc' := 76) dX8_leaveOut_75 rfl rfl ?_
          refine g_bipush (pc' := 78) (v := 7) dX8_leaveOut_76 rfl rfl ?_
          refine g_iload_n (pc' := 79) dX8_leaveOut_78 rfl rfl ?_
          refine g_iload (pc' := 81) dX8_leaveOut_79 rfl rfl ?_
          
          refine gcv3 (pc' := 84) cwX8_176 cf8 dX8_leaveOut_81 rfl l8 (Nat.le_of_ble_eq_true rfl) (Nat.le_of_ble_eq_true rfl) (Nat.le_of_ble_eq_true rfl) (Nat.le_of_ble_eq_true rfl) (Nat.le_of_ble_eq_true rfl) (kX8_note (n := tl C') (hMT.of rfl rfl) hS.tot (by omega) ?_)
          refine giinc4 (pc' := 87) (c := 1) dX8_leaveOut_84 rfl rfl (Nat.le_of_ble_eq_true rfl) rfl ?_
          refine g_goto dX8_leaveOut_87 (pc' := 9) (by decide) ?_
          rw [nI_1]
          first
            | (refine ih (t + 1) _ C' T (by omega) hS (by rw [hjn]) (by rw [hjc]) (by omega) hMT (fun T' h9 m9 => hQ2 T' ?_ m9)
               rw [tLeave, if_pos (by rw [q9]; exact h34)]; exact h9)
            | (refine ih (t + 1) _ C' T (by omega) hS (by rw [hjn]) (by rw [hjc]) (by omega) hMT (fun T' h9 m9 => hQ2 T' ?_ m9)
               rw [tLeave, if_neg (by rw [q9]; exact h34), if_pos h58]; exact h9)
            | (have h7 := R0.note (k := 7) (m := fI C' 231 0 0) (j := nI j) (t := nI t) (hS.set hjC htC (s := 6) (by decide) (by decide)) (by show tl C' + 1 < _; omega)
               have e8 : fI (saI T 32 0 (6 * j + t) 6) 257 0 0 = fI C' 231 0 0 := hS.now
               rw [e8]
               have et : tl (tLogS (sfI C' 163 j t 6) 7 (fI C' 231 0 0) (nI j) (nI t)) = tl C' + 1 := tl_note (by show tl C' + 1 < _; omega)
               have g9 : tGo d0 1 C' (tLogS (sfI C' 163 j t 6) 7 (fI C' 231 0 0) (nI j) (nI t)) := ((tGo_sfI rfl (by decide)).tr tLogS_go)
               refine ih (t + 1) _ (tLogS (sfI C' 163 j t 6) 7 (fI C' 231 0 0) (nI j) (nI t)) _ (by omega) h7 (by rw [jn_go g9, hjn]) (by rw [jc_go g9, hjc]) (by rw [et]; omega) (hMT.of rfl rfl) (fun T' h9 m9 => hQ2 T' ?_ (((mK_saI rfl).tr tLM_mK).tr m9))
               rw [tLeave, if_neg (by rw [q9]; exact h34), if_neg h58]; exact h9)
  refine g_iconst (pc' := 1) (v := 1) dX8_leaveOut_0 rfl rfl ?_
  refine g_iload_n (pc' := 2) dX8_leaveOut_1 rfl rfl ?_
  refine g_ishl (pc' := 3) dX8_leaveOut_2 rfl ?_
  refine gistore_n3 (pc' := 4) dX8_leaveOut_3 rfl (Nat.le_of_ble_eq_true rfl) rfl ?_
  refine g_iload_n (pc' := 5) dX8_leaveOut_4 rfl rfl ?_
  refine g_iconst (pc' := 6) (v := 1) dX8_leaveOut_5 rfl rfl ?_
  refine g_iadd (pc' := 7) dX8_leaveOut_6 rfl ?_
  refine gistore4 (pc' := 9) dX8_leaveOut_7 rfl (Nat.le_of_ble_eq_true rfl) rfl ?_
  rw [nI_1]
  exact LP (jc C j - (f + 1)) (f + 1) (1 <<< (nI f &&& 31)) C S (by omega) hR rfl rfl (by omega) hM hQ

