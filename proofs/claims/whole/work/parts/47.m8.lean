/-! THE MODEL (8): counting, the best, starting -/
def mcn (T : gS) : Nat → Nat
  | 0 => 0
  | k + 1 => if aI T 32 0 k = 3 then mcn T k + 1 else mcn T k
theorem mcn_le (T : gS) : ∀ k, mcn T k ≤ k
  | 0 => Nat.le_refl _
  | k + 1 => by have := mcn_le T k; unfold mcn; split <;> omega
theorem mcn_in {C S : gS} (h : R0 C S) {j : Nat} (hj : j < jn C) : ∀ t, t ≤ 6 → mcn S (6 * j + t) = mcn S (6 * j) + tCR C j (min t (jc C j))
  | 0, _ => by rw [Nat.zero_min]; rfl
  | t + 1, ht => by
    have ih := mcn_in h hj t (by omega)
    show (if aI S 32 0 (6 * j + t) = 3 then mcn S (6 * j + t) + 1 else mcn S (6 * j + t)) = _
    rcases Nat.lt_or_ge t (jc C j) with q | q
    · rw [(h.st hj q).1, ih, Nat.min_eq_left (show t + 1 ≤ jc C j from q), Nat.min_eq_left (Nat.le_of_lt q), tCR]
      split <;> omega
    · rw [(h.2.2.1.2.1 j t (by have := h.j6; omega) (by omega) (Or.inr q)).1, if_neg (by decide), ih, Nat.min_eq_right q, Nat.min_eq_right (by omega)]
theorem mcn_out {C S : gS} (h : R0 C S) {j : Nat} (hj : jn C ≤ j) (hj6 : j < 6) : ∀ t, t ≤ 6 → mcn S (6 * j + t) = mcn S (6 * j)
  | 0, _ => rfl
  | t + 1, ht => by
    have ih := mcn_out h hj hj6 t (by omega)
    show (if aI S 32 0 (6 * j + t) = 3 then mcn S (6 * j + t) + 1 else mcn S (6 * j + t)) = _
    rw [(h.2.2.1.2.1 j t hj6 (by omega) (Or.inl hj)).1, if_neg (by decide), ih]
theorem mcn_run {C S : gS} (h : R0 C S) : ∀ j, j ≤ 6 → mcn S (6 * j) = tRun C (min j (jn C))
  | 0, _ => by rw [Nat.zero_min]; rfl
  | j + 1, hj => by
    have ih := mcn_run h j (by omega)
    rcases Nat.lt_or_ge j (jn C) with q | q
    · rw [show 6 * (j + 1) = 6 * j + 6 by omega, mcn_in h q 6 (Nat.le_refl _), ih, Nat.min_eq_left (Nat.le_of_lt q), Nat.min_eq_left (show j + 1 ≤ jn C from q), Nat.min_eq_right (h.c6 q)]
      rfl
    · rw [show 6 * (j + 1) = 6 * j + 6 by omega, mcn_out h q (by omega) 6 (Nat.le_refl _), ih, Nat.min_eq_right q, Nat.min_eq_right (by omega)]
theorem mcn_36 {C S : gS} (h : R0 C S) : mcn S 36 = tRun C (jn C) := by
  have := mcn_run h 6 (Nat.le_refl _)
  rw [Nat.min_eq_right h.j6] at this
  exact this
theorem mcn_set {T T' : gS} {k : Nat} (h : ¬ aI T 32 0 k = 3) (e : aI T' 32 0 k = 3) (o : ∀ i, i ≠ k → aI T' 32 0 i = aI T 32 0 i) : ∀ n, mcn T' n = if k < n then mcn T n + 1 else mcn T n
  | 0 => by rw [if_neg (Nat.not_lt_zero _)]; rfl
  | n + 1 => by
    have ih := mcn_set h e o n
    by_cases q : n = k
    · subst q
      rw [mcn, mcn, if_pos e, if_neg h, ih, if_neg (Nat.lt_irrefl _), if_pos (Nat.lt_succ_self _)]
    · rw [mcn, mcn, o n q, ih]
      by_cases c : k < n
      · have c2 : k < n + 1 := by omega
        simp only [if_pos c, if_pos c2]
        split <;> rfl
      · have c2 : ¬ k < n + 1 := by omega
        simp only [if_neg c, if_neg c2]
set_option maxRecDepth 100000 in
set_option maxHeartbeats 2000000 in
theorem kX8_runningTasks {E : gE} {S : gS} {Q : Option gV → gS → Prop} (hM : ModS S) (hQ : Q (some (vI (nI (mcn S 36)))) S) : gRun E mX8_runningTasks 1 0 0 [vR 8 0 0] S [] Q := by
  refine gRun_of (ls := [some (vR 8 0 0), none, none]) rfl (Nat.le_of_ble_eq_true rfl) rfl (fun ad => ?_)
  obtain ⟨l8, l20, l21, l22, l23, l24, l25, l26, l27, l28, l29, l30, l31, l32, l33, l34, l35, r262, r265, r266, r267, r268, r269, r270, r271, r272, r273, r274, r275, r276, r277, r278, r280⟩ := id hM
  have LP : ∀ (f k : Nat) (_ : k + f = 36), gG E mX8_runningTasks (gBof 1 0 0 ad [] Q) 4 [some (vR 8 0 0), some (vI (nI (mcn S k))), some (vI (nI k))] [] S 0 0 := by
    intro f
    induction f with
    | zero =>
      intro k hk
      have e : k = 36 := by omega
      subst e
      refine g_iload_n (pc' := 5) dX8_runningTasks_4 rfl rfl ?_
      refine g_bipush (pc' := 7) (v := 36) dX8_runningTasks_5 rfl rfl ?_
      refine g_icmp_ge dX8_runningTasks_7 (tg := 34) (pc' := 10) (by decide) rfl (fun h7 => ?_) (fun h7 => absurd (by decide) h7)
      refine g_iload_n (pc' := 35) dX8_runningTasks_34 rfl rfl ?_
      refine g_iret dX8_runningTasks_35 rfl rfl (Nat.le_of_ble_eq_true rfl) (Nat.le_of_ble_eq_true rfl) ?_
      exact hQ
    | succ f ih =>
      intro k hk
      refine g_iload_n (pc' := 5) dX8_runningTasks_4 rfl rfl ?_
      refine g_bipush (pc' := 7) (v := 36) dX8_runningTasks_5 rfl rfl ?_
      refine g_icmp_ge dX8_runningTasks_7 (tg := 34) (pc' := 10) (by decide) rfl (fun h7 => absurd h7 (by rw [show (36 : Int32) = nI 36 from rfl, nI_leI (by decide) (by omega)]; omega)) (fun h7 => ?_)
      refine g_aload_n (pc' := 11) dX8_runningTasks_10 rfl rfl ?_
      refine ggX8_54 (pc' := 14) rfl dX8_runningTasks_11 rfl l8 r276 ?_
      refine g_iload_n (pc' := 15) dX8_runningTasks_14 rfl rfl ?_
      refine g_iald (pc' := 16) (n := k) dX8_runningTasks_15 rfl (by decide) rfl rfl (show k < 36 by omega) l32 ?_
      refine g_iconst (pc' := 17) (v := 3) dX8_runningTasks_16 rfl rfl ?_
      refine g_icmp_ne dX8_runningTasks_17 (tg := 26) (pc' := 20) (by decide) rfl (fun h17 => ?_) (fun h17 => ?_)
      · refine g_iload_n (pc' := 27) dX8_runningTasks_26 rfl rfl ?_
        refine gistore_n1 (pc' := 28) dX8_runningTasks_27 rfl (Nat.le_of_ble_eq_true rfl) rfl ?_
        refine giinc2 (pc' := 31) (c := 1) dX8_runningTasks_28 rfl rfl (Nat.le_of_ble_eq_true rfl) rfl ?_
        refine g_goto dX8_runningTasks_31 (pc' := 4) (by decide) ?_
        rw [nI_1]
        have e9 := ih (k + 1) (by omega)
        rw [mcn] at e9
        first
          | (rw [if_pos h17] at e9; exact e9)
          | (rw [if_neg h17] at e9; exact e9)
      · refine g_iload_n (pc' := 21) dX8_runningTasks_20 rfl rfl ?_
        refine g_iconst (pc' := 22) (v := 1) dX8_runningTasks_21 rfl rfl ?_
        refine g_iadd (pc' := 23) dX8_runningTasks_22 rfl ?_
        rw [nI_1]
        refine g_goto dX8_runningTasks_23 (pc' := 27) (by decide) ?_
        refine gistore_n1 (pc' := 28) dX8_runningTasks_27 rfl (Nat.le_of_ble_eq_true rfl) rfl ?_
        refine giinc2 (pc' := 31) (c := 1) dX8_runningTasks_28 rfl rfl (Nat.le_of_ble_eq_true rfl) rfl ?_
        refine g_goto dX8_runningTasks_31 (pc' := 4) (by decide) ?_
        rw [nI_1]
        have e9 := ih (k + 1) (by omega)
        rw [mcn] at e9
        first
          | (rw [if_pos h17] at e9; exact e9)
          | (rw [if_neg h17] at e9; exact e9)
  refine g_iconst (pc' := 1) (v := 0) dX8_runningTasks_0 rfl rfl ?_
  refine gistore_n1 (pc' := 2) dX8_runningTasks_1 rfl (Nat.le_of_ble_eq_true rfl) rfl ?_
  refine g_iconst (pc' := 3) (v := 0) dX8_runningTasks_2 rfl rfl ?_
  refine gistore_n2 (pc' := 4) dX8_runningTasks_3 rfl (Nat.le_of_ble_eq_true rfl) rfl ?_
  exact LP 36 0 (by omega)

theorem bt_1 (i : Nat) : bt 1 i = decide (i = 0) := by
  rcases Nat.lt_or_ge i 32 with h | h
  · exact (by decide +kernel : ∀ i, i < 32 → bt 1 i = decide (i = 0)) i h
  · rw [b_big h, decide_eq_false (by omega)]
theorem bt_nI {n : Nat} {i : Nat} (hi : i < 32) : bt (nI n) i = n.testBit i := by
  show (BitVec.ofNat 32 n).getLsbD i = _
  rw [BitVec.getLsbD_ofNat]
  simp [hi]
theorem bitz {x : Int32} {n : Nat} (hn : n < 32) : (x >>> (nI n &&& 31)) &&& 1 = 0 ↔ bt x n = false := by
  constructor
  · intro h
    have h1 : bt ((x >>> (nI n &&& 31)) &&& 1) 0 = bt 0 0 := by rw [h]
    rw [b_and, b_sshr n hn x (by decide), bt_1, b_0, Nat.add_zero, if_pos hn] at h1
    simpa using h1
  · intro h
    refine b_ext (fun i hi => ?_)
    rw [b_and, b_0, bt_1]
    by_cases c : i = 0
    · subst c
      rw [b_sshr n hn x (by decide), Nat.add_zero, if_pos hn, h]; rfl
    · rw [decide_eq_false c, Bool.and_false]
theorem tDone_bt {C : gS} {j : Nat} : ∀ (n i : Nat), n ≤ 31 → i < 32 → bt (tDone C j n) i = decide (i < n ∧ fI C 163 j i = 4)
  | 0, i, _, _ => by rw [tDone, b_0, decide_eq_false (fun z => by omega)]
  | n + 1, i, hn, hi => by
    have ih := tDone_bt (C := C) (j := j) n i (by omega) hi
    rw [tDone]
    by_cases c : fI C 163 j n = 4
    · rw [if_pos c, b_or, ih, b_shl n (by omega) 1 hi, bt_1]
      by_cases q : i = n
      · subst q
        rw [decide_eq_true (show i < i + 1 ∧ _ from ⟨Nat.lt_succ_self _, c⟩)]
        simp
      · have e1 : (decide (n ≤ i) && decide (i - n = 0)) = false := by
          rw [← Bool.decide_and]
          exact decide_eq_false (fun z => by omega)
        rw [e1, Bool.or_false]
        exact decide_eq_decide.mpr ⟨fun z => ⟨by omega, z.2⟩, fun z => ⟨by omega, z.2⟩⟩
    · rw [if_neg c, ih]
      refine decide_eq_decide.mpr ⟨fun z => ⟨by omega, z.2⟩, fun z => ⟨?_, z.2⟩⟩
      rcases Nat.lt_or_ge i n with q | q
      · exact q
      · have e : i = n := by omega
        subst e
        exact absurd z.2 c
def ndB (C : gS) (j m n : Nat) : Bool := !bt (nI m) n || decide (fI C 163 j n = 4)
theorem ndB_t {C : gS} {j m n : Nat} : ndB C j m n = true ↔ (bt (nI m) n = false ∨ fI C 163 j n = 4) := by
  unfold ndB
  rw [Bool.or_eq_true, decide_eq_true_eq, Bool.not_eq_true']
/-- needs met -/
theorem need_ok {C : gS} {j t m : Nat} (ht : t ≤ 31) (hm : m < 2 ^ t) : nI m &&& (tDone C j t ^^^ (-1)) = 0 ↔ ∀ n, n < t → bt (nI m) n = false ∨ fI C 163 j n = 4 := by
  have hb : ∀ i, i < 32 → bt (nI m &&& (tDone C j t ^^^ (-1))) i = (bt (nI m) i && !decide (i < t ∧ fI C 163 j i = 4)) := fun i hi => by
    rw [b_and, b_xor, b_m1 i hi, tDone_bt t i ht hi, Bool.xor_true]
  constructor
  · intro h n hn
    have h1 := hb n (by omega)
    rw [h, b_0] at h1
    by_cases c : fI C 163 j n = 4
    · exact Or.inr c
    · rw [decide_eq_false (fun z => c z.2)] at h1
      left
      simpa using h1.symm
  · intro h
    refine b_ext (fun i hi => ?_)
    rw [hb i hi, b_0]
    rcases Nat.lt_or_ge i t with q | q
    · rcases h i q with c | c
      · rw [c]; rfl
      · rw [decide_eq_true ⟨q, c⟩]; simp
    · have e : bt (nI m) i = false := by
        rw [bt_nI hi]
        exact Nat.testBit_lt_two_pow (Nat.lt_of_lt_of_le hm (Nat.pow_le_pow_right (by decide) q))
      rw [e]; rfl
set_option maxRecDepth 100000 in
set_option maxHeartbeats 2000000 in
theorem kX8_isReady {E : gE} {S : gS} {C : gS} {j t : Nat} {Q : Option gV → gS → Prop} (hM : ModS S) (hR : R0 C S) (hj : j < jn C) (ht : t < jc C j) (hQ : Q (some (vI (bI (tReady C j t (fI C 231 0 0) (tDone C j t))))) S) : gRun E mX8_isReady 1 0 0 [vR 8 0 0, vI (nI j), vI (nI t)] S [] Q := by
  refine gRun_of (ls := [some (vR 8 0 0), some (vI (nI j)), some (vI (nI t)), none, none, none]) rfl (Nat.le_of_ble_eq_true rfl) rfl (fun ad => ?_)
  obtain ⟨l8, l20, l21, l22, l23, l24, l25, l26, l27, l28, l29, l30, l31, l32, l33, l34, l35, r262, r265, r266, r267, r268, r269, r270, r271, r272, r273, r274, r275, r276, r277, r278, r280⟩ := id hM
  have hj6 := hR.j6
  have hc6 := hR.c6 hj
  obtain ⟨q1, q2, q3, ⟨m, hm, q9, q8⟩, q5, q6, q7⟩ := hR.st hj ht
  have hI0 : ∀ z0 : Nat, z0 = 0 → (fI C 163 j t = 1 ∨ fI C 163 j t = 2 ∧ fI C 165 j t ≤ fI C 231 0 0) → true = decide ((fI C 163 j t = 1 ∨ fI C 163 j t = 2 ∧ fI C 165 j t ≤ fI C 231 0 0) ∧ ∀ i, i < z0 → ndB C j m i = true) := fun z0 e0 z => (decide_eq_true ⟨z, fun n hn => by omega⟩).symm
  have hI1 : ∀ z0 : Nat, z0 = 0 → ¬ (fI C 163 j t = 1 ∨ fI C 163 j t = 2 ∧ fI C 165 j t ≤ fI C 231 0 0) → false = decide ((fI C 163 j t = 1 ∨ fI C 163 j t = 2 ∧ fI C 165 j t ≤ fI C 231 0 0) ∧ ∀ i, i < z0 → ndB C j m i = true) := fun z0 _ z => (decide_eq_false (fun z2 => z z2.1)).symm
  have hfin : bI (decide ((fI C 163 j t = 1 ∨ fI C 163 j t = 2 ∧ fI C 165 j t ≤ fI C 231 0 0) ∧ ∀ n, n < t → ndB C j m n = true)) = bI (tReady C j t (fI C 231 0 0) (tDone C j t)) := by
    refine bIq (decide_eq_decide.mpr ?_)
    rw [q9, need_ok (by omega) hm]
    exact and_congr Iff.rfl (forall_congr' fun n => forall_congr' fun _ => ndB_t)
  have LP : ∀ (k n : Nat) (B : Bool) (_ : n + k = t) (hb : B = decide ((fI C 163 j t = 1 ∨ fI C 163 j t = 2 ∧ fI C 165 j t ≤ fI C 231 0 0) ∧ ∀ i, i < n → ndB C j m i = true)), gG E mX8_isReady (gBof 1 0 0 ad [] Q) 50 [some (vR 8 0 0), some (vI (nI j)), some (vI (nI t)), some (vI (nI (6 * j + t))), some (vI (bI B)), some (vI (nI n))] [] S 0 0 := by
    intro k
    induction k with
    | zero =>
      intro n B hk hb
      have e : n = t := by omega
      subst e
      refine g_iload (pc' := 52) dX8_isReady_50 rfl rfl ?_
      refine g_iload_n (pc' := 53) dX8_isReady_52 rfl rfl ?_
      refine g_icmp_ge dX8_isReady_53 (tg := 104) (pc' := 56) (by decide) rfl (fun h53 => ?_) (fun h53 => absurd (Int32.le_refl _) h53)
      refine g_iload (pc' := 106) dX8_isReady_104 rfl rfl ?_
      refine g_iret dX8_isReady_106 rfl (bI_nar _) (Nat.le_of_ble_eq_true rfl) (Nat.le_of_ble_eq_true rfl) ?_
      exact gq hQ (by rw [hb]; exact hfin.symm)
    | succ k ih =>
      intro n B hk hb
      have qn := hR.st hj (t := n) (by omega)
      have hB0 : B = false → false = decide ((fI C 163 j t = 1 ∨ fI C 163 j t = 2 ∧ fI C 165 j t ≤ fI C 231 0 0) ∧ ∀ i, i < n + 1 → ndB C j m i = true) := fun z => by
        rw [z] at hb
        have h3 := of_decide_eq_false hb.symm
        exact (decide_eq_false (fun z2 => h3 ⟨z2.1, fun i hi => z2.2 i (by omega)⟩)).symm
      have hB1 : B = true → (bt (nI m) n = false ∨ fI C 163 j n = 4) → true = decide ((fI C 163 j t = 1 ∨ fI C 163 j t = 2 ∧ fI C 165 j t ≤ fI C 231 0 0) ∧ ∀ i, i < n + 1 → ndB C j m i = true) := fun z z9 => by
        rw [z] at hb
        have h3 := of_decide_eq_true hb.symm
        refine (decide_eq_true ⟨h3.1, fun i hi => ?_⟩).symm
        rcases Nat.lt_or_ge i n with q | q
        · exact h3.2 i q
        · rw [show i = n by omega]; exact ndB_t.mpr z9
      have hB2 : ¬ bt (nI m) n = false → ¬ fI C 163 j n = 4 → false = decide ((fI C 163 j t = 1 ∨ fI C 163 j t = 2 ∧ fI C 165 j t ≤ fI C 231 0 0) ∧ ∀ i, i < n + 1 → ndB C j m i = true) := fun z z9 => (decide_eq_false (fun z2 => (ndB_t.mp (z2.2 n (by omega))).elim z z9)).symm
      refine g_iload (pc' := 52) dX8_isReady_50 rfl rfl ?_
      refine g_iload_n (pc' := 53) dX8_isReady_52 rfl rfl ?_
      refine g_icmp_ge dX8_isReady_53 (tg := 104) (pc' := 56) (by decide) rfl (fun h53 => absurd h53 (by rw [nI_leI (by omega) (by omega)]; omega)) (fun h53 => ?_)
      refine g_iload (pc' := 58) dX8_isReady_56 rfl rfl ?_
      refine g_if_eq dX8_isReady_58 (tg := 95) (pc' := 61) (by decide) rfl (fun h58 => ?_) (fun h58 => ?_)
      · refine g_iconst (pc' := 96) (v := 0) dX8_isReady_95 rfl rfl ?_
        refine gistore4 (pc' := 98) dX8_isReady_96 rfl (Nat.le_of_ble_eq_true rfl) rfl ?_
        refine giinc5 (pc' := 101) (c := 1) dX8_isReady_98 rfl rfl (Nat.le_of_ble_eq_true rfl) rfl ?_
        refine g_goto dX8_isReady_101 (pc' := 50) (by decide) ?_
        rw [nI_1]
        first
          | exact ih (n + 1) false (by omega) (hB0 (bI_f.mp h58))
          | exact ih (n + 1) true (by omega) (hB1 (bbp h58) (Or.inl ((bitz (by omega)).mp h72)))
          | exact ih (n + 1) true (by omega) (hB1 (bbp h58) (Or.inr h88))
          | exact ih (n + 1) false (by omega) (hB2 (fun z => h72 ((bitz (by omega)).mpr z)) h88)
      · refine g_aload_n (pc' := 62) dX8_isReady_61 rfl rfl ?_
        refine ggX8_45 (pc' := 65) rfl dX8_isReady_62 rfl l8 r273 ?_
        refine g_iload_n (pc' := 66) dX8_isReady_65 rfl rfl ?_
        refine g_iald (pc' := 67) (n := 6 * j + t) dX8_isReady_66 rfl (by decide) rfl rfl (show 6 * j + t < 36 by omega) l29 ?_
        rw [q8]
        refine g_iload (pc' := 69) dX8_isReady_67 rfl rfl ?_
        refine g_ishr (pc' := 70) dX8_isReady_69 rfl ?_
        refine g_iconst (pc' := 71) (v := 1) dX8_isReady_70 rfl rfl ?_
        refine g_iand (pc' := 72) dX8_isReady_71 rfl ?_
        refine g_if_eq dX8_isReady_72 (tg := 91) (pc' := 75) (by decide) rfl (fun h72 => ?_) (fun h72 => ?_)
        · refine g_iconst (pc' := 92) (v := 1) dX8_isReady_91 rfl rfl ?_
          refine g_goto dX8_isReady_92 (pc' := 96) (by decide) ?_
          refine gistore4 (pc' := 98) dX8_isReady_96 rfl (Nat.le_of_ble_eq_true rfl) rfl ?_
          refine giinc5 (pc' := 101) (c := 1) dX8_isReady_98 rfl rfl (Nat.le_of_ble_eq_true rfl) rfl ?_
          refine g_goto dX8_isReady_101 (pc' := 50) (by decide) ?_
          rw [nI_1]
          first
            | exact ih (n + 1) false (by omega) (hB0 (bI_f.mp h58))
            | exact ih (n + 1) true (by omega) (hB1 (bbp h58) (Or.inl ((bitz (by omega)).mp h72)))
            | exact ih (n + 1) true (by omega) (hB1 (bbp h58) (Or.inr h88))
            | exact ih (n + 1) false (by omega) (hB2 (fun z => h72 ((bitz (by omega)).mpr z)) h88)
        · refine g_aload_n (pc' := 76) dX8_isReady_75 rfl rfl ?_
          refine ggX8_54 (pc' := 79) rfl dX8_isReady_76 rfl l8 r276 ?_
          refine g_bipush (pc' := 81) (v := 6) dX8_isReady_79 rfl rfl ?_
          refine g_iload_n (pc' := 82) dX8_isReady_81 rfl rfl ?_
          
          refine g_imul (pc' := 83) dX8_isReady_82 rfl ?_
          rw [show (6 : Int32) = nI 6 from rfl, pk_mul]
          refine g_iload (pc' := 85) dX8_isReady_83 rfl rfl ?_
          refine g_iadd (pc' := 86) dX8_isReady_85 rfl ?_
          rw [nI_add]
          refine g_iald (pc' := 87) (n := 6 * j + n) dX8_isReady_86 rfl (by decide) rfl rfl (show 6 * j + n < 36 by omega) l32 ?_
          rw [qn.1]
          refine g_iconst (pc' := 88) (v := 4) dX8_isReady_87 rfl rfl ?_
          refine g_icmp_ne dX8_isReady_88 (tg := 95) (pc' := 91) (by decide) rfl (fun h88 => ?_) (fun h88 => ?_)
          · refine g_iconst (pc' := 96) (v := 0) dX8_isReady_95 rfl rfl ?_
            refine gistore4 (pc' := 98) dX8_isReady_96 rfl (Nat.le_of_ble_eq_true rfl) rfl ?_
            refine giinc5 (pc' := 101) (c := 1) dX8_isReady_98 rfl rfl (Nat.le_of_ble_eq_true rfl) rfl ?_
            refine g_goto dX8_isReady_101 (pc' := 50) (by decide) ?_
            rw [nI_1]
            first
              | exact ih (n + 1) false (by omega) (hB0 (bI_f.mp h58))
              | exact ih (n + 1) true (by omega) (hB1 (bbp h58) (Or.inl ((bitz (by omega)).mp h72)))
              | exact ih (n + 1) true (by omega) (hB1 (bbp h58) (Or.inr h88))
              | exact ih (n + 1) false (by omega) (hB2 (fun z => h72 ((bitz (by omega)).mpr z)) h88)
          · refine g_iconst (pc' := 92) (v := 1) dX8_isReady_91 rfl rfl ?_
            refine g_goto dX8_isReady_92 (pc' := 96) (by decide) ?_
            refine gistore4 (pc' := 98) dX8_isReady_96 rfl (Nat.le_of_ble_eq_true rfl) rfl ?_
            refine giinc5 (pc' := 101) (c := 1) dX8_isReady_98 rfl rfl (Nat.le_of_ble_eq_true rfl) rfl ?_
            refine g_goto dX8_isReady_101 (pc' := 50) (by decide) ?_
            rw [nI_1]
            first
              | exact ih (n + 1) false (by omega) (hB0 (bI_f.mp h58))
              | exact ih (n + 1) true (by omega) (hB1 (bbp h58) (Or.inl ((bitz (by omega)).mp h72)))
              | exact ih (n + 1) true (by omega) (hB1 (bbp h58) (Or.inr h88))
              | exact ih (n + 1) false (by omega) (hB2 (fun z => h72 ((bitz (by omega)).mpr z)) h88)
  refine g_bipush (pc' := 2) (v := 6) dX8_isReady_0 rfl rfl ?_
  refine g_iload_n (pc' := 3) dX8_isReady_2 rfl rfl ?_
  refine g_imul (pc' := 4) dX8_isReady_3 rfl ?_
  rw [show (6 : Int32) = nI 6 from rfl, pk_mul]
  refine g_iload_n (pc' := 5) dX8_isReady_4 rfl rfl ?_
  refine g_iadd (pc' := 6) dX8_isReady_5 rfl ?_
  rw [nI_add]
  refine gistore_n3 (pc' := 7) dX8_isReady_6 rfl (Nat.le_of_ble_eq_true rfl) rfl ?_
  refine g_aload_n (pc' := 8) dX8_isReady_7 rfl rfl ?_
  refine ggX8_54 (pc' := 11) rfl dX8_isReady_8 rfl l8 r276 ?_
  refine g_iload_n (pc' := 12) dX8_isReady_11 rfl rfl ?_
  refine g_iald (pc' := 13) (n := 6 * j + t) dX8_isReady_12 rfl (by decide) rfl rfl (show 6 * j + t < 36 by omega) l32 ?_
  rw [q1]
  refine g_iconst (pc' := 14) (v := 1) dX8_isReady_13 rfl rfl ?_
  refine g_icmp_eq dX8_isReady_14 (tg := 40) (pc' := 17) (by decide) rfl (fun h14 => ?_) (fun h14 => ?_)
  · refine g_iconst (pc' := 41) (v := 1) dX8_isReady_40 rfl rfl ?_
    refine g_goto dX8_isReady_41 (pc' := 45) (by decide) ?_
    refine gistore4 (pc' := 47) dX8_isReady_45 rfl (Nat.le_of_ble_eq_true rfl) rfl ?_
    refine g_iconst (pc' := 48) (v := 0) dX8_isReady_47 rfl rfl ?_
    refine gistore5 (pc' := 50) dX8_isReady_48 rfl (Nat.le_of_ble_eq_true rfl) rfl ?_
    first
      | exact LP t 0 true (by omega) (hI0 0 rfl (Or.inl h14))
      | exact LP t 0 true (by omega) (hI0 0 rfl (Or.inr ⟨h24, Int32.not_lt.mp h37⟩))
      | exact LP t 0 false (by omega) (hI1 0 rfl (fun z => z.elim h14 (fun z => h24 z.1)))
      | exact LP t 0 false (by omega) (hI1 0 rfl (fun z => z.elim h14 (fun z => Int32.not_lt.mpr z.2 h37)))
  · refine g_aload_n (pc' := 18) dX8_isReady_17 rfl rfl ?_
    refine ggX8_54 (pc' := 21) rfl dX8_isReady_18 rfl l8 r276 ?_
    refine g_iload_n (pc' := 22) dX8_isReady_21 rfl rfl ?_
    refine g_iald (pc' := 23) (n := 6 * j + t) dX8_isReady_22 rfl (by decide) rfl rfl (show 6 * j + t < 36 by omega) l32 ?_
    rw [q1]
    refine g_iconst (pc' := 24) (v := 2) dX8_isReady_23 rfl rfl ?_
    refine g_icmp_ne dX8_isReady_24 (tg := 44) (pc' := 27) (by decide) rfl (fun h24 => ?_) (fun h24 => ?_)
    · refine g_iconst (pc' := 45) (v := 0) dX8_isReady_44 rfl rfl ?_
      refine gistore4 (pc' := 47) dX8_isReady_45 rfl (Nat.le_of_ble_eq_true rfl) rfl ?_
      refine g_iconst (pc' := 48) (v := 0) dX8_isReady_47 rfl rfl ?_
      refine gistore5 (pc' := 50) dX8_isReady_48 rfl (Nat.le_of_ble_eq_true rfl) rfl ?_
      first
        | exact LP t 0 true (by omega) (hI0 0 rfl (Or.inl h14))
        | exact LP t 0 true (by omega) (hI0 0 rfl (Or.inr ⟨h24, Int32.not_lt.mp h37⟩))
        | exact LP t 0 false (by omega) (hI1 0 rfl (fun z => z.elim h14 (fun z => h24 z.1)))
        | exact LP t 0 false (by omega) (hI1 0 rfl (fun z => z.elim h14 (fun z => Int32.not_lt.mpr z.2 h37)))
    · refine g_aload_n (pc' := 28) dX8_isReady_27 rfl rfl ?_
      refine ggX8_60 (pc' := 31) rfl dX8_isReady_28 rfl l8 r278 ?_
      refine g_iload_n (pc' := 32) dX8_isReady_31 rfl rfl ?_
      refine g_iald (pc' := 33) (n := 6 * j + t) dX8_isReady_32 rfl (by decide) rfl rfl (show 6 * j + t < 36 by omega) l34 ?_
      rw [q7 h24]
      refine g_aload_n (pc' := 34) dX8_isReady_33 rfl rfl ?_
      refine ggX8_173 (pc' := 37) rfl dX8_isReady_34 rfl l8 ?_
      rw [hR.now]
      refine g_icmp_gt dX8_isReady_37 (tg := 44) (pc' := 40) (by decide) rfl (fun h37 => ?_) (fun h37 => ?_)
      · refine g_iconst (pc' := 45) (v := 0) dX8_isReady_44 rfl rfl ?_
        refine gistore4 (pc' := 47) dX8_isReady_45 rfl (Nat.le_of_ble_eq_true rfl) rfl ?_
        refine g_iconst (pc' := 48) (v := 0) dX8_isReady_47 rfl rfl ?_
        refine gistore5 (pc' := 50) dX8_isReady_48 rfl (Nat.le_of_ble_eq_true rfl) rfl ?_
        first
          | exact LP t 0 true (by omega) (hI0 0 rfl (Or.inl h14))
          | exact LP t 0 true (by omega) (hI0 0 rfl (Or.inr ⟨h24, Int32.not_lt.mp h37⟩))
          | exact LP t 0 false (by omega) (hI1 0 rfl (fun z => z.elim h14 (fun z => h24 z.1)))
          | exact LP t 0 false (by omega) (hI1 0 rfl (fun z => z.elim h14 (fun z => Int32.not_lt.mpr z.2 h37)))
      · refine g_iconst (pc' := 41) (v := 1) dX8_isReady_40 rfl rfl ?_
        refine g_goto dX8_isReady_41 (pc' := 45) (by decide) ?_
        refine gistore4 (pc' := 47) dX8_isReady_45 rfl (Nat.le_of_ble_eq_true rfl) rfl ?_
        refine g_iconst (pc' := 48) (v := 0) dX8_isReady_47 rfl rfl ?_
        refine gistore5 (pc' := 50) dX8_isReady_48 rfl (Nat.le_of_ble_eq_true rfl) rfl ?_
        first
          | exact LP t 0 true (by omega) (hI0 0 rfl (Or.inl h14))
          | exact LP t 0 true (by omega) (hI0 0 rfl (Or.inr ⟨h24, Int32.not_lt.mp h37⟩))
          | exact LP t 0 false (by omega) (hI1 0 rfl (fun z => z.elim h14 (fun z => h24 z.1)))
          | exact LP t 0 false (by omega) (hI1 0 rfl (fun z => z.elim h14 (fun z => Int32.not_lt.mpr z.2 h37)))

def bstI (C : gS) (r : Option Nat) : Int32 := match r with
  | none => -1
  | some b => nI (6 * b + tFRn C b)
theorem tFR_at {C : gS} {j : Nat} {now : Int32} : ∀ (k i t0 : Nat) (_ : i ≤ t0) (_ : t0 < i + k) (_ : tReady C j t0 now (tDone C j t0) = true) (_ : ∀ t, i ≤ t → t < t0 → tReady C j t now (tDone C j t) = false), tFR C j now k i = nI t0
  | 0, i, t0, h1, h2, _, _ => by omega
  | k + 1, i, t0, h1, h2, h3, h4 => by
    rw [tFR]
    rcases Nat.eq_or_lt_of_le h1 with q | q
    · subst q; rw [if_pos h3]
    · rw [if_neg (by rw [h4 i (Nat.le_refl _) q]; decide)]
      exact tFR_at k (i + 1) t0 q (by omega) h3 (fun t a b => h4 t (by omega) b)
theorem tFR_no {C : gS} {j : Nat} {now : Int32} : ∀ (k i : Nat) (_ : ∀ t, i ≤ t → t < i + k → tReady C j t now (tDone C j t) = false), tFR C j now k i = -1
  | 0, i, _ => rfl
  | k + 1, i, h => by
    rw [tFR, if_neg (by rw [h i (Nat.le_refl _) (by omega)]; decide)]
    exact tFR_no k (i + 1) (fun t a b => h t (by omega) (by omega))
def bett (C : gS) (j : Nat) : Prop := match tFJ C (fI C 231 0 0) j with
  | none => True
  | some b => fI C 64 b 0 < fI C 64 j 0
/-- where the search stands, before task t of job j -/
def bInv (C : gS) (j t : Nat) (r : Int32) : Prop := (r = bstI C (tFJ C (fI C 231 0 0) j) ∧ (bett C j → ∀ i, i < t → tReady C j i (fI C 231 0 0) (tDone C j i) = false)) ∨ ∃ t0, t0 < t ∧ r = nI (6 * j + t0) ∧ bett C j ∧ tReady C j t0 (fI C 231 0 0) (tDone C j t0) = true ∧ ∀ i, i < t0 → tReady C j i (fI C 231 0 0) (tDone C j i) = false
theorem bInv_end {C : gS} {j : Nat} {r : Int32} (hc : jc C j ≤ 6) (h : bInv C j (jc C j) r) : r = bstI C (tFJ C (fI C 231 0 0) (j + 1)) := by
  rcases h with ⟨h1, h2⟩ | ⟨t0, h1, h2, h3, h4, h5⟩
  · rw [h1, tFJ]
    by_cases hb : bett C j
    · have hno : tRdy C j (fI C 231 0 0) = false := by
        unfold tRdy
        rw [tFR_no (jc C j) 0 (fun t _ b => h2 hb t (by omega))]
        rfl
      cases e : tFJ C (fI C 231 0 0) j with
      | none => simp only [hno]; rfl
      | some b => simp only [hno, Bool.false_eq_true, and_false, if_false]
    · cases e : tFJ C (fI C 231 0 0) j with
      | none => exact absurd (by unfold bett; rw [e]; trivial) hb
      | some b =>
        have hb2 : ¬ fI C 64 b 0 < fI C 64 j 0 := fun z => hb (by unfold bett; rw [e]; exact z)
        simp only [hb2, false_and, if_false]
  · have hfr : tFR C j (fI C 231 0 0) (jc C j) 0 = nI t0 := tFR_at (jc C j) 0 t0 (Nat.zero_le _) (by omega) h4 (fun t _ b => h5 t b)
    have hry : tRdy C j (fI C 231 0 0) = true := by
      unfold tRdy
      rw [hfr]
      exact decide_eq_true (nI_ne1 (by omega))
    have hn : tFRn C j = t0 := by
      unfold tFRn
      rw [hfr, nI_clamp (by omega)]
    have e1 : tFJ C (fI C 231 0 0) (j + 1) = some j := by
      rw [tFJ]
      unfold bett at h3
      cases e : tFJ C (fI C 231 0 0) j with
      | none => simp only [hry, if_true]
      | some b =>
        rw [e] at h3
        simp only [show fI C 64 b 0 < fI C 64 j 0 from h3, hry, and_self, if_true]
    rw [e1, h2]
    show _ = nI (6 * j + tFRn C j)
    rw [hn]
set_option maxRecDepth 100000 in
set_option maxHeartbeats 2000000 in
theorem kX8_best {E : gE} {S : gS} {C : gS} {Q : Option gV → gS → Prop} (hM : ModS S) (hR : R0 C S) (hQ : Q (some (vI (bstI C (tFJ C (fI C 231 0 0) (jn C))))) S) : gRun E mX8_best 2 0 0 [vR 8 0 0] S [] Q := by
  refine gRun_of (ls := [some (vR 8 0 0), none, none, none, none]) rfl (Nat.le_of_ble_eq_true rfl) rfl (fun ad => ?_)
  obtain ⟨l8, l20, l21, l22, l23, l24, l25, l26, l27, l28, l29, l30, l31, l32, l33, l34, l35, r262, r265, r266, r267, r268, r269, r270, r271, r272, r273, r274, r275, r276, r277, r278, r280⟩ := id hM
  have hj6 := hR.j6
  have LP : ∀ (k j : Nat) (w3 w4 : Option gV) (_ : j + k = jn C), gG E mX8_best (gBof 2 0 0 ad [] Q) 4 [some (vR 8 0 0), some (vI (bstI C (tFJ C (fI C 231 0 0) j))), some (vI (nI j)), w3, w4] [] S 0 0 := by
    intro k
    induction k with
    | zero =>
      intro j w3 w4 hk
      have e : j = jn C := by omega
      subst e
      refine g_iload_n (pc' := 5) dX8_best_4 rfl rfl ?_
      refine g_aload_n (pc' := 6) dX8_best_5 rfl rfl ?_
      refine ggX8_98 (pc' := 9) rfl dX8_best_6 rfl l8 ?_
      refine g_icmp_ge dX8_best_9 (tg := 90) (pc' := 12) (by decide) rfl (fun h9 => ?_) (fun h9 => absurd (by rw [hR.jobs]; exact Int32.le_refl _) h9)
      refine g_iload_n (pc' := 91) dX8_best_90 rfl rfl ?_
      refine g_iret dX8_best_91 rfl rfl (Nat.le_of_ble_eq_true rfl) (Nat.le_of_ble_eq_true rfl) ?_
      exact hQ
    | succ k ih =>
      intro j w3 w4 hk
      have hjC : j < jn C := by omega
      have hc6 := hR.c6 hjC
      have hstep : ∀ (t : Nat), tReady C j t (fI C 231 0 0) (tDone C j t) = false → (∀ i, i < t → tReady C j i (fI C 231 0 0) (tDone C j i) = false) → ∀ i, i < t + 1 → tReady C j i (fI C 231 0 0) (tDone C j i) = false := fun t z z2 i hi => by
        rcases Nat.lt_or_ge i t with q | q
        · exact z2 i q
        · rw [show i = t by omega]; exact z
      have IN : ∀ (f t : Nat) (r : Int32) (w4 : Option gV) (_ : t + f = jc C j) (hI : bInv C j t r), gG E mX8_best (gBof 2 0 0 ad [] Q) 14 [some (vR 8 0 0), some (vI r), some (vI (nI j)), some (vI (nI t)), w4] [] S 0 0 := by
        intro f
        induction f with
        | zero =>
          intro t r w4 hf hI
          have e : t = jc C j := by omega
          subst e
          refine g_iload_n (pc' := 15) dX8_best_14 rfl rfl ?_
          refine g_aload_n (pc' := 16) dX8_best_15 rfl rfl ?_
          refine ggX8_29 (pc' := 19) rfl dX8_best_16 rfl l8 r268 ?_
          refine g_iload_n (pc' := 20) dX8_best_19 rfl rfl ?_
          refine g_iald (pc' := 21) (n := j) dX8_best_20 rfl (by decide) rfl rfl (show j < 6 by omega) l24 ?_
          refine g_icmp_ge dX8_best_21 (tg := 84) (pc' := 24) (by decide) rfl (fun h21 => ?_) (fun h21 => absurd (by rw [hR.sz hjC]; exact Int32.le_refl _) h21)
          refine giinc2 (pc' := 87) (c := 1) dX8_best_84 rfl rfl (Nat.le_of_ble_eq_true rfl) rfl ?_
          refine g_goto dX8_best_87 (pc' := 4) (by decide) ?_
          rw [nI_1, bInv_end hc6 hI]
          exact ih (j + 1) _ _ (by omega)
        | succ f ih2 =>
          intro t r w4 hf hI
          have htC : t < jc C j := by omega
          rcases hI with ⟨hI1, hI2⟩ | ⟨t0, hI1, hI2, hI3, hI4, hI5⟩
          · cases e : tFJ C (fI C 231 0 0) j with
            | none =>
              have hbt : bett C j := by unfold bett; rw [e]; trivial
              have hI2' := hI2 hbt
              have hr : r = -1 := by rw [hI1, e]; rfl
              refine g_iload_n (pc' := 15) dX8_best_14 rfl rfl ?_
              refine g_aload_n (pc' := 16) dX8_best_15 rfl rfl ?_
              refine ggX8_29 (pc' := 19) rfl dX8_best_16 rfl l8 r268 ?_
              refine g_iload_n (pc' := 20) dX8_best_19 rfl rfl ?_
              refine g_iald (pc' := 21) (n := j) dX8_best_20 rfl (by decide) rfl rfl (show j < 6 by omega) l24 ?_
              refine g_icmp_ge dX8_best_21 (tg := 84) (pc' := 24) (by decide) rfl (fun h21 => absurd h21 (by rw [hR.sz hjC, nI_leI (by omega) (by omega)]; omega)) (fun h21 => ?_)
              refine g_iload_n (pc' := 25) dX8_best_24 rfl rfl ?_
              refine g_if_lt dX8_best_25 (tg := 46) (pc' := 28) (by decide) rfl (fun h25 => ?_) (fun h25 => absurd (by rw [hr]; decide) h25)
              refine g_iconst (pc' := 47) (v := 1) dX8_best_46 rfl rfl ?_
              refine g_goto dX8_best_47 (pc' := 51) (by decide) ?_
              refine gistore4 (pc' := 53) dX8_best_51 rfl (Nat.le_of_ble_eq_true rfl) rfl ?_
              refine g_iload (pc' := 55) dX8_best_53 rfl rfl ?_
              refine g_if_eq dX8_best_55 (tg := 76) (pc' := 58) (by decide) rfl (fun h55 => absurd h55 (by decide)) (fun h55 => ?_)
              refine g_aload_n (pc' := 59) dX8_best_58 rfl rfl ?_
              refine g_iload_n (pc' := 60) dX8_best_59 rfl rfl ?_
              refine g_iload_n (pc' := 61) dX8_best_60 rfl rfl ?_
              refine gcv2 (pc' := 64) cwX8_180 cf8 dX8_best_61 rfl l8 (Nat.le_of_ble_eq_true rfl) (Nat.le_of_ble_eq_true rfl) (Nat.le_of_ble_eq_true rfl) (Nat.le_of_ble_eq_true rfl) (Nat.le_of_ble_eq_true rfl) (kX8_isReady hM hR hjC htC ?_)
              refine g_if_eq dX8_best_64 (tg := 76) (pc' := 67) (by decide) rfl (fun h64 => ?_) (fun h64 => ?_)
              · refine g_iload_n (pc' := 77) dX8_best_76 rfl rfl ?_
                refine gistore_n1 (pc' := 78) dX8_best_77 rfl (Nat.le_of_ble_eq_true rfl) rfl ?_
                refine giinc3 (pc' := 81) (c := 1) dX8_best_78 rfl rfl (Nat.le_of_ble_eq_true rfl) rfl ?_
                refine g_goto dX8_best_81 (pc' := 14) (by decide) ?_
                rw [nI_1]
                first
                  | exact ih2 (t + 1) _ _ (by omega) (Or.inl ⟨hI1, fun _ i hi => hstep _ (bI_f.mp h64) hI2' i hi⟩)
                  | exact ih2 (t + 1) _ _ (by omega) (Or.inr ⟨t, by omega, rfl, hbt, bbp h64, hI2'⟩)
              · refine g_bipush (pc' := 69) (v := 6) dX8_best_67 rfl rfl ?_
                refine g_iload_n (pc' := 70) dX8_best_69 rfl rfl ?_
                refine g_imul (pc' := 71) dX8_best_70 rfl ?_
                rw [show (6 : Int32) = nI 6 from rfl, pk_mul]
                refine g_iload_n (pc' := 72) dX8_best_71 rfl rfl ?_
                refine g_iadd (pc' := 73) dX8_best_72 rfl ?_
                rw [nI_add]
                refine g_goto dX8_best_73 (pc' := 77) (by decide) ?_
                refine gistore_n1 (pc' := 78) dX8_best_77 rfl (Nat.le_of_ble_eq_true rfl) rfl ?_
                refine giinc3 (pc' := 81) (c := 1) dX8_best_78 rfl rfl (Nat.le_of_ble_eq_true rfl) rfl ?_
                refine g_goto dX8_best_81 (pc' := 14) (by decide) ?_
                rw [nI_1]
                first
                  | exact ih2 (t + 1) _ _ (by omega) (Or.inl ⟨hI1, fun _ i hi => hstep _ (bI_f.mp h64) hI2' i hi⟩)
                  | exact ih2 (t + 1) _ _ (by omega) (Or.inr ⟨t, by omega, rfl, hbt, bbp h64, hI2'⟩)
            | some b =>
              have hr : r = nI (6 * b + tFRn C b) := by rw [hI1, e]; rfl
              obtain ⟨hbj, hbr⟩ := tFJ_in e
              have hbC : b < jn C := by omega
              have hbn := (tFRn_in (hR.c6 hbC) hbr).1
              have hbc := hR.c6 hbC
              have hbb : bett C j → fI C 64 b 0 < fI C 64 j 0 := fun z => by unfold bett at z; rw [e] at z; exact z
              have hbb2 : fI C 64 b 0 < fI C 64 j 0 → bett C j := fun z => by unfold bett; rw [e]; exact z
              refine g_iload_n (pc' := 15) dX8_best_14 rfl rfl ?_
              refine g_aload_n (pc' := 16) dX8_best_15 rfl rfl ?_
              refine ggX8_29 (pc' := 19) rfl dX8_best_16 rfl l8 r268 ?_
              refine g_iload_n (pc' := 20) dX8_best_19 rfl rfl ?_
              refine g_iald (pc' := 21) (n := j) dX8_best_20 rfl (by decide) rfl rfl (show j < 6 by omega) l24 ?_
              refine g_icmp_ge dX8_best_21 (tg := 84) (pc' := 24) (by decide) rfl (fun h21 => absurd h21 (by rw [hR.sz hjC, nI_leI (by omega) (by omega)]; omega)) (fun h21 => ?_)
              refine g_iload_n (pc' := 25) dX8_best_24 rfl rfl ?_
              refine g_if_lt dX8_best_25 (tg := 46) (pc' := 28) (by decide) rfl (fun h25 => absurd h25 (by rw [hr]; exact nI_pos (by omega))) (fun h25 => ?_)
              refine g_aload_n (pc' := 29) dX8_best_28 rfl rfl ?_
              refine ggX8_26 (pc' := 32) rfl dX8_best_29 rfl l8 r267 ?_
              refine g_iload_n (pc' := 33) dX8_best_32 rfl rfl ?_
              refine g_iald (pc' := 34) (n := j) dX8_best_33 rfl (by decide) rfl rfl (show j < 6 by omega) l23 ?_
              rw [(hR.jb hjC).1]
              refine g_aload_n (pc' := 35) dX8_best_34 rfl rfl ?_
              refine ggX8_26 (pc' := 38) rfl dX8_best_35 rfl l8 r267 ?_
              refine g_iload_n (pc' := 39) dX8_best_38 rfl rfl ?_
              refine g_bipush (pc' := 41) (v := 6) dX8_best_39 rfl rfl ?_
              
              refine g_idiv (pc' := 42) dX8_best_41 rfl (by decide) ?_
              rw [hr, show (6 : Int32) = nI 6 from rfl, pk_div (by omega) (by decide) (by decide), show (6 * b + tFRn C b) / 6 = b by omega]
              refine g_iald (pc' := 43) (n := b) dX8_best_42 rfl (by decide) rfl rfl (show b < 6 by omega) l23 ?_
              rw [(hR.jb hbC).1]
              refine g_icmp_le dX8_best_43 (tg := 50) (pc' := 46) (by decide) rfl (fun h43 => ?_) (fun h43 => ?_)
              · refine g_iconst (pc' := 51) (v := 0) dX8_best_50 rfl rfl ?_
                refine gistore4 (pc' := 53) dX8_best_51 rfl (Nat.le_of_ble_eq_true rfl) rfl ?_
                refine g_iload (pc' := 55) dX8_best_53 rfl rfl ?_
                refine g_if_eq dX8_best_55 (tg := 76) (pc' := 58) (by decide) rfl (fun h55 => ?_) (fun h55 => absurd (by decide) h55)
                refine g_iload_n (pc' := 77) dX8_best_76 rfl rfl ?_
                refine gistore_n1 (pc' := 78) dX8_best_77 rfl (Nat.le_of_ble_eq_true rfl) rfl ?_
                refine giinc3 (pc' := 81) (c := 1) dX8_best_78 rfl rfl (Nat.le_of_ble_eq_true rfl) rfl ?_
                refine g_goto dX8_best_81 (pc' := 14) (by decide) ?_
                rw [nI_1]
                first
                  | exact ih2 (t + 1) _ _ (by omega) (Or.inl ⟨hr.symm.trans hI1, fun z => absurd (hbb z) (Int32.not_lt.mpr h43)⟩)
                  | exact ih2 (t + 1) _ _ (by omega) (Or.inl ⟨hr.symm.trans hI1, fun _ i hi => hstep _ (bI_f.mp h64) (hI2 (hbb2 (Int32.not_le.mp h43))) i hi⟩)
                  | exact ih2 (t + 1) _ _ (by omega) (Or.inr ⟨t, by omega, rfl, hbb2 (Int32.not_le.mp h43), bbp h64, hI2 (hbb2 (Int32.not_le.mp h43))⟩)
              · refine g_iconst (pc' := 47) (v := 1) dX8_best_46 rfl rfl ?_
                refine g_goto dX8_best_47 (pc' := 51) (by decide) ?_
                refine gistore4 (pc' := 53) dX8_best_51 rfl (Nat.le_of_ble_eq_true rfl) rfl ?_
                refine g_iload (pc' := 55) dX8_best_53 rfl rfl ?_
                refine g_if_eq dX8_best_55 (tg := 76) (pc' := 58) (by decide) rfl (fun h55 => absurd h55 (by decide)) (fun h55 => ?_)
                refine g_aload_n (pc' := 59) dX8_best_58 rfl rfl ?_
                refine g_iload_n (pc' := 60) dX8_best_59 rfl rfl ?_
                refine g_iload_n (pc' := 61) dX8_best_60 rfl rfl ?_
                refine gcv2 (pc' := 64) cwX8_180 cf8 dX8_best_61 rfl l8 (Nat.le_of_ble_eq_true rfl) (Nat.le_of_ble_eq_true rfl) (Nat.le_of_ble_eq_true rfl) (Nat.le_of_ble_eq_true rfl) (Nat.le_of_ble_eq_true rfl) (kX8_isReady hM hR hjC htC ?_)
                refine g_if_eq dX8_best_64 (tg := 76) (pc' := 67) (by decide) rfl (fun h64 => ?_) (fun h64 => ?_)
                · refine g_iload_n (pc' := 77) dX8_best_76 rfl rfl ?_
                  refine gistore_n1 (pc' := 78) dX8_best_77 rfl (Nat.le_of_ble_eq_true rfl) rfl ?_
                  refine giinc3 (pc' := 81) (c := 1) dX8_best_78 rfl rfl (Nat.le_of_ble_eq_true rfl) rfl ?_
                  refine g_goto dX8_best_81 (pc' := 14) (by decide) ?_
                  rw [nI_1]
                  first
                    | exact ih2 (t + 1) _ _ (by omega) (Or.inl ⟨hr.symm.trans hI1, fun z => absurd (hbb z) (Int32.not_lt.mpr h43)⟩)
                    | exact ih2 (t + 1) _ _ (by omega) (Or.inl ⟨hr.symm.trans hI1, fun _ i hi => hstep _ (bI_f.mp h64) (hI2 (hbb2 (Int32.not_le.mp h43))) i hi⟩)
                    | exact ih2 (t + 1) _ _ (by omega) (Or.inr ⟨t, by omega, rfl, hbb2 (Int32.not_le.mp h43), bbp h64, hI2 (hbb2 (Int32.not_le.mp h43))⟩)
                · refine g_bipush (pc' := 69) (v := 6) dX8_best_67 rfl rfl ?_
                  refine g_iload_n (pc' := 70) dX8_best_69 rfl rfl ?_
                  refine g_imul (pc' := 71) dX8_best_70 rfl ?_
                  rw [show (6 : Int32) = nI 6 from rfl, pk_mul]
                  refine g_iload_n (pc' := 72) dX8_best_71 rfl rfl ?_
                  refine g_iadd (pc' := 73) dX8_best_72 rfl ?_
                  rw [nI_add]
                  refine g_goto dX8_best_73 (pc' := 77) (by decide) ?_
                  refine gistore_n1 (pc' := 78) dX8_best_77 rfl (Nat.le_of_ble_eq_true rfl) rfl ?_
                  refine giinc3 (pc' := 81) (c := 1) dX8_best_78 rfl rfl (Nat.le_of_ble_eq_true rfl) rfl ?_
                  refine g_goto dX8_best_81 (pc' := 14) (by decide) ?_
                  rw [nI_1]
                  first
                    | exact ih2 (t + 1) _ _ (by omega) (Or.inl ⟨hr.symm.trans hI1, fun z => absurd (hbb z) (Int32.not_lt.mpr h43)⟩)
                    | exact ih2 (t + 1) _ _ (by omega) (Or.inl ⟨hr.symm.trans hI1, fun _ i hi => hstep _ (bI_f.mp h64) (hI2 (hbb2 (Int32.not_le.mp h43))) i hi⟩)
                    | exact ih2 (t + 1) _ _ (by omega) (Or.inr ⟨t, by omega, rfl, hbb2 (Int32.not_le.mp h43), bbp h64, hI2 (hbb2 (Int32.not_le.mp h43))⟩)
          · skip
            refine g_iload_n (pc' := 15) dX8_best_14 rfl rfl ?_
            refine g_aload_n (pc' := 16) dX8_best_15 rfl rfl ?_
            refine ggX8_29 (pc' := 19) rfl dX8_best_16 rfl l8 r268 ?_
            refine g_iload_n (pc' := 20) dX8_best_19 rfl rfl ?_
            refine g_iald (pc' := 21) (n := j) dX8_best_20 rfl (by decide) rfl rfl (show j < 6 by omega) l24 ?_
            refine g_icmp_ge dX8_best_21 (tg := 84) (pc' := 24) (by decide) rfl (fun h21 => absurd h21 (by rw [hR.sz hjC, nI_leI (by omega) (by omega)]; omega)) (fun h21 => ?_)
            refine g_iload_n (pc' := 25) dX8_best_24 rfl rfl ?_
            refine g_if_lt dX8_best_25 (tg := 46) (pc' := 28) (by decide) rfl (fun h25 => absurd h25 (by rw [hI2]; exact nI_pos (by omega))) (fun h25 => ?_)
            refine g_aload_n (pc' := 29) dX8_best_28 rfl rfl ?_
            refine ggX8_26 (pc' := 32) rfl dX8_best_29 rfl l8 r267 ?_
            refine g_iload_n (pc' := 33) dX8_best_32 rfl rfl ?_
            refine g_iald (pc' := 34) (n := j) dX8_best_33 rfl (by decide) rfl rfl (show j < 6 by omega) l23 ?_
            
            refine g_aload_n (pc' := 35) dX8_best_34 rfl rfl ?_
            refine ggX8_26 (pc' := 38) rfl dX8_best_35 rfl l8 r267 ?_
            refine g_iload_n (pc' := 39) dX8_best_38 rfl rfl ?_
            refine g_bipush (pc' := 41) (v := 6) dX8_best_39 rfl rfl ?_
            refine g_idiv (pc' := 42) dX8_best_41 rfl (by decide) ?_
            rw [hI2, show (6 : Int32) = nI 6 from rfl, pk_div (by omega) (by decide) (by decide), show (6 * j + t0) / 6 = j by omega]
            refine g_iald (pc' := 43) (n := j) dX8_best_42 rfl (by decide) rfl rfl (show j < 6 by omega) l23 ?_
            
            refine g_icmp_le dX8_best_43 (tg := 50) (pc' := 46) (by decide) rfl (fun h43 => ?_) (fun h43 => absurd (Int32.le_refl _) h43)
            refine g_iconst (pc' := 51) (v := 0) dX8_best_50 rfl rfl ?_
            refine gistore4 (pc' := 53) dX8_best_51 rfl (Nat.le_of_ble_eq_true rfl) rfl ?_
            refine g_iload (pc' := 55) dX8_best_53 rfl rfl ?_
            refine g_if_eq dX8_best_55 (tg := 76) (pc' := 58) (by decide) rfl (fun h55 => ?_) (fun h55 => absurd (by decide) h55)
            refine g_iload_n (pc' := 77) dX8_best_76 rfl rfl ?_
            refine gistore_n1 (pc' := 78) dX8_best_77 rfl (Nat.le_of_ble_eq_true rfl) rfl ?_
            refine giinc3 (pc' := 81) (c := 1) dX8_best_78 rfl rfl (Nat.le_of_ble_eq_true rfl) rfl ?_
            refine g_goto dX8_best_81 (pc' := 14) (by decide) ?_
            rw [nI_1]
            exact ih2 (t + 1) _ _ (by omega) (Or.inr ⟨t0, by omega, rfl, hI3, hI4, hI5⟩)
      refine g_iload_n (pc' := 5) dX8_best_4 rfl rfl ?_
      refine g_aload_n (pc' := 6) dX8_best_5 rfl rfl ?_
      refine ggX8_98 (pc' := 9) rfl dX8_best_6 rfl l8 ?_
      refine g_icmp_ge dX8_best_9 (tg := 90) (pc' := 12) (by decide) rfl (fun h9 => absurd h9 (by rw [hR.jobs, nI_leI (by omega) (by omega)]; omega)) (fun h9 => ?_)
      refine g_iconst (pc' := 13) (v := 0) dX8_best_12 rfl rfl ?_
      refine gistore_n3 (pc' := 14) dX8_best_13 rfl (Nat.le_of_ble_eq_true rfl) rfl ?_
      exact IN (jc C j) 0 _ _ (by omega) (Or.inl ⟨rfl, fun _ i hi => absurd hi (Nat.not_lt_zero _)⟩)
  refine g_iconst (pc' := 1) (v := (-1)) dX8_best_0 rfl rfl ?_
  refine gistore_n1 (pc' := 2) dX8_best_1 rfl (Nat.le_of_ble_eq_true rfl) rfl ?_
  refine g_iconst (pc' := 3) (v := 0) dX8_best_2 rfl rfl ?_
  refine gistore_n2 (pc' := 4) dX8_best_3 rfl (Nat.le_of_ble_eq_true rfl) rfl ?_
  exact LP (jn C) 0 _ _ (by omega)

