/-! THE MODEL (15): task -/
theorem bt_mask {c i : Nat} (hi : i < 32) : bt (nI (2 ^ c - 1)) i = decide (i < c) := by rw [bt_nI hi, Nat.testBit_two_pow_sub_one]
theorem need_b {x : Int32} {c : Nat} (hc : c ≤ 6) : x &&& (nI (2 ^ c - 1) ^^^ (-1)) = 0 ↔ (¬ x < 0 ∧ x < nI (2 ^ c)) := by
  have h64 : 2 ^ c ≤ 2 ^ 6 := Nat.pow_le_pow_right (by decide) hc
  have hb : ∀ i, i < 32 → bt (x &&& (nI (2 ^ c - 1) ^^^ (-1))) i = (bt x i && !decide (i < c)) := fun i hi => by
    rw [b_and, b_xor, b_m1 i hi, bt_mask hi, Bool.xor_true]
  constructor
  · intro h
    obtain ⟨N, hN, rfl⟩ := wb_of32 x
    have h2 : N < 2 ^ c := by
      refine Nat.lt_pow_two_of_testBit N (fun i hi => ?_)
      rcases Nat.lt_or_ge i 32 with q | q
      · have h3 := hb i q
        rw [h, b_0, decide_eq_false (by omega), bt_nI q] at h3
        simpa using h3.symm
      · exact Nat.testBit_lt_two_pow (Nat.lt_of_lt_of_le hN (Nat.pow_le_pow_right (by decide) q))
    exact ⟨nI_pos (by omega), (nI_ltI (by omega) (by omega)).mpr h2⟩
  · rintro ⟨h1, h2⟩
    obtain ⟨q, q1, rfl⟩ := nI_of h1
    rw [nI_ltI q1 (by omega)] at h2
    refine b_ext (fun i hi => ?_)
    rw [hb i hi, b_0, bt_nI hi]
    by_cases q : i < c
    · rw [decide_eq_true q]; simp
    · rw [Nat.testBit_lt_two_pow (Nat.lt_of_lt_of_le h2 (Nat.pow_le_pow_right (by decide) (by omega)))]; rfl
theorem sh1 : ∀ c, c < 7 → (1 : Int32) <<< (nI c &&& 31) = nI (2 ^ c) := by decide +kernel
def mTaskS (S : gS) (k c : Nat) (n t p : Int32) : gS := saI (saI (saI (saI (saI (sfI (sfI S 256 0 0 0) 256 0 0 0) 29 0 (6 * k + c) n) 30 0 (6 * k + c) t) 31 0 (6 * k + c) p) 32 0 (6 * k + c) 0) 24 0 k (nI (c + 1))
theorem aL_new {S : gS} {k j t q a i : Nat} (h : q ≠ k) : aL (snew S k j t) q a i = aL S q a i := if_neg (fun z => h z.1)
theorem aI_new {S : gS} {k j t q a i : Nat} (h : q ≠ k) : aI (snew S k j t) q a i = aI S q a i := if_neg (fun z => h z.1)
theorem fI_new {S : gS} {k j t g a i : Nat} (h : ¬ (g / 32 = k ∧ a = j ∧ i = t)) : fI (snew S k j t) g a i = fI S g a i := if_neg h
theorem tT_a1 {C : gS} {k c : Nat} {n t p : Int32} {g x y : Nat} (h1 : ¬ (g / 32 = 5 ∧ x = k ∧ y = c)) (h2 : ¬ (g = 67 ∧ x = k ∧ y = 0)) : fI (tTaskS C k c n t p) g x y = fI C g x y := by
  simp only [tTaskS, fI_sfI, fI_saR]
  rw [if_neg h2, if_neg (fun z => h1 (by omega)), if_neg (fun z => h1 (by omega)), if_neg (fun z => h1 (by omega)), if_neg (fun z => h1 (by omega)), if_neg (fun z => h1 (by omega)), if_neg (fun z => h1 (by omega))]
  exact fI_new h1
theorem mT_b1 {S : gS} {k c : Nat} {n t p : Int32} {q i : Nat} (h1 : (q = 29 ∨ q = 30 ∨ q = 31 ∨ q = 32) → i ≠ 6 * k + c) (h2 : q = 24 → i ≠ k) : aI (mTaskS S k c n t p) q 0 i = aI S q 0 i := by
  simp only [mTaskS, aI_saI, aI_sfI]
  rw [if_neg (fun z => h2 z.1 z.2.2), if_neg (fun z => h1 (by omega) z.2.2), if_neg (fun z => h1 (by omega) z.2.2), if_neg (fun z => h1 (by omega) z.2.2), if_neg (fun z => h1 (by omega) z.2.2)]
theorem tT_L {C : gS} {k c : Nat} {n t p : Int32} (j : Nat) : aL (tTaskS C k c n t p) 12 j = aL C 12 j := by
  simp only [tTaskS, aL_sfI, aL_saR]
  funext i
  exact aL_new (by decide)
theorem tT_I {C : gS} {k c : Nat} {n t p : Int32} {q a b : Nat} (hq : q ≠ 5) : aI (tTaskS C k c n t p) q a b = aI C q a b := by
  simp only [tTaskS, aI_sfI, aI_saR]
  exact aI_new hq
theorem mT_f {S : gS} {k c : Nat} {n t p : Int32} {g x y : Nat} (hg : g ≠ 256) : fI (mTaskS S k c n t p) g x y = fI S g x y := by
  simp only [mTaskS, fI_saI]
  rw [fI_ne hg, fI_ne hg]
theorem tT_v {C : gS} {k c : Nat} {n t p : Int32} : fI (tTaskS C k c n t p) 67 k 0 = nI (c + 1) ∧ fI (tTaskS C k c n t p) 163 k c = 0 ∧ fI (tTaskS C k c n t p) 164 k c = 0 ∧ fI (tTaskS C k c n t p) 160 k c = n ∧ fI (tTaskS C k c n t p) 161 k c = t ∧ fI (tTaskS C k c n t p) 162 k c = p :=
  ⟨by unfold tTaskS; rw [fI_at], by unfold tTaskS; rw [fI_ne (g' := 163) (g := 67) (by decide), fI_saR, fI_ne (g' := 163) (g := 162) (by decide), fI_ne (g' := 163) (g := 161) (by decide), fI_ne (g' := 163) (g := 160) (by decide), fI_ne (g' := 163) (g := 165) (by decide), fI_ne (g' := 163) (g := 164) (by decide), fI_at], by unfold tTaskS; rw [fI_ne (g' := 164) (g := 67) (by decide), fI_saR, fI_ne (g' := 164) (g := 162) (by decide), fI_ne (g' := 164) (g := 161) (by decide), fI_ne (g' := 164) (g := 160) (by decide), fI_ne (g' := 164) (g := 165) (by decide), fI_at], by unfold tTaskS; rw [fI_ne (g' := 160) (g := 67) (by decide), fI_saR, fI_ne (g' := 160) (g := 162) (by decide), fI_ne (g' := 160) (g := 161) (by decide), fI_at], by unfold tTaskS; rw [fI_ne (g' := 161) (g := 67) (by decide), fI_saR, fI_ne (g' := 161) (g := 162) (by decide), fI_at], by unfold tTaskS; rw [fI_ne (g' := 162) (g := 67) (by decide), fI_saR, fI_at]⟩
theorem mT_v {S : gS} {k c : Nat} {n t p : Int32} : aI (mTaskS S k c n t p) 32 0 (6 * k + c) = 0 ∧ aI (mTaskS S k c n t p) 29 0 (6 * k + c) = n ∧ aI (mTaskS S k c n t p) 30 0 (6 * k + c) = t ∧ aI (mTaskS S k c n t p) 31 0 (6 * k + c) = p ∧ aI (mTaskS S k c n t p) 24 0 k = nI (c + 1) :=
  ⟨by unfold mTaskS; rw [aI_nk (q := 32) (k := 24) (by decide), aI_at], by unfold mTaskS; rw [aI_nk (q := 29) (k := 24) (by decide), aI_nk (q := 29) (k := 32) (by decide), aI_nk (q := 29) (k := 31) (by decide), aI_nk (q := 29) (k := 30) (by decide), aI_at], by unfold mTaskS; rw [aI_nk (q := 30) (k := 24) (by decide), aI_nk (q := 30) (k := 32) (by decide), aI_nk (q := 30) (k := 31) (by decide), aI_at], by unfold mTaskS; rw [aI_nk (q := 31) (k := 24) (by decide), aI_nk (q := 31) (k := 32) (by decide), aI_at], by unfold mTaskS; rw [aI_at]⟩
theorem Rel_taskV {C S CC SS : gS} {k m c : Nat} {t p : Int32} (hR : Rel C S) (hk : k < jn C) (hc : c < 6) (hm : m < 2 ^ c) (hcc : jc C k = c)
    (a1 : ∀ g x y, ¬ (g / 32 = 5 ∧ x = k ∧ y = c) → ¬ (g = 67 ∧ x = k ∧ y = 0) → fI CC g x y = fI C g x y) (b1 : ∀ q i, ((q = 29 ∨ q = 30 ∨ q = 31 ∨ q = 32) → i ≠ 6 * k + c) → (q = 24 → i ≠ k) → aI SS q 0 i = aI S q 0 i)
    (eL : ∀ j, aL CC 12 j = aL C 12 j) (eI : ∀ q a b, q ≠ 5 → aI CC q a b = aI C q a b) (mf : ∀ g x y, g ≠ 256 → fI SS g x y = fI S g x y)
    (vC : fI CC 67 k 0 = nI (c + 1) ∧ fI CC 163 k c = 0 ∧ fI CC 164 k c = 0 ∧ fI CC 160 k c = nI m ∧ fI CC 161 k c = t ∧ fI CC 162 k c = p) (vS : aI SS 32 0 (6 * k + c) = 0 ∧ aI SS 29 0 (6 * k + c) = nI m ∧ aI SS 30 0 (6 * k + c) = t ∧ aI SS 31 0 (6 * k + c) = p ∧ aI SS 24 0 k = nI (c + 1)) : Rel CC SS := by
  obtain ⟨e67, f3, f4, f0, f1, f2⟩ := vC
  obtain ⟨g2, g9, g0, g1, g4⟩ := vS
  have hk6 := hR.1.j6
  have en : jn (CC) = jn C := by unfold jn; rw [a1 228 0 0 (by omega) (by omega)]
  have ecj : ∀ j, j ≠ k → jc (CC) j = jc C j := fun j hj => by unfold jc; rw [a1 67 j 0 (by omega) (by omega)]
  have eck : jc (CC) k = c + 1 := by unfold jc; rw [e67, nI_clamp (by omega)]
  obtain ⟨⟨hn, hl, ⟨hj, hz, ho⟩, hb1, hb2, hb3⟩, hX, hT⟩ := hR
  refine ⟨⟨?_, ⟨?_, ?_, ?_⟩, ⟨fun j hjj => ?_, fun j t' hj6 ht6 hzz => ?_, fun j hjj hj6 => ?_⟩, ?_, ?_, fun j hjj => ?_⟩, fun j hjj => ?_, ?_⟩
  · unfold RN at *
    rw [a1 228 0 0 (by omega) (by omega), a1 231 0 0 (by omega) (by omega), a1 230 0 0 (by omega) (by omega), a1 232 0 0 (by omega) (by omega), a1 233 0 0 (by omega) (by omega), a1 229 0 0 (by omega) (by omega)]
    rw [mf 264 0 0 (by decide), mf 257 0 0 (by decide), mf 258 0 0 (by decide), mf 259 0 0 (by decide), mf 260 0 0 (by decide), mf 263 0 0 (by decide)]
    exact hn
  · unfold tl
    rw [a1 97 0 0 (by omega) (by omega)]
    exact hl.1
  · rw [a1 97 0 0 (by omega) (by omega), mf 279 0 0 (by decide)]
    exact hl.2.1
  · intro i hi
    rw [b1 35 i (by omega) (by omega), eI 13 0 i (by decide)]
    exact hl.2.2 i hi
  · rw [en] at hjj
    by_cases q : j = k
    · subst q
      have hJ := (hj j hjj).1
      obtain ⟨j1, j2, j3, j4, j5, j6⟩ := hJ
      refine ⟨⟨?_, ?_, ?_, ?_, ?_, ?_⟩, fun t' ht' => ?_⟩
      · rw [b1 23 j (by omega) (by omega), a1 64 j 0 (by omega) (by omega)]; exact j1
      · exact g4.trans e67.symm
      · rw [b1 25 j (by omega) (by omega), a1 68 j 0 (by omega) (by omega)]; exact j3
      · rw [a1 68 j 0 (by omega) (by omega)]; exact j4
      · rw [b1 26 j (by omega) (by omega), a1 69 j 0 (by omega) (by omega)]; exact j5
      · rw [b1 27 j (by omega) (by omega), a1 70 j 0 (by omega) (by omega)]; exact j6
      · rw [eck] at ht'
        rcases Nat.lt_or_ge t' c with q2 | q2
        · exact ((hj j hjj).2 t' (by omega)).of (fun g h1 h2 => a1 g j t' (by omega) (by omega)) (fun q h1 h2 => b1 q _ (by omega) (by omega))
        · have e9 : t' = c := by omega
          subst e9
          have z0 := hz j t' (by omega) (by omega) (Or.inr (by omega))
          refine ⟨?_, ⟨0, by decide, f3⟩, ?_, ⟨m, hm, f0, ?_⟩, ?_, ?_, fun z => ?_⟩
          · exact g2.trans f3.symm
          · rw [f4, b1 33 _ (by omega) (by omega)]; exact z0.2
          · exact g9
          · exact g0.trans f1.symm
          · exact g1.trans f2.symm
          · rw [f3] at z; exact absurd z (by decide)
    · have hcj := (hb3 j hjj).2
      refine ⟨(hj j hjj).1.of (fun g h1 h2 => a1 g j 0 (by omega) (by omega)) (fun q2 h1 h2 => b1 q2 j (by omega) (by omega)), fun t' ht' => ?_⟩
      rw [ecj j q] at ht'
      exact ((hj j hjj).2 t' ht').of (fun g h1 h2 => a1 g j t' (by omega) (by omega)) (fun q2 h1 h2 => b1 q2 _ (by omega) (by omega))
  · rw [en] at hzz
    have hne : 6 * j + t' ≠ 6 * k + c := fun z => by
      have e1 : j = k := by omega
      have e2 : t' = c := by omega
      subst e1
      rw [eck] at hzz
      omega
    rw [b1 32 _ (fun _ => hne) (by omega), b1 33 _ (by omega) (by omega)]
    refine hz j t' hj6 ht6 ?_
    by_cases q : j = k
    · subst q
      rw [eck] at hzz
      omega
    · rw [ecj j q] at hzz
      exact hzz
  · rw [en] at hjj
    rw [b1 24 j (by omega) (by omega), b1 25 j (by omega) (by omega), b1 26 j (by omega) (by omega), b1 27 j (by omega) (by omega)]
    exact ho j hjj hj6
  · rw [en, a1 228 0 0 (by omega) (by omega)]; exact hb1
  · rw [en]; exact hb2
  · rw [en] at hjj
    by_cases q : j = k
    · subst q
      rw [eck]
      exact ⟨e67, by omega⟩
    · rw [ecj j q, a1 67 j 0 (by omega) (by omega)]
      exact hb3 j hjj
  · rw [en] at hjj
    exact (hX j hjj).of (eL j) (a1 33 j 0 (by omega) (by omega)) (fun i => b1 21 i (by omega) (by omega)) (fun i => b1 22 i (by omega) (by omega))
  · have e193 := a1 193 0 0 (by omega) (by omega)
    refine ⟨(mf 261 0 0 (by decide)).trans (hT.1.trans e193.symm), fun i hi => ?_⟩
    have ex : xl (CC) = xl C := by unfold xl; rw [e193]
    rw [ex] at hi
    rw [b1 20 i (by omega) (by omega), eI 10 0 i (by decide)]
    exact hT.2 i hi
theorem Rel_task {C S : gS} {k m : Nat} {t p : Int32} (hR : Rel C S) (hk : k < jn C) (hc : jc C k < 6) (hm : m < 2 ^ (jc C k)) : Rel (tTaskS C k (jc C k) (nI m) t p) (mTaskS S k (jc C k) (nI m) t p) :=
  Rel_taskV hR hk hc hm rfl (fun _ _ _ h1 h2 => tT_a1 h1 h2) (fun _ _ h1 h2 => mT_b1 h1 h2) tT_L (fun _ _ _ h => tT_I h) (fun _ _ _ h => mT_f h) tT_v mT_v

set_option maxRecDepth 100000 in
set_option maxHeartbeats 2000000 in
theorem kX8_task {E : gE} {S : gS} {C C1 : gS} {r : Option gV} {j n t p : Int32} {Q : Option gV → gS → Prop} (hM : ModS S) (hR : Rel C S) (ho : oTask C j n t p r C1) (hQ : ∀ T' v, Rel C1 T' → pK S T' → aM [2, 0, 1] r (fI T' 256 0 0) v → Q (some (vI v)) T') : gRun E mX8_task 3 0 0 [vR 8 0 0, vI j, vI n, vI t, vI p] S [] Q := by
  refine gRun_of (ls := [some (vR 8 0 0), some (vI j), some (vI n), some (vI t), some (vI p), none, none]) rfl (Nat.le_of_ble_eq_true rfl) rfl (fun ad => ?_)
  obtain ⟨l8, l20, l21, l22, l23, l24, l25, l26, l27, l28, l29, l30, l31, l32, l33, l34, l35, r262, r265, r266, r267, r268, r269, r270, r271, r272, r273, r274, r275, r276, r277, r278, r280⟩ := id hM
  have hj6 := hR.1.j6
  rcases ho with ⟨hj, rfl, rfl⟩ | ⟨k, hk, rfl, ho⟩
  · have hj2 : ¬ (0 ≤ j ∧ j < fI S 264 0 0) := by rw [hR.1.1.1]; exact hj
    refine g_aload_n (pc' := 1) dX8_task_0 rfl rfl ?_
    refine g_aload_n (pc' := 2) dX8_task_1 rfl rfl ?_
    refine g_iload_n (pc' := 3) dX8_task_2 rfl rfl ?_
    refine gcv1 (pc' := 6) cwX8_157 cf8 dX8_task_3 rfl l8 (Nat.le_of_ble_eq_true rfl) (Nat.le_of_ble_eq_true rfl) (Nat.le_of_ble_eq_true rfl) (Nat.le_of_ble_eq_true rfl) (Nat.le_of_ble_eq_true rfl) (kX8_isJob l8 ?_)
    refine g_if_ne dX8_task_6 (tg := 13) (pc' := 9) (by decide) rfl (fun h6 => absurd (bd_f hj2) h6) (fun h6 => ?_)
    refine g_iconst (pc' := 10) (v := 1) dX8_task_9 rfl rfl ?_
    refine g_goto dX8_task_10 (pc' := 14) (by decide) ?_
    refine gpX8_66 (pc' := 17) rfl dX8_task_14 rfl l8 ?_
    refine g_aload_n (pc' := 18) dX8_task_17 rfl rfl ?_
    refine ggX8_66 (pc' := 21) rfl dX8_task_18 rfl l8 ?_
    rw [fI_at]
    refine g_if_le dX8_task_21 (tg := 26) (pc' := 24) (by decide) rfl (fun h21 => absurd h21 (by decide)) (fun h21 => ?_)
    refine g_iconst (pc' := 25) (v := 0) dX8_task_24 rfl rfl ?_
    refine g_iret dX8_task_25 rfl rfl (Nat.le_of_ble_eq_true rfl) (Nat.le_of_ble_eq_true rfl) ?_
    exact hQ _ 0 hR.code (pK_sfI (by decide)) (aM_t (i := 0) (by decide) rfl)
  · have hj2 : 0 ≤ nI k ∧ nI k < fI S 264 0 0 := by
      rw [hR.1.jobs]
      exact ⟨nI_pos' (by omega), (nI_ltI (by omega) (by omega)).mpr hk⟩
    have hc6 := hR.1.c6 hk
    have hsz : aI (sfI S 256 0 0 0) 24 0 k = nI (jc C k) := hR.1.sz hk
    have hrun : aI (sfI S 256 0 0 0) 25 0 k = fI C 68 k 0 := (hR.1.jb hk).2.2.1
    have M72 : ∀ (o5 : Int32) (w : Option gV) (_ : (o5 = 1 ∧ badTask C k n t p) ∨ (o5 = 0 ∧ ¬ badTask C k n t p)), gG E mX8_task (gBof 3 0 0 ad [] Q) 72 [some (vR 8 0 0), some (vI (nI k)), some (vI n), some (vI t), some (vI p), some (vI o5), w] [] (sfI S 256 0 0 0) 0 0 := by
      intro o5 w hod
      rcases ho with ⟨h0, rfl, rfl⟩ | ⟨⟨hct, hun⟩, hbad, rfl, rfl⟩ | ⟨⟨hct, hun⟩, hbad, rfl, rfl⟩
      · skip
        refine g_aload_n (pc' := 73) dX8_task_72 rfl rfl ?_
        refine g_aload_n (pc' := 74) dX8_task_73 rfl rfl ?_
        refine ggX8_29 (pc' := 77) rfl dX8_task_74 rfl l8 r268 ?_
        refine g_iload_n (pc' := 78) dX8_task_77 rfl rfl ?_
        refine g_iald (pc' := 79) (n := k) dX8_task_78 rfl (by decide) rfl rfl (show k < 6 by omega) l24 ?_
        rw [hsz]
        refine g_bipush (pc' := 81) (v := 6) dX8_task_79 rfl rfl ?_
        refine g_icmp_eq dX8_task_81 (tg := 93) (pc' := 84) (by decide) rfl (fun h81 => ?_) (fun h81 => ?_)
        · refine g_iconst (pc' := 94) (v := 2) dX8_task_93 rfl rfl ?_
          refine g_goto dX8_task_94 (pc' := 107) (by decide) ?_
          refine gpX8_66 (pc' := 110) rfl dX8_task_107 rfl l8 ?_
          refine g_aload_n (pc' := 111) dX8_task_110 rfl rfl ?_
          refine ggX8_66 (pc' := 114) rfl dX8_task_111 rfl l8 ?_
          rw [fI_at]
          refine g_if_le dX8_task_114 (tg := 119) (pc' := 117) (by decide) rfl (fun h114 => absurd h114 (by decide)) (fun h114 => ?_)
          refine g_iconst (pc' := 118) (v := 0) dX8_task_117 rfl rfl ?_
          refine g_iret dX8_task_118 rfl rfl (Nat.le_of_ble_eq_true rfl) (Nat.le_of_ble_eq_true rfl) ?_
          exact hQ _ 0 hR.code.code ((pK_sfI (by decide)).tr (pK_sfI (by decide))) (aM_t (i := 1) (by decide) rfl)
        · refine g_aload_n (pc' := 85) dX8_task_84 rfl rfl ?_
          refine ggX8_32 (pc' := 88) rfl dX8_task_85 rfl l8 r269 ?_
          refine g_iload_n (pc' := 89) dX8_task_88 rfl rfl ?_
          refine g_zald (pc' := 90) (n := k) dX8_task_89 rfl (by decide) rfl rfl (show k < 6 by omega) l25 ?_
          rw [hrun]
          refine g_if_eq dX8_task_90 (tg := 97) (pc' := 93) (by decide) rfl (fun h90 => ?_) (fun h90 => ?_)
          · exfalso
            rw [show (6 : Int32) = nI 6 from rfl, nI_eq (by omega) (by decide)] at h81
            rcases h0 with h0 | h0
            · omega
            · exact h0 h90
          · refine g_iconst (pc' := 94) (v := 2) dX8_task_93 rfl rfl ?_
            refine g_goto dX8_task_94 (pc' := 107) (by decide) ?_
            refine gpX8_66 (pc' := 110) rfl dX8_task_107 rfl l8 ?_
            refine g_aload_n (pc' := 111) dX8_task_110 rfl rfl ?_
            refine ggX8_66 (pc' := 114) rfl dX8_task_111 rfl l8 ?_
            rw [fI_at]
            refine g_if_le dX8_task_114 (tg := 119) (pc' := 117) (by decide) rfl (fun h114 => absurd h114 (by decide)) (fun h114 => ?_)
            refine g_iconst (pc' := 118) (v := 0) dX8_task_117 rfl rfl ?_
            refine g_iret dX8_task_118 rfl rfl (Nat.le_of_ble_eq_true rfl) (Nat.le_of_ble_eq_true rfl) ?_
            exact hQ _ 0 hR.code.code ((pK_sfI (by decide)).tr (pK_sfI (by decide))) (aM_t (i := 1) (by decide) rfl)
      · rcases hod with ⟨rfl, -⟩ | ⟨-, z⟩
        · skip
          refine g_aload_n (pc' := 73) dX8_task_72 rfl rfl ?_
          refine g_aload_n (pc' := 74) dX8_task_73 rfl rfl ?_
          refine ggX8_29 (pc' := 77) rfl dX8_task_74 rfl l8 r268 ?_
          refine g_iload_n (pc' := 78) dX8_task_77 rfl rfl ?_
          refine g_iald (pc' := 79) (n := k) dX8_task_78 rfl (by decide) rfl rfl (show k < 6 by omega) l24 ?_
          rw [hsz]
          refine g_bipush (pc' := 81) (v := 6) dX8_task_79 rfl rfl ?_
          refine g_icmp_eq dX8_task_81 (tg := 93) (pc' := 84) (by decide) rfl (fun h81 => absurd h81 (fun z => by rw [show (6 : Int32) = nI 6 from rfl, nI_eq (by omega) (by decide)] at z; omega)) (fun h81 => ?_)
          refine g_aload_n (pc' := 85) dX8_task_84 rfl rfl ?_
          refine ggX8_32 (pc' := 88) rfl dX8_task_85 rfl l8 r269 ?_
          refine g_iload_n (pc' := 89) dX8_task_88 rfl rfl ?_
          refine g_zald (pc' := 90) (n := k) dX8_task_89 rfl (by decide) rfl rfl (show k < 6 by omega) l25 ?_
          rw [hrun]
          refine g_if_eq dX8_task_90 (tg := 97) (pc' := 93) (by decide) rfl (fun h90 => ?_) (fun h90 => absurd hun h90)
          refine g_iload (pc' := 99) dX8_task_97 rfl rfl ?_
          refine g_if_eq dX8_task_99 (tg := 106) (pc' := 102) (by decide) rfl (fun h99 => absurd h99 (by decide)) (fun h99 => ?_)
          refine g_iconst (pc' := 103) (v := 3) dX8_task_102 rfl rfl ?_
          refine g_goto dX8_task_103 (pc' := 107) (by decide) ?_
          refine gpX8_66 (pc' := 110) rfl dX8_task_107 rfl l8 ?_
          refine g_aload_n (pc' := 111) dX8_task_110 rfl rfl ?_
          refine ggX8_66 (pc' := 114) rfl dX8_task_111 rfl l8 ?_
          rw [fI_at]
          refine g_if_le dX8_task_114 (tg := 119) (pc' := 117) (by decide) rfl (fun h114 => absurd h114 (by decide)) (fun h114 => ?_)
          refine g_iconst (pc' := 118) (v := 0) dX8_task_117 rfl rfl ?_
          refine g_iret dX8_task_118 rfl rfl (Nat.le_of_ble_eq_true rfl) (Nat.le_of_ble_eq_true rfl) ?_
          exact hQ _ 0 hR.code.code ((pK_sfI (by decide)).tr (pK_sfI (by decide))) (aM_t (i := 2) (by decide) rfl)
        · exact absurd hbad z
      · rcases hod with ⟨-, z⟩ | ⟨rfl, -⟩
        · exact absurd z hbad
        · obtain ⟨m, hm1, rfl⟩ : ∃ m, m < 2 ^ jc C k ∧ n = nI m := by
            have hn := Decidable.not_not.mp (fun z => hbad (Or.inl z))
            have hn2 := (need_b (c := jc C k) (by omega)).mp hn
            obtain ⟨q, q1, q2⟩ := nI_of hn2.1
            have h64 : 2 ^ jc C k ≤ 2 ^ 6 := Nat.pow_le_pow_right (by decide) hc6
            refine ⟨q, ?_, q2⟩
            have h9 := hn2.2
            rw [q2, nI_ltI q1 (by omega)] at h9
            exact h9
          have hmm := hm1
          have hsz3 : aI (saI (saI (saI (saI (sfI (sfI S 256 0 0 0) 256 0 0 0) 29 0 (6 * k + jc C k) (nI m)) 30 0 (6 * k + jc C k) t) 31 0 (6 * k + jc C k) p) 32 0 (6 * k + jc C k) 0) 24 0 k = nI (jc C k) := hsz
          have hpk : pK S (mTaskS S k (jc C k) (nI m) t p) := ((((((pK_sfI (by decide)).tr (pK_sfI (by decide))).tr (pK_saI (by decide))).tr (pK_saI (by decide))).tr (pK_saI (by decide))).tr (pK_saI (by decide))).tr (pK_saI (by decide))
          refine g_aload_n (pc' := 73) dX8_task_72 rfl rfl ?_
          refine g_aload_n (pc' := 74) dX8_task_73 rfl rfl ?_
          refine ggX8_29 (pc' := 77) rfl dX8_task_74 rfl l8 r268 ?_
          refine g_iload_n (pc' := 78) dX8_task_77 rfl rfl ?_
          refine g_iald (pc' := 79) (n := k) dX8_task_78 rfl (by decide) rfl rfl (show k < 6 by omega) l24 ?_
          rw [hsz]
          refine g_bipush (pc' := 81) (v := 6) dX8_task_79 rfl rfl ?_
          refine g_icmp_eq dX8_task_81 (tg := 93) (pc' := 84) (by decide) rfl (fun h81 => absurd h81 (fun z => by rw [show (6 : Int32) = nI 6 from rfl, nI_eq (by omega) (by decide)] at z; omega)) (fun h81 => ?_)
          refine g_aload_n (pc' := 85) dX8_task_84 rfl rfl ?_
          refine ggX8_32 (pc' := 88) rfl dX8_task_85 rfl l8 r269 ?_
          refine g_iload_n (pc' := 89) dX8_task_88 rfl rfl ?_
          refine g_zald (pc' := 90) (n := k) dX8_task_89 rfl (by decide) rfl rfl (show k < 6 by omega) l25 ?_
          rw [hrun]
          refine g_if_eq dX8_task_90 (tg := 97) (pc' := 93) (by decide) rfl (fun h90 => ?_) (fun h90 => absurd hun h90)
          refine g_iload (pc' := 99) dX8_task_97 rfl rfl ?_
          refine g_if_eq dX8_task_99 (tg := 106) (pc' := 102) (by decide) rfl (fun h99 => ?_) (fun h99 => absurd rfl h99)
          refine g_iconst (pc' := 107) (v := 0) dX8_task_106 rfl rfl ?_
          refine gpX8_66 (pc' := 110) rfl dX8_task_107 rfl l8 ?_
          refine g_aload_n (pc' := 111) dX8_task_110 rfl rfl ?_
          refine ggX8_66 (pc' := 114) rfl dX8_task_111 rfl l8 ?_
          rw [fI_at]
          refine g_if_le dX8_task_114 (tg := 119) (pc' := 117) (by decide) rfl (fun h114 => ?_) (fun h114 => absurd (by decide) h114)
          refine g_bipush (pc' := 121) (v := 6) dX8_task_119 rfl rfl ?_
          refine g_iload_n (pc' := 122) dX8_task_121 rfl rfl ?_
          refine g_imul (pc' := 123) dX8_task_122 rfl ?_
          rw [show (6 : Int32) = nI 6 from rfl, pk_mul]
          refine g_aload_n (pc' := 124) dX8_task_123 rfl rfl ?_
          refine ggX8_29 (pc' := 127) rfl dX8_task_124 rfl l8 r268 ?_
          refine g_iload_n (pc' := 128) dX8_task_127 rfl rfl ?_
          refine g_iald (pc' := 129) (n := k) dX8_task_128 rfl (by decide) rfl rfl (show k < 6 by omega) l24 ?_
          rw [show aI (sfI (sfI S 256 0 0 0) 256 0 0 0) 24 0 k = nI (jc C k) from hsz]
          refine g_iadd (pc' := 130) dX8_task_129 rfl ?_
          rw [nI_add]
          refine gistore6 (pc' := 132) dX8_task_130 rfl (Nat.le_of_ble_eq_true rfl) rfl ?_
          refine g_aload_n (pc' := 133) dX8_task_132 rfl rfl ?_
          refine ggX8_45 (pc' := 136) rfl dX8_task_133 rfl l8 r273 ?_
          refine g_iload (pc' := 138) dX8_task_136 rfl rfl ?_
          refine g_iload_n (pc' := 139) dX8_task_138 rfl rfl ?_
          refine g_iast (pc' := 140) (n := 6 * k + jc C k) dX8_task_139 rfl (by decide) rfl rfl (show 6 * k + jc C k < 36 by omega) l29 ?_
          refine g_aload_n (pc' := 141) dX8_task_140 rfl rfl ?_
          refine ggX8_48 (pc' := 144) rfl dX8_task_141 rfl l8 r274 ?_
          refine g_iload (pc' := 146) dX8_task_144 rfl rfl ?_
          refine g_iload_n (pc' := 147) dX8_task_146 rfl rfl ?_
          refine g_iast (pc' := 148) (n := 6 * k + jc C k) dX8_task_147 rfl (by decide) rfl rfl (show 6 * k + jc C k < 36 by omega) l30 ?_
          refine g_aload_n (pc' := 149) dX8_task_148 rfl rfl ?_
          refine ggX8_51 (pc' := 152) rfl dX8_task_149 rfl l8 r275 ?_
          refine g_iload (pc' := 154) dX8_task_152 rfl rfl ?_
          refine g_iload (pc' := 156) dX8_task_154 rfl rfl ?_
          refine g_iast (pc' := 157) (n := 6 * k + jc C k) dX8_task_156 rfl (by decide) rfl rfl (show 6 * k + jc C k < 36 by omega) l31 ?_
          refine g_aload_n (pc' := 158) dX8_task_157 rfl rfl ?_
          refine ggX8_54 (pc' := 161) rfl dX8_task_158 rfl l8 r276 ?_
          refine g_iload (pc' := 163) dX8_task_161 rfl rfl ?_
          refine g_iconst (pc' := 164) (v := 0) dX8_task_163 rfl rfl ?_
          refine g_iast (pc' := 165) (n := 6 * k + jc C k) dX8_task_164 rfl (by decide) rfl rfl (show 6 * k + jc C k < 36 by omega) l32 ?_
          refine g_aload_n (pc' := 166) dX8_task_165 rfl rfl ?_
          refine ggX8_29 (pc' := 169) rfl dX8_task_166 rfl l8 r268 ?_
          refine g_iload_n (pc' := 170) dX8_task_169 rfl rfl ?_
          refine g_aload_n (pc' := 171) dX8_task_170 rfl rfl ?_
          refine ggX8_29 (pc' := 174) rfl dX8_task_171 rfl l8 r268 ?_
          refine g_iload_n (pc' := 175) dX8_task_174 rfl rfl ?_
          refine g_iald (pc' := 176) (n := k) dX8_task_175 rfl (by decide) rfl rfl (show k < 6 by omega) l24 ?_
          rw [hsz3]
          refine g_iconst (pc' := 177) (v := 1) dX8_task_176 rfl rfl ?_
          refine g_iadd (pc' := 178) dX8_task_177 rfl ?_
          rw [nI_1]
          refine g_iast (pc' := 179) (n := k) dX8_task_178 rfl (by decide) rfl rfl (show k < 6 by omega) l24 ?_
          refine g_aload_n (pc' := 180) dX8_task_179 rfl rfl ?_
          refine ggX8_29 (pc' := 183) rfl dX8_task_180 rfl l8 r268 ?_
          refine g_iload_n (pc' := 184) dX8_task_183 rfl rfl ?_
          refine g_iald (pc' := 185) (n := k) dX8_task_184 rfl (by decide) rfl rfl (show k < 6 by omega) l24 ?_
          rw [aI_at]
          refine g_iconst (pc' := 186) (v := 1) dX8_task_185 rfl rfl ?_
          refine g_isub (pc' := 187) dX8_task_186 rfl ?_
          rw [nI_m1 (by omega), Nat.add_sub_cancel]
          refine g_iret dX8_task_187 rfl rfl (Nat.le_of_ble_eq_true rfl) (Nat.le_of_ble_eq_true rfl) ?_
          exact hQ _ _ (Rel_task hR hk hct hmm) hpk aM_v
    refine g_aload_n (pc' := 1) dX8_task_0 rfl rfl ?_
    refine g_aload_n (pc' := 2) dX8_task_1 rfl rfl ?_
    refine g_iload_n (pc' := 3) dX8_task_2 rfl rfl ?_
    refine gcv1 (pc' := 6) cwX8_157 cf8 dX8_task_3 rfl l8 (Nat.le_of_ble_eq_true rfl) (Nat.le_of_ble_eq_true rfl) (Nat.le_of_ble_eq_true rfl) (Nat.le_of_ble_eq_true rfl) (Nat.le_of_ble_eq_true rfl) (kX8_isJob l8 ?_)
    refine g_if_ne dX8_task_6 (tg := 13) (pc' := 9) (by decide) rfl (fun h6 => ?_) (fun h6 => absurd h6 (by rw [bd_t hj2]; decide))
    refine g_iconst (pc' := 14) (v := 0) dX8_task_13 rfl rfl ?_
    refine gpX8_66 (pc' := 17) rfl dX8_task_14 rfl l8 ?_
    refine g_aload_n (pc' := 18) dX8_task_17 rfl rfl ?_
    refine ggX8_66 (pc' := 21) rfl dX8_task_18 rfl l8 ?_
    rw [fI_at]
    refine g_if_le dX8_task_21 (tg := 26) (pc' := 24) (by decide) rfl (fun h21 => ?_) (fun h21 => absurd (by decide) h21)
    refine g_iload_n (pc' := 27) dX8_task_26 rfl rfl ?_
    refine g_if_lt dX8_task_27 (tg := 65) (pc' := 30) (by decide) rfl (fun h27 => ?_) (fun h27 => ?_)
    · refine g_iconst (pc' := 66) (v := 1) dX8_task_65 rfl rfl ?_
      refine g_goto dX8_task_66 (pc' := 70) (by decide) ?_
      refine gistore5 (pc' := 72) dX8_task_70 rfl (Nat.le_of_ble_eq_true rfl) rfl ?_
      first
        | exact M72 1 _ (Or.inl ⟨rfl, Or.inl (fun z => ((need_b (by omega)).mp z).1 h27)⟩)
        | exact M72 1 _ (Or.inl ⟨rfl, Or.inl (fun z => Int32.not_le.mpr ((need_b (by omega)).mp z).2 h39)⟩)
        | exact M72 1 _ (Or.inl ⟨rfl, Or.inr (Or.inl h44)⟩)
        | exact M72 1 _ (Or.inl ⟨rfl, Or.inr (Or.inr (Or.inl h49))⟩)
        | exact M72 1 _ (Or.inl ⟨rfl, Or.inr (Or.inr (Or.inr (Or.inl h54)))⟩)
        | exact M72 1 _ (Or.inl ⟨rfl, Or.inr (Or.inr (Or.inr (Or.inr (Int32.not_le.mp h62))))⟩)
        | exact M72 0 _ (Or.inr ⟨rfl, fun z => by
            rcases z with z | z | z | z | z
            · exact z ((need_b (by omega)).mpr ⟨h27, Int32.not_le.mp h39⟩)
            · exact h44 z
            · exact h49 z
            · exact h54 z
            · exact Int32.not_le.mpr z h62⟩)
    · refine g_iload_n (pc' := 31) dX8_task_30 rfl rfl ?_
      refine g_iconst (pc' := 32) (v := 1) dX8_task_31 rfl rfl ?_
      refine g_aload_n (pc' := 33) dX8_task_32 rfl rfl ?_
      refine ggX8_29 (pc' := 36) rfl dX8_task_33 rfl l8 r268 ?_
      refine g_iload_n (pc' := 37) dX8_task_36 rfl rfl ?_
      refine g_iald (pc' := 38) (n := k) dX8_task_37 rfl (by decide) rfl rfl (show k < 6 by omega) l24 ?_
      rw [hsz]
      refine g_ishl (pc' := 39) dX8_task_38 rfl ?_
      rw [sh1 _ (by omega)]
      refine g_icmp_ge dX8_task_39 (tg := 65) (pc' := 42) (by decide) rfl (fun h39 => ?_) (fun h39 => ?_)
      · refine g_iconst (pc' := 66) (v := 1) dX8_task_65 rfl rfl ?_
        refine g_goto dX8_task_66 (pc' := 70) (by decide) ?_
        refine gistore5 (pc' := 72) dX8_task_70 rfl (Nat.le_of_ble_eq_true rfl) rfl ?_
        first
          | exact M72 1 _ (Or.inl ⟨rfl, Or.inl (fun z => ((need_b (by omega)).mp z).1 h27)⟩)
          | exact M72 1 _ (Or.inl ⟨rfl, Or.inl (fun z => Int32.not_le.mpr ((need_b (by omega)).mp z).2 h39)⟩)
          | exact M72 1 _ (Or.inl ⟨rfl, Or.inr (Or.inl h44)⟩)
          | exact M72 1 _ (Or.inl ⟨rfl, Or.inr (Or.inr (Or.inl h49))⟩)
          | exact M72 1 _ (Or.inl ⟨rfl, Or.inr (Or.inr (Or.inr (Or.inl h54)))⟩)
          | exact M72 1 _ (Or.inl ⟨rfl, Or.inr (Or.inr (Or.inr (Or.inr (Int32.not_le.mp h62))))⟩)
          | exact M72 0 _ (Or.inr ⟨rfl, fun z => by
              rcases z with z | z | z | z | z
              · exact z ((need_b (by omega)).mpr ⟨h27, Int32.not_le.mp h39⟩)
              · exact h44 z
              · exact h49 z
              · exact h54 z
              · exact Int32.not_le.mpr z h62⟩)
      · refine g_iload_n (pc' := 43) dX8_task_42 rfl rfl ?_
        refine g_iconst (pc' := 44) (v := 1) dX8_task_43 rfl rfl ?_
        refine g_icmp_lt dX8_task_44 (tg := 65) (pc' := 47) (by decide) rfl (fun h44 => ?_) (fun h44 => ?_)
        · refine g_iconst (pc' := 66) (v := 1) dX8_task_65 rfl rfl ?_
          refine g_goto dX8_task_66 (pc' := 70) (by decide) ?_
          refine gistore5 (pc' := 72) dX8_task_70 rfl (Nat.le_of_ble_eq_true rfl) rfl ?_
          first
            | exact M72 1 _ (Or.inl ⟨rfl, Or.inl (fun z => ((need_b (by omega)).mp z).1 h27)⟩)
            | exact M72 1 _ (Or.inl ⟨rfl, Or.inl (fun z => Int32.not_le.mpr ((need_b (by omega)).mp z).2 h39)⟩)
            | exact M72 1 _ (Or.inl ⟨rfl, Or.inr (Or.inl h44)⟩)
            | exact M72 1 _ (Or.inl ⟨rfl, Or.inr (Or.inr (Or.inl h49))⟩)
            | exact M72 1 _ (Or.inl ⟨rfl, Or.inr (Or.inr (Or.inr (Or.inl h54)))⟩)
            | exact M72 1 _ (Or.inl ⟨rfl, Or.inr (Or.inr (Or.inr (Or.inr (Int32.not_le.mp h62))))⟩)
            | exact M72 0 _ (Or.inr ⟨rfl, fun z => by
                rcases z with z | z | z | z | z
                · exact z ((need_b (by omega)).mpr ⟨h27, Int32.not_le.mp h39⟩)
                · exact h44 z
                · exact h49 z
                · exact h54 z
                · exact Int32.not_le.mpr z h62⟩)
        · refine g_iload_n (pc' := 48) dX8_task_47 rfl rfl ?_
          refine g_iconst (pc' := 49) (v := 4) dX8_task_48 rfl rfl ?_
          refine g_icmp_gt dX8_task_49 (tg := 65) (pc' := 52) (by decide) rfl (fun h49 => ?_) (fun h49 => ?_)
          · refine g_iconst (pc' := 66) (v := 1) dX8_task_65 rfl rfl ?_
            refine g_goto dX8_task_66 (pc' := 70) (by decide) ?_
            refine gistore5 (pc' := 72) dX8_task_70 rfl (Nat.le_of_ble_eq_true rfl) rfl ?_
            first
              | exact M72 1 _ (Or.inl ⟨rfl, Or.inl (fun z => ((need_b (by omega)).mp z).1 h27)⟩)
              | exact M72 1 _ (Or.inl ⟨rfl, Or.inl (fun z => Int32.not_le.mpr ((need_b (by omega)).mp z).2 h39)⟩)
              | exact M72 1 _ (Or.inl ⟨rfl, Or.inr (Or.inl h44)⟩)
              | exact M72 1 _ (Or.inl ⟨rfl, Or.inr (Or.inr (Or.inl h49))⟩)
              | exact M72 1 _ (Or.inl ⟨rfl, Or.inr (Or.inr (Or.inr (Or.inl h54)))⟩)
              | exact M72 1 _ (Or.inl ⟨rfl, Or.inr (Or.inr (Or.inr (Or.inr (Int32.not_le.mp h62))))⟩)
              | exact M72 0 _ (Or.inr ⟨rfl, fun z => by
                  rcases z with z | z | z | z | z
                  · exact z ((need_b (by omega)).mpr ⟨h27, Int32.not_le.mp h39⟩)
                  · exact h44 z
                  · exact h49 z
                  · exact h54 z
                  · exact Int32.not_le.mpr z h62⟩)
          · refine g_iload (pc' := 54) dX8_task_52 rfl rfl ?_
            refine g_if_lt dX8_task_54 (tg := 65) (pc' := 57) (by decide) rfl (fun h54 => ?_) (fun h54 => ?_)
            · refine g_iconst (pc' := 66) (v := 1) dX8_task_65 rfl rfl ?_
              refine g_goto dX8_task_66 (pc' := 70) (by decide) ?_
              refine gistore5 (pc' := 72) dX8_task_70 rfl (Nat.le_of_ble_eq_true rfl) rfl ?_
              first
                | exact M72 1 _ (Or.inl ⟨rfl, Or.inl (fun z => ((need_b (by omega)).mp z).1 h27)⟩)
                | exact M72 1 _ (Or.inl ⟨rfl, Or.inl (fun z => Int32.not_le.mpr ((need_b (by omega)).mp z).2 h39)⟩)
                | exact M72 1 _ (Or.inl ⟨rfl, Or.inr (Or.inl h44)⟩)
                | exact M72 1 _ (Or.inl ⟨rfl, Or.inr (Or.inr (Or.inl h49))⟩)
                | exact M72 1 _ (Or.inl ⟨rfl, Or.inr (Or.inr (Or.inr (Or.inl h54)))⟩)
                | exact M72 1 _ (Or.inl ⟨rfl, Or.inr (Or.inr (Or.inr (Or.inr (Int32.not_le.mp h62))))⟩)
                | exact M72 0 _ (Or.inr ⟨rfl, fun z => by
                    rcases z with z | z | z | z | z
                    · exact z ((need_b (by omega)).mpr ⟨h27, Int32.not_le.mp h39⟩)
                    · exact h44 z
                    · exact h49 z
                    · exact h54 z
                    · exact Int32.not_le.mpr z h62⟩)
            · refine g_iload (pc' := 59) dX8_task_57 rfl rfl ?_
              refine g_sipush (pc' := 62) (v := 1000) dX8_task_59 rfl rfl ?_
              refine g_icmp_le dX8_task_62 (tg := 69) (pc' := 65) (by decide) rfl (fun h62 => ?_) (fun h62 => ?_)
              · refine g_iconst (pc' := 70) (v := 0) dX8_task_69 rfl rfl ?_
                refine gistore5 (pc' := 72) dX8_task_70 rfl (Nat.le_of_ble_eq_true rfl) rfl ?_
                first
                  | exact M72 1 _ (Or.inl ⟨rfl, Or.inl (fun z => ((need_b (by omega)).mp z).1 h27)⟩)
                  | exact M72 1 _ (Or.inl ⟨rfl, Or.inl (fun z => Int32.not_le.mpr ((need_b (by omega)).mp z).2 h39)⟩)
                  | exact M72 1 _ (Or.inl ⟨rfl, Or.inr (Or.inl h44)⟩)
                  | exact M72 1 _ (Or.inl ⟨rfl, Or.inr (Or.inr (Or.inl h49))⟩)
                  | exact M72 1 _ (Or.inl ⟨rfl, Or.inr (Or.inr (Or.inr (Or.inl h54)))⟩)
                  | exact M72 1 _ (Or.inl ⟨rfl, Or.inr (Or.inr (Or.inr (Or.inr (Int32.not_le.mp h62))))⟩)
                  | exact M72 0 _ (Or.inr ⟨rfl, fun z => by
                      rcases z with z | z | z | z | z
                      · exact z ((need_b (by omega)).mpr ⟨h27, Int32.not_le.mp h39⟩)
                      · exact h44 z
                      · exact h49 z
                      · exact h54 z
                      · exact Int32.not_le.mpr z h62⟩)
              · refine g_iconst (pc' := 66) (v := 1) dX8_task_65 rfl rfl ?_
                refine g_goto dX8_task_66 (pc' := 70) (by decide) ?_
                refine gistore5 (pc' := 72) dX8_task_70 rfl (Nat.le_of_ble_eq_true rfl) rfl ?_
                first
                  | exact M72 1 _ (Or.inl ⟨rfl, Or.inl (fun z => ((need_b (by omega)).mp z).1 h27)⟩)
                  | exact M72 1 _ (Or.inl ⟨rfl, Or.inl (fun z => Int32.not_le.mpr ((need_b (by omega)).mp z).2 h39)⟩)
                  | exact M72 1 _ (Or.inl ⟨rfl, Or.inr (Or.inl h44)⟩)
                  | exact M72 1 _ (Or.inl ⟨rfl, Or.inr (Or.inr (Or.inl h49))⟩)
                  | exact M72 1 _ (Or.inl ⟨rfl, Or.inr (Or.inr (Or.inr (Or.inl h54)))⟩)
                  | exact M72 1 _ (Or.inl ⟨rfl, Or.inr (Or.inr (Or.inr (Or.inr (Int32.not_le.mp h62))))⟩)
                  | exact M72 0 _ (Or.inr ⟨rfl, fun z => by
                      rcases z with z | z | z | z | z
                      · exact z ((need_b (by omega)).mpr ⟨h27, Int32.not_le.mp h39⟩)
                      · exact h44 z
                      · exact h49 z
                      · exact h54 z
                      · exact Int32.not_le.mpr z h62⟩)

