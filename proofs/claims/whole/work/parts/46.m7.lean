/-! THE MODEL (7): ending a task, firing a job -/
theorem R0.run {C S : gS} {j : Nat} {v : Int32} (h : R0 C S) (hj : j < jn C) (hv : v = 0 ∨ v = 1) : R0 (sfI C 68 j 0 v) (saI S 25 0 j v) := by
  obtain ⟨q1, q2, q3, q4, q5, q6⟩ := h.jb hj
  have e : fI (sfI C 68 j 0 v) 68 j 0 = v := fI_at
  refine h.job hj (tKeep_sfI rfl) (mK_saI rfl) rfl rfl rfl rfl (fun g j' t' h8 h9 hn => tPair (fun z => hn (by omega))) (fun k i h8 h9 hn => aPair (fun z => hn (by omega))) ⟨aI_at.trans e.symm, by rw [e]; exact hv, q5, q6⟩
theorem R0.congr {C C' S : gS} (h : R0 C S) (a : ∀ g x y, fI C' g x y = fI C g x y) (b : ∀ i, aI C' 13 0 i = aI C 13 0 i) : R0 C' S := by
  have e : fI C' = fI C := funext fun g => funext fun x => funext fun y => a g x y
  have ej : jn C' = jn C := by unfold jn; rw [e]
  have ec : ∀ j, jc C' j = jc C j := fun j => by unfold jc; rw [e]
  have et : tl C' = tl C := by unfold tl; rw [e]
  unfold R0 RN LG RJ RB JK TK at *
  simp only [ej, ec, e, et, b]
  exact h
theorem tLogS_fI {S : gS} {k m j t : Int32} {g a b : Nat} : fI (tLogS S k m j t) g a b = if g = 97 ∧ a = 0 ∧ b = 0 then nI (tl S + 1) else fI S g a b := rfl
theorem tAllB_fI (S : gS) (j : Nat) : ∀ n g j' t', fI (tAllB S j n) g j' t' = if g = 163 ∧ j' = j ∧ t' < n then 1 else if g = 164 ∧ j' = j ∧ t' < n then 0 else fI S g j' t'
  | 0, g, j', t' => by rw [if_neg (by omega), if_neg (by omega)]; rfl
  | n + 1, g, j', t' => by
    simp only [tAllB, tBegin, fI_sfI, tAllB_fI S j n]
    repeat' split
    all_goals first | rfl | (exfalso; omega)
theorem R0.begin {C S : gS} {j t : Nat} (h : R0 C S) (hj : j < jn C) (ht : t < jc C j) : R0 (tBegin C j t) (saI (saI S 32 0 (6 * j + t) 1) 33 0 (6 * j + t) 0) := by
  obtain ⟨q1, q2, q3, q4, q5, q6, q7⟩ := h.st hj ht
  refine h.task hj ht ((tKeep_sfI rfl).tr (tKeep_sfI rfl)) ((mK_saI rfl).tr (mK_saI rfl)) rfl rfl rfl rfl (fun g j' t' h8 h9 hn => ?_) (fun k i h8 h9 hn => ?_) ?_
  · simp only [tBegin, fI_sfI]
    rw [if_neg (fun z => hn (by omega)), if_neg (fun z => hn (by omega))]
  · simp only [aI_saI]
    rw [if_neg (fun z => hn (by omega)), if_neg (fun z => hn (by omega))]
  · have e : fI (tBegin C j t) 163 j t = 1 := by simp [tBegin, fI_sfI]
    refine ⟨?_, ⟨1, by decide, e⟩, ?_, q4, q5, q6, fun z => ?_⟩
    · rw [e]; simp [aI_saI]
    · simp [tBegin, fI_sfI, aI_saI]
    · rw [e] at z; exact absurd z (by decide)
theorem tOver_ge {C : gS} {j t s : Nat} (e : fI C 163 j t = nI s) (hs : s ≤ 6) : tOver C j t = decide (4 ≤ s) := by
  unfold tOver
  refine decide_eq_decide.mpr ?_
  rw [e, show (4 : Int32) = nI 4 from rfl, show (5 : Int32) = nI 5 from rfl, show (6 : Int32) = nI 6 from rfl, nI_eq (by omega) (by decide), nI_eq (by omega) (by decide), nI_eq (by omega) (by decide)]
  omega
set_option maxRecDepth 100000 in
set_option maxHeartbeats 2000000 in
theorem kX8_endTask {E : gE} {S : gS} {C : gS} {j t : Nat} {w : Int32} {Q : Option gV → gS → Prop} (hM : ModS S) (hR : R0 C S) (hj : j < jn C) (ht : t < jc C j) (hb : tl C + 16 < 2 ^ 30) (hQ : ∀ T', R0 (tEnd C j t w) T' → mK S T' → Q none T') : gRun E mX8_endTask 4 0 0 [vR 8 0 0, vI (nI j), vI (nI t), vI w] S [] Q := by
  refine gRun_of (ls := [some (vR 8 0 0), some (vI (nI j)), some (vI (nI t)), some (vI w), none, none, none]) rfl (Nat.le_of_ble_eq_true rfl) rfl (fun ad => ?_)
  have hj6 := hR.j6
  have hc6 := hR.c6 hj
  have g0 := tEnd0_go (S := C) (j := j) (t := t) (w := w) hc6
  obtain ⟨y, y1, y2, y3⟩ := g0.2 (tl C) hR.2.1.1 (by omega)
  have ey : tl (tEnd0 C j t w) = y := tl_of y1 (by omega)
  have en := jn_go g0
  have ec := jc_go g0 j
  have M144 : ∀ (S1 : gS) (w5 w6 : Option gV) (_ : R0 (tEnd0 C j t w) S1) (_ : mK S S1), gG E mX8_endTask (gBof 4 0 0 ad [] Q) 144 [some (vR 8 0 0), some (vI (nI j)), some (vI (nI t)), some (vI w), some (vI (nI (6 * j + t))), w5, w6] [] S1 0 0 := by
    intro T w5 w6 hS m1
    have hQ1 : ∀ T', R0 (tClose (tEnd0 C j t w) j) T' → mK T T' → Q none T' := fun T' h9 m9 => hQ T' h9 (m1.tr m9)
    have hMT := hM.mk m1
    clear hR
    generalize tEnd0 C j t w = C1 at *
    obtain ⟨l8, l20, l21, l22, l23, l24, l25, l26, l27, l28, l29, l30, l31, l32, l33, l34, l35, r262, r265, r266, r267, r268, r269, r270, r271, r272, r273, r274, r275, r276, r277, r278, r280⟩ := id hMT
    have hjC : j < jn C1 := by omega
    have LP : ∀ (k i : Nat) (B : Bool) (_ : i + k = jc C1 j) (hb : B = decide (∀ t, t < i → tOver C1 j t = true)), gG E mX8_endTask (gBof 4 0 0 ad [] Q) 153 [some (vR 8 0 0), some (vI (nI j)), some (vI (nI t)), some (vI w), some (vI (nI (6 * j + t))), some (vI (bI B)), some (vI (nI (6 * j + i)))] [] T 0 0 := by
      intro k
      induction k with
      | zero =>
        intro i B hk hb
        have e : i = jc C1 j := by omega
        subst e
        refine g_iload (pc' := 155) dX8_endTask_153 rfl rfl ?_
        refine g_bipush (pc' := 157) (v := 6) dX8_endTask_155 rfl rfl ?_
        refine g_iload_n (pc' := 158) dX8_endTask_157 rfl rfl ?_
        refine g_imul (pc' := 159) dX8_endTask_158 rfl ?_
        rw [show (6 : Int32) = nI 6 from rfl, pk_mul]
        refine g_aload_n (pc' := 160) dX8_endTask_159 rfl rfl ?_
        refine ggX8_29 (pc' := 163) rfl dX8_endTask_160 rfl l8 r268 ?_
        refine g_iload_n (pc' := 164) dX8_endTask_163 rfl rfl ?_
        refine g_iald (pc' := 165) (n := j) dX8_endTask_164 rfl (by decide) rfl rfl (show j < 6 by omega) l24 ?_
        rw [hS.sz hjC]
        refine g_iadd (pc' := 166) dX8_endTask_165 rfl ?_
        rw [nI_add]
        refine g_icmp_ge dX8_endTask_166 (tg := 198) (pc' := 169) (by decide) rfl (fun h166 => ?_) (fun h166 => absurd (by rw [nI_leI (by omega) (by omega)]; omega) h166)
        refine g_iload (pc' := 200) dX8_endTask_198 rfl rfl ?_
        refine g_if_eq dX8_endTask_200 (tg := 218) (pc' := 203) (by decide) rfl (fun h200 => ?_) (fun h200 => ?_)
        · refine g_vret dX8_endTask_218 rfl (Nat.le_of_ble_eq_true rfl) (Nat.le_of_ble_eq_true rfl) ?_
          first
            | (refine hQ1 _ ?_ mK.rf
               rw [tClose, if_neg (by rw [hb] at h200; exact bdn h200)]
               exact hS)
            | (have h9 := R0.note (k := 8) (m := fI C1 231 0 0) (j := nI j) (t := -1) (hS.run hjC (Or.inl rfl)) (by show tl C1 + 1 < _; omega)
               refine hQ1 _ ?_ ((mK_saI rfl).tr tLM_mK)
               rw [tClose, if_pos (by rw [hb] at h200; exact bdp h200), show fI (saI T 25 0 j 0) 257 0 0 = fI C1 231 0 0 from hS.now]
               exact h9)
        · refine g_aload_n (pc' := 204) dX8_endTask_203 rfl rfl ?_
          refine ggX8_32 (pc' := 207) rfl dX8_endTask_204 rfl l8 r269 ?_
          refine g_iload_n (pc' := 208) dX8_endTask_207 rfl rfl ?_
          refine g_iconst (pc' := 209) (v := 0) dX8_endTask_208 rfl rfl ?_
          refine g_zast (pc' := 210) (n := j) dX8_endTask_209 rfl (by decide) rfl rfl (show j < 6 by omega) l25 rfl ?_
          refine g_aload_n (pc' := 211) dX8_endTask_210 rfl rfl ?_
          refine g_bipush (pc' := 213) (v := 8) dX8_endTask_211 rfl rfl ?_
          refine g_iload_n (pc' := 214) dX8_endTask_213 rfl rfl ?_
          refine g_iconst (pc' := 215) (v := (-1)) dX8_endTask_214 rfl rfl ?_
          refine gcv3 (pc' := 218) cwX8_176 cf8 dX8_endTask_215 rfl l8 (Nat.le_of_ble_eq_true rfl) (Nat.le_of_ble_eq_true rfl) (Nat.le_of_ble_eq_true rfl) (Nat.le_of_ble_eq_true rfl) (Nat.le_of_ble_eq_true rfl) (kX8_note (n := tl C1) (hMT.of rfl rfl) hS.tot (by omega) ?_)
          refine g_vret dX8_endTask_218 rfl (Nat.le_of_ble_eq_true rfl) (Nat.le_of_ble_eq_true rfl) ?_
          first
            | (refine hQ1 _ ?_ mK.rf
               rw [tClose, if_neg (by rw [hb] at h200; exact bdn h200)]
               exact hS)
            | (have h9 := R0.note (k := 8) (m := fI C1 231 0 0) (j := nI j) (t := -1) (hS.run hjC (Or.inl rfl)) (by show tl C1 + 1 < _; omega)
               refine hQ1 _ ?_ ((mK_saI rfl).tr tLM_mK)
               rw [tClose, if_pos (by rw [hb] at h200; exact bdp h200), show fI (saI T 25 0 j 0) 257 0 0 = fI C1 231 0 0 from hS.now]
               exact h9)
      | succ k ih =>
        intro i B hk hb
        obtain ⟨hq1, ⟨s, hs6, hq2⟩, -⟩ := hS.st hjC (t := i) (by omega)
        have ho := tOver_ge hq2 hs6
        have h1t : B = true → 4 ≤ s → true = decide (∀ t, t < i + 1 → tOver C1 j t = true) := fun z z2 => by
          rw [z] at hb
          have z3 := of_decide_eq_true hb.symm
          refine (decide_eq_true (fun t ht => ?_)).symm
          rcases Nat.lt_or_ge t i with q | q
          · exact z3 t q
          · rw [show t = i by omega, ho]; exact decide_eq_true z2
        have h1f : ¬ 4 ≤ s → false = decide (∀ t, t < i + 1 → tOver C1 j t = true) := fun z => (decide_eq_false (fun z2 => by
          have z3 := z2 i (by omega)
          rw [ho, decide_eq_true_eq] at z3
          exact z z3)).symm
        have h1n : B = false → false = decide (∀ t, t < i + 1 → tOver C1 j t = true) := fun z => by
          rw [z] at hb
          have z3 := of_decide_eq_false hb.symm
          exact (decide_eq_false (fun z2 => z3 (fun t ht => z2 t (by omega)))).symm
        refine g_iload (pc' := 155) dX8_endTask_153 rfl rfl ?_
        refine g_bipush (pc' := 157) (v := 6) dX8_endTask_155 rfl rfl ?_
        refine g_iload_n (pc' := 158) dX8_endTask_157 rfl rfl ?_
        refine g_imul (pc' := 159) dX8_endTask_158 rfl ?_
        rw [show (6 : Int32) = nI 6 from rfl, pk_mul]
        refine g_aload_n (pc' := 160) dX8_endTask_159 rfl rfl ?_
        refine ggX8_29 (pc' := 163) rfl dX8_endTask_160 rfl l8 r268 ?_
        refine g_iload_n (pc' := 164) dX8_endTask_163 rfl rfl ?_
        refine g_iald (pc' := 165) (n := j) dX8_endTask_164 rfl (by decide) rfl rfl (show j < 6 by omega) l24 ?_
        rw [hS.sz hjC]
        refine g_iadd (pc' := 166) dX8_endTask_165 rfl ?_
        rw [nI_add]
        refine g_icmp_ge dX8_endTask_166 (tg := 198) (pc' := 169) (by decide) rfl (fun h166 => absurd h166 (by rw [nI_leI (by omega) (by omega)]; omega)) (fun h166 => ?_)
        refine g_iload (pc' := 171) dX8_endTask_169 rfl rfl ?_
        refine g_if_eq dX8_endTask_171 (tg := 189) (pc' := 174) (by decide) rfl (fun h171 => ?_) (fun h171 => ?_)
        · try rw [show (4 : Int32) = nI 4 from rfl, nI_ltI (by omega) (by decide)] at h182
          refine g_iconst (pc' := 190) (v := 0) dX8_endTask_189 rfl rfl ?_
          refine gistore5 (pc' := 192) dX8_endTask_190 rfl (Nat.le_of_ble_eq_true rfl) rfl ?_
          refine giinc6 (pc' := 195) (c := 1) dX8_endTask_192 rfl rfl (Nat.le_of_ble_eq_true rfl) rfl ?_
          refine g_goto dX8_endTask_195 (pc' := 153) (by decide) ?_
          rw [nI_1]
          first
            | exact ih (i + 1) true (by omega) (h1t (bbp h171) (by omega))
            | exact ih (i + 1) false (by omega) (h1f (by omega))
            | exact ih (i + 1) false (by omega) (h1n (bI_f.mp h171))
        · refine g_aload_n (pc' := 175) dX8_endTask_174 rfl rfl ?_
          refine ggX8_54 (pc' := 178) rfl dX8_endTask_175 rfl l8 r276 ?_
          refine g_iload (pc' := 180) dX8_endTask_178 rfl rfl ?_
          refine g_iald (pc' := 181) (n := 6 * j + i) dX8_endTask_180 rfl (by decide) rfl rfl (show 6 * j + i < 36 by omega) l32 ?_
          rw [hq1, hq2]
          refine g_iconst (pc' := 182) (v := 4) dX8_endTask_181 rfl rfl ?_
          refine g_icmp_lt dX8_endTask_182 (tg := 189) (pc' := 185) (by decide) rfl (fun h182 => ?_) (fun h182 => ?_)
          · try rw [show (4 : Int32) = nI 4 from rfl, nI_ltI (by omega) (by decide)] at h182
            refine g_iconst (pc' := 190) (v := 0) dX8_endTask_189 rfl rfl ?_
            refine gistore5 (pc' := 192) dX8_endTask_190 rfl (Nat.le_of_ble_eq_true rfl) rfl ?_
            refine giinc6 (pc' := 195) (c := 1) dX8_endTask_192 rfl rfl (Nat.le_of_ble_eq_true rfl) rfl ?_
            refine g_goto dX8_endTask_195 (pc' := 153) (by decide) ?_
            rw [nI_1]
            first
              | exact ih (i + 1) true (by omega) (h1t (bbp h171) (by omega))
              | exact ih (i + 1) false (by omega) (h1f (by omega))
              | exact ih (i + 1) false (by omega) (h1n (bI_f.mp h171))
          · rw [show (4 : Int32) = nI 4 from rfl, nI_ltI (by omega) (by decide)] at h182
            refine g_iconst (pc' := 186) (v := 1) dX8_endTask_185 rfl rfl ?_
            refine g_goto dX8_endTask_186 (pc' := 190) (by decide) ?_
            refine gistore5 (pc' := 192) dX8_endTask_190 rfl (Nat.le_of_ble_eq_true rfl) rfl ?_
            refine giinc6 (pc' := 195) (c := 1) dX8_endTask_192 rfl rfl (Nat.le_of_ble_eq_true rfl) rfl ?_
            refine g_goto dX8_endTask_195 (pc' := 153) (by decide) ?_
            rw [nI_1]
            first
              | exact ih (i + 1) true (by omega) (h1t (bbp h171) (by omega))
              | exact ih (i + 1) false (by omega) (h1f (by omega))
              | exact ih (i + 1) false (by omega) (h1n (bI_f.mp h171))
    refine g_iconst (pc' := 145) (v := 1) dX8_endTask_144 rfl rfl ?_
    refine gistore5 (pc' := 147) dX8_endTask_145 rfl (Nat.le_of_ble_eq_true rfl) rfl ?_
    refine g_bipush (pc' := 149) (v := 6) dX8_endTask_147 rfl rfl ?_
    refine g_iload_n (pc' := 150) dX8_endTask_149 rfl rfl ?_
    refine g_imul (pc' := 151) dX8_endTask_150 rfl ?_
    rw [show (6 : Int32) = nI 6 from rfl, pk_mul]
    refine gistore6 (pc' := 153) dX8_endTask_151 rfl (Nat.le_of_ble_eq_true rfl) rfl ?_
    exact LP (jc C1 j) 0 true (by omega) (decide_eq_true (fun t h => absurd h (Nat.not_lt_zero _))).symm
  obtain ⟨q1, q2, q3, q4, q5, q6, q7⟩ := hR.st hj ht
  obtain ⟨l8, l20, l21, l22, l23, l24, l25, l26, l27, l28, l29, l30, l31, l32, l33, l34, l35, r262, r265, r266, r267, r268, r269, r270, r271, r272, r273, r274, r275, r276, r277, r278, r280⟩ := id hM
  by_cases hw : w = 0
  · have etl : tl (tTry C j t (fI C 231 0 0)) = tl C := by
      have g9 := tTry_go (S := C) (j := j) (t := t) (m := fI C 231 0 0)
      obtain ⟨z, z1, z2, z3⟩ := g9.2 (tl C) hR.2.1.1 (by omega)
      rw [tl_of z1 (by omega)]; omega
    by_cases hag : fI C 164 j t + 1 < fI C 161 j t
    · have hRT : R0 (tTry C j t (fI C 231 0 0)) (saI (saI (saI S 33 0 (6 * j + t) (fI C 164 j t + 1)) 32 0 (6 * j + t) 2) 34 0 (6 * j + t) (fI C 231 0 0 + (fI C 162 j t <<< (fI C 164 j t &&& 31)))) := by
        rw [tTry, if_pos hag]
        refine hR.task hj ht (((tKeep_sfI rfl).tr (tKeep_sfI rfl)).tr (tKeep_sfI rfl)) (((mK_saI rfl).tr (mK_saI rfl)).tr (mK_saI rfl)) rfl rfl rfl rfl (fun g j' t' h8 h9 hn => ?_) (fun k i h8 h9 hn => ?_) ?_
        · simp only [fI_sfI]
          rw [if_neg (fun z => hn (by omega)), if_neg (fun z => hn (by omega)), if_neg (fun z => hn (by omega))]
        · simp only [aI_saI]
          rw [if_neg (fun z => hn (by omega)), if_neg (fun z => hn (by omega)), if_neg (fun z => hn (by omega))]
        · refine ⟨?_, ⟨2, by decide, ?_⟩, ?_, q4, q5, q6, fun _ => ?_⟩ <;> simp [fI_sfI, aI_saI, show nI 2 = (2 : Int32) from rfl]
      refine g_bipush (pc' := 2) (v := 6) dX8_endTask_0 rfl rfl ?_
      refine g_iload_n (pc' := 3) dX8_endTask_2 rfl rfl ?_
      refine g_imul (pc' := 4) dX8_endTask_3 rfl ?_
      rw [show (6 : Int32) = nI 6 from rfl, pk_mul]
      refine g_iload_n (pc' := 5) dX8_endTask_4 rfl rfl ?_
      refine g_iadd (pc' := 6) dX8_endTask_5 rfl ?_
      rw [nI_add]
      refine gistore4 (pc' := 8) dX8_endTask_6 rfl (Nat.le_of_ble_eq_true rfl) rfl ?_
      refine g_iload_n (pc' := 9) dX8_endTask_8 rfl rfl ?_
      refine g_if_eq dX8_endTask_9 (tg := 30) (pc' := 12) (by decide) rfl (fun h9 => ?_) (fun h9 => absurd hw h9)
      refine g_aload_n (pc' := 31) dX8_endTask_30 rfl rfl ?_
      refine ggX8_57 (pc' := 34) rfl dX8_endTask_31 rfl l8 r277 ?_
      refine g_iload (pc' := 36) dX8_endTask_34 rfl rfl ?_
      refine g_aload_n (pc' := 37) dX8_endTask_36 rfl rfl ?_
      refine ggX8_57 (pc' := 40) rfl dX8_endTask_37 rfl l8 r277 ?_
      refine g_iload (pc' := 42) dX8_endTask_40 rfl rfl ?_
      refine g_iald (pc' := 43) (n := 6 * j + t) dX8_endTask_42 rfl (by decide) rfl rfl (show 6 * j + t < 36 by omega) l33 ?_
      rw [q3]
      refine g_iconst (pc' := 44) (v := 1) dX8_endTask_43 rfl rfl ?_
      refine g_iadd (pc' := 45) dX8_endTask_44 rfl ?_
      refine g_iast (pc' := 46) (n := 6 * j + t) dX8_endTask_45 rfl (by decide) rfl rfl (show 6 * j + t < 36 by omega) l33 ?_
      refine g_aload_n (pc' := 47) dX8_endTask_46 rfl rfl ?_
      refine ggX8_57 (pc' := 50) rfl dX8_endTask_47 rfl l8 r277 ?_
      refine g_iload (pc' := 52) dX8_endTask_50 rfl rfl ?_
      refine g_iald (pc' := 53) (n := 6 * j + t) dX8_endTask_52 rfl (by decide) rfl rfl (show 6 * j + t < 36 by omega) l33 ?_
      rw [aI_at]
      refine g_aload_n (pc' := 54) dX8_endTask_53 rfl rfl ?_
      refine ggX8_48 (pc' := 57) rfl dX8_endTask_54 rfl l8 r274 ?_
      refine g_iload (pc' := 59) dX8_endTask_57 rfl rfl ?_
      refine g_iald (pc' := 60) (n := 6 * j + t) dX8_endTask_59 rfl (by decide) rfl rfl (show 6 * j + t < 36 by omega) l30 ?_
      rw [show aI (saI S 33 0 (6 * j + t) (fI C 164 j t + 1)) 30 0 (6 * j + t) = fI C 161 j t from q5]
      refine g_icmp_ge dX8_endTask_60 (tg := 67) (pc' := 63) (by decide) rfl (fun h60 => absurd h60 (by rw [Int32.not_le]; exact hag)) (fun h60 => ?_)
      refine g_iconst (pc' := 64) (v := 1) dX8_endTask_63 rfl rfl ?_
      refine g_goto dX8_endTask_64 (pc' := 68) (by decide) ?_
      refine gistore5 (pc' := 70) dX8_endTask_68 rfl (Nat.le_of_ble_eq_true rfl) rfl ?_
      refine g_aload_n (pc' := 71) dX8_endTask_70 rfl rfl ?_
      refine ggX8_54 (pc' := 74) rfl dX8_endTask_71 rfl l8 r276 ?_
      refine g_iload (pc' := 76) dX8_endTask_74 rfl rfl ?_
      refine g_iload (pc' := 78) dX8_endTask_76 rfl rfl ?_
      refine g_if_eq dX8_endTask_78 (tg := 85) (pc' := 81) (by decide) rfl (fun h78 => absurd h78 (by decide)) (fun h78 => ?_)
      refine g_iconst (pc' := 82) (v := 2) dX8_endTask_81 rfl rfl ?_
      refine g_goto dX8_endTask_82 (pc' := 86) (by decide) ?_
      refine g_iast (pc' := 87) (n := 6 * j + t) dX8_endTask_86 rfl (by decide) rfl rfl (show 6 * j + t < 36 by omega) l32 ?_
      refine g_aload_n (pc' := 88) dX8_endTask_87 rfl rfl ?_
      refine ggX8_60 (pc' := 91) rfl dX8_endTask_88 rfl l8 r278 ?_
      refine g_iload (pc' := 93) dX8_endTask_91 rfl rfl ?_
      refine g_aload_n (pc' := 94) dX8_endTask_93 rfl rfl ?_
      refine ggX8_173 (pc' := 97) rfl dX8_endTask_94 rfl l8 ?_
      rw [show fI (saI (saI S 33 0 (6 * j + t) (fI C 164 j t + 1)) 32 0 (6 * j + t) 2) 257 0 0 = fI C 231 0 0 from hR.now]
      refine g_aload_n (pc' := 98) dX8_endTask_97 rfl rfl ?_
      refine ggX8_51 (pc' := 101) rfl dX8_endTask_98 rfl l8 r275 ?_
      refine g_iload (pc' := 103) dX8_endTask_101 rfl rfl ?_
      refine g_iald (pc' := 104) (n := 6 * j + t) dX8_endTask_103 rfl (by decide) rfl rfl (show 6 * j + t < 36 by omega) l31 ?_
      rw [show aI (saI (saI S 33 0 (6 * j + t) (fI C 164 j t + 1)) 32 0 (6 * j + t) 2) 31 0 (6 * j + t) = fI C 162 j t from q6]
      refine g_aload_n (pc' := 105) dX8_endTask_104 rfl rfl ?_
      refine ggX8_57 (pc' := 108) rfl dX8_endTask_105 rfl l8 r277 ?_
      refine g_iload (pc' := 110) dX8_endTask_108 rfl rfl ?_
      refine g_iald (pc' := 111) (n := 6 * j + t) dX8_endTask_110 rfl (by decide) rfl rfl (show 6 * j + t < 36 by omega) l33 ?_
      rw [show aI (saI (saI S 33 0 (6 * j + t) (fI C 164 j t + 1)) 32 0 (6 * j + t) 2) 33 0 (6 * j + t) = fI C 164 j t + 1 from aI_at]
      refine g_iconst (pc' := 112) (v := 1) dX8_endTask_111 rfl rfl ?_
      refine g_isub (pc' := 113) dX8_endTask_112 rfl ?_
      rw [Int32.add_sub_cancel]
      refine g_ishl (pc' := 114) dX8_endTask_113 rfl ?_
      refine g_iadd (pc' := 115) dX8_endTask_114 rfl ?_
      refine g_iast (pc' := 116) (n := 6 * j + t) dX8_endTask_115 rfl (by decide) rfl rfl (show 6 * j + t < 36 by omega) l34 ?_
      refine g_aload_n (pc' := 117) dX8_endTask_116 rfl rfl ?_
      refine g_iload (pc' := 119) dX8_endTask_117 rfl rfl ?_
      refine g_if_eq dX8_endTask_119 (tg := 126) (pc' := 122) (by decide) rfl (fun h119 => absurd h119 (by decide)) (fun h119 => ?_)
      refine g_iconst (pc' := 123) (v := 5) dX8_endTask_122 rfl rfl ?_
      refine g_goto dX8_endTask_123 (pc' := 128) (by decide) ?_
      refine g_iload_n (pc' := 129) dX8_endTask_128 rfl rfl ?_
      refine g_iload_n (pc' := 130) dX8_endTask_129 rfl rfl ?_
      refine gcv3 (pc' := 133) cwX8_176 cf8 dX8_endTask_130 rfl l8 (Nat.le_of_ble_eq_true rfl) (Nat.le_of_ble_eq_true rfl) (Nat.le_of_ble_eq_true rfl) (Nat.le_of_ble_eq_true rfl) (Nat.le_of_ble_eq_true rfl) (kX8_note (n := tl C) (hM.of rfl rfl) hR.tot (by omega) ?_)
      refine g_iload (pc' := 135) dX8_endTask_133 rfl rfl ?_
      refine g_if_ne dX8_endTask_135 (tg := 144) (pc' := 138) (by decide) rfl (fun h135 => ?_) (fun h135 => absurd h135 (by decide))
      rw [show fI (saI (saI (saI S 33 0 (6 * j + t) (fI C 164 j t + 1)) 32 0 (6 * j + t) 2) 34 0 (6 * j + t) (fI C 231 0 0 + (fI C 162 j t <<< (fI C 164 j t &&& 31)))) 257 0 0 = fI C 231 0 0 from hR.now]
      refine M144 _ _ _ ?_ ((((mK_saI rfl).tr (mK_saI rfl)).tr (mK_saI rfl)).tr tLM_mK)
      rw [tEnd0, if_pos hw, if_pos (show tAgain C j t = true from decide_eq_true hag)]
      rw [← etl]
      refine R0.note (k := 5) (m := fI C 231 0 0) (j := nI j) (t := nI t) ?_ (by show tl (tTry C j t _) + 1 < _; rw [etl]; omega)
      exact hRT
    · have hag := Int32.not_lt.mp hag
      have hRF0 : R0 (sfI (sfI C 164 j t (fI C 164 j t + 1)) 163 j t 5) (saI (saI (saI S 33 0 (6 * j + t) (fI C 164 j t + 1)) 32 0 (6 * j + t) 5) 34 0 (6 * j + t) (fI C 231 0 0 + (fI C 162 j t <<< (fI C 164 j t &&& 31)))) := by
        refine hR.task hj ht ((tKeep_sfI rfl).tr (tKeep_sfI rfl)) (((mK_saI rfl).tr (mK_saI rfl)).tr (mK_saI rfl)) rfl rfl rfl rfl (fun g j' t' h8 h9 hn => ?_) (fun k i h8 h9 hn => ?_) ?_
        · simp only [fI_sfI]
          rw [if_neg (fun z => hn (by omega)), if_neg (fun z => hn (by omega))]
        · simp only [aI_saI]
          rw [if_neg (fun z => hn (by omega)), if_neg (fun z => hn (by omega)), if_neg (fun z => hn (by omega))]
        · have e5 : fI (sfI (sfI C 164 j t (fI C 164 j t + 1)) 163 j t 5) 163 j t = 5 := fI_at
          refine ⟨?_, ⟨5, by decide, e5⟩, ?_, q4, q5, q6, fun z => absurd (e5.symm.trans z) (by decide)⟩ <;> simp [fI_sfI, aI_saI]
      have hRF := R0.note (k := 6) (m := fI C 231 0 0) (j := nI j) (t := nI t) hRF0 (by show tl C + 1 < _; omega)
      have gF : tGo d0 1 C (tLogS (sfI (sfI C 164 j t (fI C 164 j t + 1)) 163 j t 5) 6 (fI C 231 0 0) (nI j) (nI t)) := ((tGo_sfI rfl (by decide)).tr (tGo_sfI rfl (by decide))).tr tLogS_go
      have hjF : j < jn (tLogS (sfI (sfI C 164 j t (fI C 164 j t + 1)) 163 j t 5) 6 (fI C 231 0 0) (nI j) (nI t)) := by rw [jn_go gF]; exact hj
      have ecF := jc_go gF j
      have htF : t < jc (tLogS (sfI (sfI C 164 j t (fI C 164 j t + 1)) 163 j t 5) 6 (fI C 231 0 0) (nI j) (nI t)) j := by rw [ecF]; exact ht
      have etF : tl (tLogS (sfI (sfI C 164 j t (fI C 164 j t + 1)) 163 j t 5) 6 (fI C 231 0 0) (nI j) (nI t)) = tl C + 1 := tl_note (by show tl C + 1 < _; omega)
      refine g_bipush (pc' := 2) (v := 6) dX8_endTask_0 rfl rfl ?_
      refine g_iload_n (pc' := 3) dX8_endTask_2 rfl rfl ?_
      refine g_imul (pc' := 4) dX8_endTask_3 rfl ?_
      rw [show (6 : Int32) = nI 6 from rfl, pk_mul]
      refine g_iload_n (pc' := 5) dX8_endTask_4 rfl rfl ?_
      refine g_iadd (pc' := 6) dX8_endTask_5 rfl ?_
      rw [nI_add]
      refine gistore4 (pc' := 8) dX8_endTask_6 rfl (Nat.le_of_ble_eq_true rfl) rfl ?_
      refine g_iload_n (pc' := 9) dX8_endTask_8 rfl rfl ?_
      refine g_if_eq dX8_endTask_9 (tg := 30) (pc' := 12) (by decide) rfl (fun h9 => ?_) (fun h9 => absurd hw h9)
      refine g_aload_n (pc' := 31) dX8_endTask_30 rfl rfl ?_
      refine ggX8_57 (pc' := 34) rfl dX8_endTask_31 rfl l8 r277 ?_
      refine g_iload (pc' := 36) dX8_endTask_34 rfl rfl ?_
      refine g_aload_n (pc' := 37) dX8_endTask_36 rfl rfl ?_
      refine ggX8_57 (pc' := 40) rfl dX8_endTask_37 rfl l8 r277 ?_
      refine g_iload (pc' := 42) dX8_endTask_40 rfl rfl ?_
      refine g_iald (pc' := 43) (n := 6 * j + t) dX8_endTask_42 rfl (by decide) rfl rfl (show 6 * j + t < 36 by omega) l33 ?_
      rw [q3]
      refine g_iconst (pc' := 44) (v := 1) dX8_endTask_43 rfl rfl ?_
      refine g_iadd (pc' := 45) dX8_endTask_44 rfl ?_
      refine g_iast (pc' := 46) (n := 6 * j + t) dX8_endTask_45 rfl (by decide) rfl rfl (show 6 * j + t < 36 by omega) l33 ?_
      refine g_aload_n (pc' := 47) dX8_endTask_46 rfl rfl ?_
      refine ggX8_57 (pc' := 50) rfl dX8_endTask_47 rfl l8 r277 ?_
      refine g_iload (pc' := 52) dX8_endTask_50 rfl rfl ?_
      refine g_iald (pc' := 53) (n := 6 * j + t) dX8_endTask_52 rfl (by decide) rfl rfl (show 6 * j + t < 36 by omega) l33 ?_
      rw [aI_at]
      refine g_aload_n (pc' := 54) dX8_endTask_53 rfl rfl ?_
      refine ggX8_48 (pc' := 57) rfl dX8_endTask_54 rfl l8 r274 ?_
      refine g_iload (pc' := 59) dX8_endTask_57 rfl rfl ?_
      refine g_iald (pc' := 60) (n := 6 * j + t) dX8_endTask_59 rfl (by decide) rfl rfl (show 6 * j + t < 36 by omega) l30 ?_
      rw [show aI (saI S 33 0 (6 * j + t) (fI C 164 j t + 1)) 30 0 (6 * j + t) = fI C 161 j t from q5]
      refine g_icmp_ge dX8_endTask_60 (tg := 67) (pc' := 63) (by decide) rfl (fun h60 => ?_) (fun h60 => absurd hag h60)
      refine g_iconst (pc' := 68) (v := 0) dX8_endTask_67 rfl rfl ?_
      refine gistore5 (pc' := 70) dX8_endTask_68 rfl (Nat.le_of_ble_eq_true rfl) rfl ?_
      refine g_aload_n (pc' := 71) dX8_endTask_70 rfl rfl ?_
      refine ggX8_54 (pc' := 74) rfl dX8_endTask_71 rfl l8 r276 ?_
      refine g_iload (pc' := 76) dX8_endTask_74 rfl rfl ?_
      refine g_iload (pc' := 78) dX8_endTask_76 rfl rfl ?_
      refine g_if_eq dX8_endTask_78 (tg := 85) (pc' := 81) (by decide) rfl (fun h78 => ?_) (fun h78 => absurd (by decide) h78)
      refine g_iconst (pc' := 86) (v := 5) dX8_endTask_85 rfl rfl ?_
      refine g_iast (pc' := 87) (n := 6 * j + t) dX8_endTask_86 rfl (by decide) rfl rfl (show 6 * j + t < 36 by omega) l32 ?_
      refine g_aload_n (pc' := 88) dX8_endTask_87 rfl rfl ?_
      refine ggX8_60 (pc' := 91) rfl dX8_endTask_88 rfl l8 r278 ?_
      refine g_iload (pc' := 93) dX8_endTask_91 rfl rfl ?_
      refine g_aload_n (pc' := 94) dX8_endTask_93 rfl rfl ?_
      refine ggX8_173 (pc' := 97) rfl dX8_endTask_94 rfl l8 ?_
      rw [show fI (saI (saI S 33 0 (6 * j + t) (fI C 164 j t + 1)) 32 0 (6 * j + t) 5) 257 0 0 = fI C 231 0 0 from hR.now]
      refine g_aload_n (pc' := 98) dX8_endTask_97 rfl rfl ?_
      refine ggX8_51 (pc' := 101) rfl dX8_endTask_98 rfl l8 r275 ?_
      refine g_iload (pc' := 103) dX8_endTask_101 rfl rfl ?_
      refine g_iald (pc' := 104) (n := 6 * j + t) dX8_endTask_103 rfl (by decide) rfl rfl (show 6 * j + t < 36 by omega) l31 ?_
      rw [show aI (saI (saI S 33 0 (6 * j + t) (fI C 164 j t + 1)) 32 0 (6 * j + t) 5) 31 0 (6 * j + t) = fI C 162 j t from q6]
      refine g_aload_n (pc' := 105) dX8_endTask_104 rfl rfl ?_
      refine ggX8_57 (pc' := 108) rfl dX8_endTask_105 rfl l8 r277 ?_
      refine g_iload (pc' := 110) dX8_endTask_108 rfl rfl ?_
      refine g_iald (pc' := 111) (n := 6 * j + t) dX8_endTask_110 rfl (by decide) rfl rfl (show 6 * j + t < 36 by omega) l33 ?_
      rw [show aI (saI (saI S 33 0 (6 * j + t) (fI C 164 j t + 1)) 32 0 (6 * j + t) 5) 33 0 (6 * j + t) = fI C 164 j t + 1 from aI_at]
      refine g_iconst (pc' := 112) (v := 1) dX8_endTask_111 rfl rfl ?_
      refine g_isub (pc' := 113) dX8_endTask_112 rfl ?_
      rw [Int32.add_sub_cancel]
      refine g_ishl (pc' := 114) dX8_endTask_113 rfl ?_
      refine g_iadd (pc' := 115) dX8_endTask_114 rfl ?_
      refine g_iast (pc' := 116) (n := 6 * j + t) dX8_endTask_115 rfl (by decide) rfl rfl (show 6 * j + t < 36 by omega) l34 ?_
      refine g_aload_n (pc' := 117) dX8_endTask_116 rfl rfl ?_
      refine g_iload (pc' := 119) dX8_endTask_117 rfl rfl ?_
      refine g_if_eq dX8_endTask_119 (tg := 126) (pc' := 122) (by decide) rfl (fun h119 => ?_) (fun h119 => absurd (by decide) h119)
      refine g_bipush (pc' := 128) (v := 6) dX8_endTask_126 rfl rfl ?_
      refine g_iload_n (pc' := 129) dX8_endTask_128 rfl rfl ?_
      refine g_iload_n (pc' := 130) dX8_endTask_129 rfl rfl ?_
      refine gcv3 (pc' := 133) cwX8_176 cf8 dX8_endTask_130 rfl l8 (Nat.le_of_ble_eq_true rfl) (Nat.le_of_ble_eq_true rfl) (Nat.le_of_ble_eq_true rfl) (Nat.le_of_ble_eq_true rfl) (Nat.le_of_ble_eq_true rfl) (kX8_note (n := tl C) (hM.of rfl rfl) hR.tot (by omega) ?_)
      refine g_iload (pc' := 135) dX8_endTask_133 rfl rfl ?_
      refine g_if_ne dX8_endTask_135 (tg := 144) (pc' := 138) (by decide) rfl (fun h135 => absurd (by decide) h135) (fun h135 => ?_)
      refine g_aload_n (pc' := 139) dX8_endTask_138 rfl rfl ?_
      refine g_iload_n (pc' := 140) dX8_endTask_139 rfl rfl ?_
      refine g_iload_n (pc' := 141) dX8_endTask_140 rfl rfl ?_
      rw [show fI (saI (saI (saI S 33 0 (6 * j + t) (fI C 164 j t + 1)) 32 0 (6 * j + t) 5) 34 0 (6 * j + t) (fI C 231 0 0 + (fI C 162 j t <<< (fI C 164 j t &&& 31)))) 257 0 0 = fI C 231 0 0 from hR.now]
      refine gcv2 (pc' := 144) cwX8_189 cf8 dX8_endTask_141 rfl l8 (Nat.le_of_ble_eq_true rfl) (Nat.le_of_ble_eq_true rfl) (Nat.le_of_ble_eq_true rfl) (Nat.le_of_ble_eq_true rfl) (Nat.le_of_ble_eq_true rfl) (kX8_leaveOut (C := tLogS (sfI (sfI C 164 j t (fI C 164 j t + 1)) 163 j t 5) 6 (fI C 231 0 0) (nI j) (nI t)) (hM.of rfl rfl) hRF hjF htF (by rw [etF]; omega) ?_)
      intro T' hT' mT'
      refine M144 _ _ _ ?_ ((((mK_saI rfl).tr (mK_saI rfl)).tr (mK_saI rfl)).tr (tLM_mK.tr mT'))
      rw [ecF] at hT'
      rw [tEnd0, if_pos hw, if_neg (by rw [tAgain, decide_eq_true_eq]; exact Int32.not_lt.mpr hag), tTry, if_neg (Int32.not_lt.mpr hag)]
      exact hT' 
  · skip
    refine g_bipush (pc' := 2) (v := 6) dX8_endTask_0 rfl rfl ?_
    refine g_iload_n (pc' := 3) dX8_endTask_2 rfl rfl ?_
    refine g_imul (pc' := 4) dX8_endTask_3 rfl ?_
    rw [show (6 : Int32) = nI 6 from rfl, pk_mul]
    refine g_iload_n (pc' := 5) dX8_endTask_4 rfl rfl ?_
    refine g_iadd (pc' := 6) dX8_endTask_5 rfl ?_
    rw [nI_add]
    refine gistore4 (pc' := 8) dX8_endTask_6 rfl (Nat.le_of_ble_eq_true rfl) rfl ?_
    refine g_iload_n (pc' := 9) dX8_endTask_8 rfl rfl ?_
    refine g_if_eq dX8_endTask_9 (tg := 30) (pc' := 12) (by decide) rfl (fun h9 => absurd h9 hw) (fun h9 => ?_)
    refine g_aload_n (pc' := 13) dX8_endTask_12 rfl rfl ?_
    refine ggX8_54 (pc' := 16) rfl dX8_endTask_13 rfl l8 r276 ?_
    refine g_iload (pc' := 18) dX8_endTask_16 rfl rfl ?_
    refine g_iconst (pc' := 19) (v := 4) dX8_endTask_18 rfl rfl ?_
    refine g_iast (pc' := 20) (n := 6 * j + t) dX8_endTask_19 rfl (by decide) rfl rfl (show 6 * j + t < 36 by omega) l32 ?_
    refine g_aload_n (pc' := 21) dX8_endTask_20 rfl rfl ?_
    refine g_iconst (pc' := 22) (v := 4) dX8_endTask_21 rfl rfl ?_
    refine g_iload_n (pc' := 23) dX8_endTask_22 rfl rfl ?_
    refine g_iload_n (pc' := 24) dX8_endTask_23 rfl rfl ?_
    refine gcv3 (pc' := 27) cwX8_176 cf8 dX8_endTask_24 rfl l8 (Nat.le_of_ble_eq_true rfl) (Nat.le_of_ble_eq_true rfl) (Nat.le_of_ble_eq_true rfl) (Nat.le_of_ble_eq_true rfl) (Nat.le_of_ble_eq_true rfl) (kX8_note (n := tl C) (hM.of rfl rfl) hR.tot (by omega) ?_)
    refine g_goto dX8_endTask_27 (pc' := 144) (by decide) ?_
    rw [show fI (saI S 32 0 (6 * j + t) 4) 257 0 0 = fI C 231 0 0 from hR.now]
    refine M144 _ _ _ ?_ ((mK_saI rfl).tr tLM_mK)
    rw [tEnd0, if_neg hw]
    exact R0.note (k := 4) (m := fI C 231 0 0) (j := nI j) (t := nI t) (hR.set hj ht (s := 4) (by decide) (by decide)) (by show tl C + 1 < _; omega)

/-- firing, in the model's order -/
def fD (C : gS) (j n : Nat) : gS := tAllB (tLogS (sfI C 69 j 0 (fI C 69 j 0 + 1)) 1 (fI C 231 0 0) (nI j) (-1)) j n
theorem fire_pos {C : gS} {j c : Nat} (h : fI C 68 j 0 = 0) (hc : jc C j = c) (h0 : 0 < c) : (∀ g x y, fI (tFire C j) g x y = fI (sfI (fD C j c) 68 j 0 1) g x y) ∧ ∀ i, aI (tFire C j) 13 0 i = aI (sfI (fD C j c) 68 j 0 1) 13 0 i := by
  have e1 : tFire C j = tLogS (tJBegin C j c) 1 (fI C 231 0 0) (nI j) (-1) := by
    rw [tFire, if_pos h, hc, tClose, if_neg]
    intro z
    have ec : jc (tLogS (tJBegin C j c) 1 (fI C 231 0 0) (nI j) (-1)) j = c := by
      rw [← hc]
      unfold jc
      rw [tLogS_f (by decide), tJBegin, tAllB_fI, if_neg (by omega), if_neg (by omega)]
      rfl
    have z2 := z 0 (by rw [ec]; exact h0)
    unfold tOver at z2
    rw [tLogS_f (by decide), tJBegin, tAllB_fI, if_pos ⟨rfl, rfl, h0⟩] at z2
    exact absurd z2 (by decide)
  have et : tl (tJBegin C j c) = tl C := by
    unfold tl
    rw [tJBegin, tAllB_fI, if_neg (by omega), if_neg (by omega)]
    rfl
  have et2 : tl (sfI C 69 j 0 (fI C 69 j 0 + 1)) = tl C := rfl
  rw [e1]
  refine ⟨fun g x y => ?_, fun i => ?_⟩
  · rw [tLogS_fI, et, fI_sfI, fD, tAllB_fI, tLogS_fI, et2, tJBegin, tAllB_fI]
    simp only [fI_sfI]
    repeat' split
    all_goals first | rfl | (exfalso; omega)
  · rw [tLogS_13, et]
    show _ = aI (fD C j c) 13 0 i
    rw [fD, show aI (tAllB (tLogS (sfI C 69 j 0 (fI C 69 j 0 + 1)) 1 (fI C 231 0 0) (nI j) (-1)) j c) = aI (tLogS (sfI C 69 j 0 (fI C 69 j 0 + 1)) 1 (fI C 231 0 0) (nI j) (-1)) from congrArg (fun z => z.2.1) (tAllB_st _ j c), tLogS_13, et2, show aI (tJBegin C j c) = aI C from congrArg (fun z => z.2.1) (tAllB_st _ j c)]
    rfl
theorem fire_zero {C : gS} {j : Nat} (h : fI C 68 j 0 = 0) (hc : jc C j = 0) : (∀ g x y, fI (tFire C j) g x y = fI (tLogS (sfI (fD C j 0) 68 j 0 0) 8 (fI C 231 0 0) (nI j) (-1)) g x y) ∧ ∀ i, aI (tFire C j) 13 0 i = aI (tLogS (sfI (fD C j 0) 68 j 0 0) 8 (fI C 231 0 0) (nI j) (-1)) 13 0 i := by
  have e1 : tFire C j = tLogS (sfI (tLogS (tJBegin C j 0) 1 (fI C 231 0 0) (nI j) (-1)) 68 j 0 0) 8 (fI C 231 0 0) (nI j) (-1) := by
    rw [tFire, if_pos h, hc, tClose, if_pos]
    · rfl
    · intro t ht
      have ec : jc (tLogS (tJBegin C j 0) 1 (fI C 231 0 0) (nI j) (-1)) j = jc C j := rfl
      rw [ec, hc] at ht
      omega
  have et : tl (sfI (tLogS (tJBegin C j 0) 1 (fI C 231 0 0) (nI j) (-1)) 68 j 0 0) = tl (sfI (fD C j 0) 68 j 0 0) := rfl
  rw [e1]
  refine ⟨fun g x y => ?_, fun i => ?_⟩
  · rw [tLogS_fI, tLogS_fI, et]
    show (if _ then _ else (if _ then _ else (if _ then _ else (if _ then _ else (if _ then _ else _))))) = (if _ then _ else (if _ then _ else (if _ then _ else (if _ then _ else _))))
    repeat' split
    all_goals first | rfl | (exfalso; omega)
  · rw [tLogS_13, tLogS_13, et]
    rfl
set_option maxRecDepth 100000 in
set_option maxHeartbeats 2000000 in
theorem kX8_fire {E : gE} {S : gS} {C : gS} {j : Nat} {Q : Option gV → gS → Prop} (hM : ModS S) (hR : R0 C S) (hj : j < jn C) (hb : tl C + 8 < 2 ^ 30) (hQ : ∀ T', R0 (tFire C j) T' → mK S T' → Q none T') : gRun E mX8_fire 2 0 0 [vR 8 0 0, vI (nI j)] S [] Q := by
  refine gRun_of (ls := [some (vR 8 0 0), some (vI (nI j)), none]) rfl (Nat.le_of_ble_eq_true rfl) rfl (fun ad => ?_)
  have hj6 := hR.j6
  have hc6 := hR.c6 hj
  obtain ⟨q1, q2, q3, q4, q5, q6⟩ := hR.jb hj
  obtain ⟨l8, l20, l21, l22, l23, l24, l25, l26, l27, l28, l29, l30, l31, l32, l33, l34, l35, r262, r265, r266, r267, r268, r269, r270, r271, r272, r273, r274, r275, r276, r277, r278, r280⟩ := id hM
  by_cases hz : fI C 68 j 0 = 0
  · have hR2 : R0 (sfI C 69 j 0 (fI C 69 j 0 + 1)) (saI S 26 0 j (fI C 69 j 0 + 1)) := by
      refine hR.job hj (tKeep_sfI rfl) (mK_saI rfl) rfl rfl rfl rfl (fun g j' t' h8 h9 hn => tPair (fun z => hn (by omega))) (fun k i h8 h9 hn => aPair (fun z => hn (by omega))) ⟨q3, q4, aI_at.trans fI_at.symm, q6⟩
    have gD : ∀ n, tGo d0 1 C (fD C j n) := fun n => ((tGo_sfI rfl (by decide)).tr tLogS_go).tr (tAllB_go _ j n)
    have hnD : fI (fD C j (jc C j)) 231 0 0 = fI C 231 0 0 := (gD _).1.2.2.2.2.1 231 0 0 rfl
    have etD : tl (fD C j (jc C j)) = tl C + 1 := by
      unfold tl
      rw [fD, tAllB_fI, if_neg (by omega), if_neg (by omega), show fI (tLogS (sfI C 69 j 0 (fI C 69 j 0 + 1)) 1 (fI C 231 0 0) (nI j) (-1)) 97 0 0 = nI (tl C + 1) from rfl, nI_clamp (by omega)]
      rfl
    have LP : ∀ (k i : Nat) (T : gS) (_ : i + k = jc C j) (hS : R0 (fD C j i) T) (mT : mK S T), gG E mX8_fire (gBof 2 0 0 ad [] Q) 57 [some (vR 8 0 0), some (vI (nI j)), some (vI (nI (6 * j + i)))] [] T 0 0 := by
      intro k
      induction k with
      | zero =>
        intro i T hk hS mT
        have e : i = jc C j := by omega
        subst e
        have hMT := hM.mk mT
        obtain ⟨l8, l20, l21, l22, l23, l24, l25, l26, l27, l28, l29, l30, l31, l32, l33, l34, l35, r262, r265, r266, r267, r268, r269, r270, r271, r272, r273, r274, r275, r276, r277, r278, r280⟩ := id hMT
        have hjD : j < jn (fD C j (jc C j)) := by rw [jn_go (gD _)]; exact hj
        have ecD := jc_go (gD (jc C j)) j
        rcases Nat.eq_zero_or_pos (jc C j) with hc1 | hc0
        · skip
          refine g_iload_n (pc' := 58) dX8_fire_57 rfl rfl ?_
          refine g_bipush (pc' := 60) (v := 6) dX8_fire_58 rfl rfl ?_
          refine g_iload_n (pc' := 61) dX8_fire_60 rfl rfl ?_
          refine g_imul (pc' := 62) dX8_fire_61 rfl ?_
          rw [show (6 : Int32) = nI 6 from rfl, pk_mul]
          refine g_aload_n (pc' := 63) dX8_fire_62 rfl rfl ?_
          refine ggX8_29 (pc' := 66) rfl dX8_fire_63 rfl l8 r268 ?_
          refine g_iload_n (pc' := 67) dX8_fire_66 rfl rfl ?_
          refine g_iald (pc' := 68) (n := j) dX8_fire_67 rfl (by decide) rfl rfl (show j < 6 by omega) l24 ?_
          rw [hS.sz hjD]
          refine g_iadd (pc' := 69) dX8_fire_68 rfl ?_
          rw [nI_add]
          refine g_icmp_ge dX8_fire_69 (tg := 92) (pc' := 72) (by decide) rfl (fun h69 => ?_) (fun h69 => absurd (by rw [nI_leI (by omega) (by omega)]; omega) h69)
          refine g_aload_n (pc' := 93) dX8_fire_92 rfl rfl ?_
          refine ggX8_32 (pc' := 96) rfl dX8_fire_93 rfl l8 r269 ?_
          refine g_iload_n (pc' := 97) dX8_fire_96 rfl rfl ?_
          refine g_aload_n (pc' := 98) dX8_fire_97 rfl rfl ?_
          refine ggX8_29 (pc' := 101) rfl dX8_fire_98 rfl l8 r268 ?_
          refine g_iload_n (pc' := 102) dX8_fire_101 rfl rfl ?_
          refine g_iald (pc' := 103) (n := j) dX8_fire_102 rfl (by decide) rfl rfl (show j < 6 by omega) l24 ?_
          rw [hS.sz hjD]
          refine g_if_le dX8_fire_103 (tg := 110) (pc' := 106) (by decide) rfl (fun h103 => ?_) (fun h103 => absurd (by rw [show (0 : Int32) = nI 0 from rfl, nI_leI (by omega) (by decide)]; omega) h103)
          refine g_iconst (pc' := 111) (v := 0) dX8_fire_110 rfl rfl ?_
          refine g_zast (pc' := 112) (n := j) dX8_fire_111 rfl (by decide) rfl rfl (show j < 6 by omega) l25 rfl ?_
          refine g_aload_n (pc' := 113) dX8_fire_112 rfl rfl ?_
          refine ggX8_32 (pc' := 116) rfl dX8_fire_113 rfl l8 r269 ?_
          refine g_iload_n (pc' := 117) dX8_fire_116 rfl rfl ?_
          refine g_zald (pc' := 118) (n := j) dX8_fire_117 rfl (by decide) rfl rfl (show j < 6 by omega) l25 ?_
          rw [aI_at]
          refine g_if_ne dX8_fire_118 (tg := 129) (pc' := 121) (by decide) rfl (fun h118 => absurd rfl h118) (fun h118 => ?_)
          refine g_aload_n (pc' := 122) dX8_fire_121 rfl rfl ?_
          refine g_bipush (pc' := 124) (v := 8) dX8_fire_122 rfl rfl ?_
          refine g_iload_n (pc' := 125) dX8_fire_124 rfl rfl ?_
          refine g_iconst (pc' := 126) (v := (-1)) dX8_fire_125 rfl rfl ?_
          refine gcv3 (pc' := 129) cwX8_176 cf8 dX8_fire_126 rfl l8 (Nat.le_of_ble_eq_true rfl) (Nat.le_of_ble_eq_true rfl) (Nat.le_of_ble_eq_true rfl) (Nat.le_of_ble_eq_true rfl) (Nat.le_of_ble_eq_true rfl) (kX8_note (n := tl (fD C j (jc C j))) (hMT.of rfl rfl) hS.tot (by omega) ?_)
          refine g_vret dX8_fire_129 rfl (Nat.le_of_ble_eq_true rfl) (Nat.le_of_ble_eq_true rfl) ?_
          have h9 := R0.note (k := 8) (m := fI C 231 0 0) (j := nI j) (t := -1) (hS.run hjD (v := 0) (Or.inl rfl)) (by show tl (fD C j (jc C j)) + 1 < _; omega)
          rw [show fI (saI T 25 0 j 0) 257 0 0 = fI C 231 0 0 from hS.now.trans hnD]
          refine hQ _ (R0.congr (C := tLogS (sfI (fD C j 0) 68 j 0 0) 8 (fI C 231 0 0) (nI j) (-1)) ?_ (fire_zero hz hc1).1 (fire_zero hz hc1).2) (mT.tr ((mK_saI rfl).tr tLM_mK))
          have e9 : fD C j (jc C j) = fD C j 0 := by rw [hc1]
          rw [e9] at h9 ⊢
          exact h9
        · skip
          refine g_iload_n (pc' := 58) dX8_fire_57 rfl rfl ?_
          refine g_bipush (pc' := 60) (v := 6) dX8_fire_58 rfl rfl ?_
          refine g_iload_n (pc' := 61) dX8_fire_60 rfl rfl ?_
          refine g_imul (pc' := 62) dX8_fire_61 rfl ?_
          rw [show (6 : Int32) = nI 6 from rfl, pk_mul]
          refine g_aload_n (pc' := 63) dX8_fire_62 rfl rfl ?_
          refine ggX8_29 (pc' := 66) rfl dX8_fire_63 rfl l8 r268 ?_
          refine g_iload_n (pc' := 67) dX8_fire_66 rfl rfl ?_
          refine g_iald (pc' := 68) (n := j) dX8_fire_67 rfl (by decide) rfl rfl (show j < 6 by omega) l24 ?_
          rw [hS.sz hjD]
          refine g_iadd (pc' := 69) dX8_fire_68 rfl ?_
          rw [nI_add]
          refine g_icmp_ge dX8_fire_69 (tg := 92) (pc' := 72) (by decide) rfl (fun h69 => ?_) (fun h69 => absurd (by rw [nI_leI (by omega) (by omega)]; omega) h69)
          refine g_aload_n (pc' := 93) dX8_fire_92 rfl rfl ?_
          refine ggX8_32 (pc' := 96) rfl dX8_fire_93 rfl l8 r269 ?_
          refine g_iload_n (pc' := 97) dX8_fire_96 rfl rfl ?_
          refine g_aload_n (pc' := 98) dX8_fire_97 rfl rfl ?_
          refine ggX8_29 (pc' := 101) rfl dX8_fire_98 rfl l8 r268 ?_
          refine g_iload_n (pc' := 102) dX8_fire_101 rfl rfl ?_
          refine g_iald (pc' := 103) (n := j) dX8_fire_102 rfl (by decide) rfl rfl (show j < 6 by omega) l24 ?_
          rw [hS.sz hjD]
          refine g_if_le dX8_fire_103 (tg := 110) (pc' := 106) (by decide) rfl (fun h103 => absurd h103 (by rw [show (0 : Int32) = nI 0 from rfl, nI_leI (by omega) (by decide)]; omega)) (fun h103 => ?_)
          refine g_iconst (pc' := 107) (v := 1) dX8_fire_106 rfl rfl ?_
          refine g_goto dX8_fire_107 (pc' := 111) (by decide) ?_
          refine g_zast (pc' := 112) (n := j) dX8_fire_111 rfl (by decide) rfl rfl (show j < 6 by omega) l25 rfl ?_
          refine g_aload_n (pc' := 113) dX8_fire_112 rfl rfl ?_
          refine ggX8_32 (pc' := 116) rfl dX8_fire_113 rfl l8 r269 ?_
          refine g_iload_n (pc' := 117) dX8_fire_116 rfl rfl ?_
          refine g_zald (pc' := 118) (n := j) dX8_fire_117 rfl (by decide) rfl rfl (show j < 6 by omega) l25 ?_
          rw [aI_at]
          refine g_if_ne dX8_fire_118 (tg := 129) (pc' := 121) (by decide) rfl (fun h118 => ?_) (fun h118 => absurd h118 (by decide))
          refine g_vret dX8_fire_129 rfl (Nat.le_of_ble_eq_true rfl) (Nat.le_of_ble_eq_true rfl) ?_
          have h9 := (hS.run hjD (v := 1) (Or.inr rfl))
          refine hQ _ (h9.congr (fire_pos hz rfl hc0).1 (fire_pos hz rfl hc0).2) (mT.tr (mK_saI rfl))
      | succ k ih =>
        intro i T hk hS mT
        have hMT := hM.mk mT
        obtain ⟨l8, l20, l21, l22, l23, l24, l25, l26, l27, l28, l29, l30, l31, l32, l33, l34, l35, r262, r265, r266, r267, r268, r269, r270, r271, r272, r273, r274, r275, r276, r277, r278, r280⟩ := id hMT
        have hjD : j < jn (fD C j i) := by rw [jn_go (gD _)]; exact hj
        have ecD := jc_go (gD i) j
        refine g_iload_n (pc' := 58) dX8_fire_57 rfl rfl ?_
        refine g_bipush (pc' := 60) (v := 6) dX8_fire_58 rfl rfl ?_
        refine g_iload_n (pc' := 61) dX8_fire_60 rfl rfl ?_
        refine g_imul (pc' := 62) dX8_fire_61 rfl ?_
        rw [show (6 : Int32) = nI 6 from rfl, pk_mul]
        refine g_aload_n (pc' := 63) dX8_fire_62 rfl rfl ?_
        refine ggX8_29 (pc' := 66) rfl dX8_fire_63 rfl l8 r268 ?_
        refine g_iload_n (pc' := 67) dX8_fire_66 rfl rfl ?_
        refine g_iald (pc' := 68) (n := j) dX8_fire_67 rfl (by decide) rfl rfl (show j < 6 by omega) l24 ?_
        rw [hS.sz hjD]
        refine g_iadd (pc' := 69) dX8_fire_68 rfl ?_
        rw [nI_add]
        refine g_icmp_ge dX8_fire_69 (tg := 92) (pc' := 72) (by decide) rfl (fun h69 => absurd h69 (by rw [nI_leI (by omega) (by omega)]; omega)) (fun h69 => ?_)
        refine g_aload_n (pc' := 73) dX8_fire_72 rfl rfl ?_
        refine ggX8_54 (pc' := 76) rfl dX8_fire_73 rfl l8 r276 ?_
        refine g_iload_n (pc' := 77) dX8_fire_76 rfl rfl ?_
        refine g_iconst (pc' := 78) (v := 1) dX8_fire_77 rfl rfl ?_
        refine g_iast (pc' := 79) (n := 6 * j + i) dX8_fire_78 rfl (by decide) rfl rfl (show 6 * j + i < 36 by omega) l32 ?_
        refine g_aload_n (pc' := 80) dX8_fire_79 rfl rfl ?_
        refine ggX8_57 (pc' := 83) rfl dX8_fire_80 rfl l8 r277 ?_
        refine g_iload_n (pc' := 84) dX8_fire_83 rfl rfl ?_
        refine g_iconst (pc' := 85) (v := 0) dX8_fire_84 rfl rfl ?_
        refine g_iast (pc' := 86) (n := 6 * j + i) dX8_fire_85 rfl (by decide) rfl rfl (show 6 * j + i < 36 by omega) l33 ?_
        refine giinc2 (pc' := 89) (c := 1) dX8_fire_86 rfl rfl (Nat.le_of_ble_eq_true rfl) rfl ?_
        refine g_goto dX8_fire_89 (pc' := 57) (by decide) ?_
        rw [nI_1]
        exact ih (i + 1) _ (by omega) (hS.begin hjD (by omega)) (mT.tr ((mK_saI rfl).tr (mK_saI rfl)))
    refine g_aload_n (pc' := 1) dX8_fire_0 rfl rfl ?_
    refine ggX8_32 (pc' := 4) rfl dX8_fire_1 rfl l8 r269 ?_
    refine g_iload_n (pc' := 5) dX8_fire_4 rfl rfl ?_
    refine g_zald (pc' := 6) (n := j) dX8_fire_5 rfl (by decide) rfl rfl (show j < 6 by omega) l25 ?_
    rw [q3]
    refine g_if_eq dX8_fire_6 (tg := 31) (pc' := 9) (by decide) rfl (fun h6 => ?_) (fun h6 => absurd hz h6)
    refine g_aload_n (pc' := 32) dX8_fire_31 rfl rfl ?_
    refine ggX8_36 (pc' := 35) rfl dX8_fire_32 rfl l8 r270 ?_
    refine g_iload_n (pc' := 36) dX8_fire_35 rfl rfl ?_
    refine g_aload_n (pc' := 37) dX8_fire_36 rfl rfl ?_
    refine ggX8_36 (pc' := 40) rfl dX8_fire_37 rfl l8 r270 ?_
    refine g_iload_n (pc' := 41) dX8_fire_40 rfl rfl ?_
    refine g_iald (pc' := 42) (n := j) dX8_fire_41 rfl (by decide) rfl rfl (show j < 6 by omega) l26 ?_
    rw [q5]
    refine g_iconst (pc' := 43) (v := 1) dX8_fire_42 rfl rfl ?_
    refine g_iadd (pc' := 44) dX8_fire_43 rfl ?_
    refine g_iast (pc' := 45) (n := j) dX8_fire_44 rfl (by decide) rfl rfl (show j < 6 by omega) l26 ?_
    refine g_aload_n (pc' := 46) dX8_fire_45 rfl rfl ?_
    refine g_iconst (pc' := 47) (v := 1) dX8_fire_46 rfl rfl ?_
    refine g_iload_n (pc' := 48) dX8_fire_47 rfl rfl ?_
    refine g_iconst (pc' := 49) (v := (-1)) dX8_fire_48 rfl rfl ?_
    refine gcv3 (pc' := 52) cwX8_176 cf8 dX8_fire_49 rfl l8 (Nat.le_of_ble_eq_true rfl) (Nat.le_of_ble_eq_true rfl) (Nat.le_of_ble_eq_true rfl) (Nat.le_of_ble_eq_true rfl) (Nat.le_of_ble_eq_true rfl) (kX8_note (n := tl C) (hM.of rfl rfl) hR.tot (by omega) ?_)
    refine g_bipush (pc' := 54) (v := 6) dX8_fire_52 rfl rfl ?_
    refine g_iload_n (pc' := 55) dX8_fire_54 rfl rfl ?_
    refine g_imul (pc' := 56) dX8_fire_55 rfl ?_
    rw [show (6 : Int32) = nI 6 from rfl, pk_mul]
    refine gistore_n2 (pc' := 57) dX8_fire_56 rfl (Nat.le_of_ble_eq_true rfl) rfl ?_
    rw [show fI (saI S 26 0 j (fI C 69 j 0 + 1)) 257 0 0 = fI C 231 0 0 from hR.now]
    exact LP (jc C j) 0 _ (by omega) (R0.note (S := sfI C 69 j 0 (fI C 69 j 0 + 1)) (k := 1) (m := fI C 231 0 0) (j := nI j) (t := -1) hR2 (by show tl C + 1 < _; omega)) ((mK_saI rfl).tr tLM_mK)
  · have hR1 : R0 (sfI C 70 j 0 (fI C 70 j 0 + 1)) (saI S 27 0 j (fI C 70 j 0 + 1)) := by
      refine hR.job hj (tKeep_sfI rfl) (mK_saI rfl) rfl rfl rfl rfl (fun g j' t' h8 h9 hn => tPair (fun z => hn (by omega))) (fun k i h8 h9 hn => aPair (fun z => hn (by omega))) ⟨q3, q4, q5, aI_at.trans fI_at.symm⟩
    refine g_aload_n (pc' := 1) dX8_fire_0 rfl rfl ?_
    refine ggX8_32 (pc' := 4) rfl dX8_fire_1 rfl l8 r269 ?_
    refine g_iload_n (pc' := 5) dX8_fire_4 rfl rfl ?_
    refine g_zald (pc' := 6) (n := j) dX8_fire_5 rfl (by decide) rfl rfl (show j < 6 by omega) l25 ?_
    rw [q3]
    refine g_if_eq dX8_fire_6 (tg := 31) (pc' := 9) (by decide) rfl (fun h6 => absurd h6 hz) (fun h6 => ?_)
    refine g_aload_n (pc' := 10) dX8_fire_9 rfl rfl ?_
    refine ggX8_39 (pc' := 13) rfl dX8_fire_10 rfl l8 r271 ?_
    refine g_iload_n (pc' := 14) dX8_fire_13 rfl rfl ?_
    refine g_aload_n (pc' := 15) dX8_fire_14 rfl rfl ?_
    refine ggX8_39 (pc' := 18) rfl dX8_fire_15 rfl l8 r271 ?_
    refine g_iload_n (pc' := 19) dX8_fire_18 rfl rfl ?_
    refine g_iald (pc' := 20) (n := j) dX8_fire_19 rfl (by decide) rfl rfl (show j < 6 by omega) l27 ?_
    rw [q6]
    refine g_iconst (pc' := 21) (v := 1) dX8_fire_20 rfl rfl ?_
    refine g_iadd (pc' := 22) dX8_fire_21 rfl ?_
    refine g_iast (pc' := 23) (n := j) dX8_fire_22 rfl (by decide) rfl rfl (show j < 6 by omega) l27 ?_
    refine g_aload_n (pc' := 24) dX8_fire_23 rfl rfl ?_
    refine g_iconst (pc' := 25) (v := 2) dX8_fire_24 rfl rfl ?_
    refine g_iload_n (pc' := 26) dX8_fire_25 rfl rfl ?_
    refine g_iconst (pc' := 27) (v := (-1)) dX8_fire_26 rfl rfl ?_
    refine gcv3 (pc' := 30) cwX8_176 cf8 dX8_fire_27 rfl l8 (Nat.le_of_ble_eq_true rfl) (Nat.le_of_ble_eq_true rfl) (Nat.le_of_ble_eq_true rfl) (Nat.le_of_ble_eq_true rfl) (Nat.le_of_ble_eq_true rfl) (kX8_note (n := tl C) (hM.of rfl rfl) hR.tot (by omega) ?_)
    refine g_vret dX8_fire_30 rfl (Nat.le_of_ble_eq_true rfl) (Nat.le_of_ble_eq_true rfl) ?_
    rw [show fI (saI S 27 0 j (fI C 70 j 0 + 1)) 257 0 0 = fI C 231 0 0 from hR.now]
    refine hQ _ ?_ ((mK_saI rfl).tr tLM_mK)
    rw [tFire, if_neg hz]
    exact R0.note (S := sfI C 70 j 0 (fI C 70 j 0 + 1)) (k := 2) (m := fI C 231 0 0) (j := nI j) (t := -1) hR1 (by show tl C + 1 < _; omega)

