/-! THE CLASS (9): a step, the first minute behind, what was missed -/
noncomputable def tHF (S : gS) (j m : Nat) : gS := if eHolds S j m = true then tFire (tHS S j m) j else tHS S j m
noncomputable def tSJ (m : Nat) : Nat → gS → gS
  | 0, S => S
  | n + 1, S => tHF (tSJ m n S) n m
noncomputable def tStep (S : gS) : Nat × gS := tStartS (tSJ ((fI S 231 0 0).toNatClampNeg + 1) (jn S) (sfI S 231 0 0 (fI S 231 0 0 + 1)))
theorem tHF_go {S : gS} {j m : Nat} : tGo d1 2 S (tHF S j m) := by
  unfold tHF
  split
  · exact (tHS_go.tr (tFire_go.up (Nat.le_refl _) (fun _ z => d01 z))).le (by decide)
  · exact tHS_go.le (by decide)
theorem tSJ_go {m : Nat} : ∀ (n : Nat) (S : gS), tGo d1 (2 * n) S (tSJ m n S)
  | 0, _ => tGo.rf
  | n + 1, S => ((tSJ_go n S).tr tHF_go).le (by omega)
theorem tHS_day {S : gS} {j m : Nat} (hm : m < 20000000) (h : ∃ w, DayOk S w) : ∃ w, DayOk (tHS S j m) w := by
  unfold tHS
  split
  · exact ⟨m / 1440, tTurn_ok (by omega)⟩
  · exact h
theorem tHF_day {S : gS} {j m : Nat} (hm : m < 20000000) (h : ∃ w, DayOk S w) : ∃ w, DayOk (tHF S j m) w := by
  unfold tHF
  have h1 := tHS_day (j := j) hm h
  split
  · obtain ⟨w, hw⟩ := h1
    exact ⟨w, hw.keep tFire_go⟩
  · exact h1
theorem tSJ_day {m : Nat} (hm : m < 20000000) : ∀ (n : Nat) (S : gS) (_ : ∃ w, DayOk S w), ∃ w, DayOk (tSJ m n S) w
  | 0, _, h => h
  | n + 1, S, h => tHF_day hm (tSJ_day hm n S h)
theorem slN_keep {d : Nat → Bool} {S S' : gS} (h : tKeep d S S') (hd : d 230 = false) : slN S' = slN S := by rw [slN, slN, h.2.2.2.2.1 230 0 0 hd]
theorem tStep_go {S : gS} (hn6 : jn S ≤ 6) (h6 : slN S ≤ 6) : tGo d2 18 S (tStep S).2 := by
  have h1 : tGo d2 0 S (sfI S 231 0 0 (fI S 231 0 0 + 1)) := tGo_sfI rfl (by decide)
  have h2 := tSJ_go (m := (fI S 231 0 0).toNatClampNeg + 1) (jn S) (sfI S 231 0 0 (fI S 231 0 0 + 1))
  have h3 := tStartS_go (S := tSJ ((fI S 231 0 0).toNatClampNeg + 1) (jn S) (sfI S 231 0 0 (fI S 231 0 0 + 1))) (by rw [slN_keep h2.1 rfl]; exact h6)
  exact ((h1.tr (h2.up (Nat.le_refl _) (fun _ z => d12 z))).tr (h3.up (Nat.le_refl _) (fun _ z => d12 (d01 z)))).le (by omega)
theorem tStep_day {S : gS} (hm : (fI S 231 0 0).toNatClampNeg + 1 < 20000000) (h6 : slN S ≤ 6) (h : ∃ w, DayOk S w) : ∃ w, DayOk (tStep S).2 w := by
  obtain ⟨w, hw⟩ := tSJ_day hm (jn S) (sfI S 231 0 0 (fI S 231 0 0 + 1)) h
  have h2 := tSJ_go (m := (fI S 231 0 0).toNatClampNeg + 1) (jn S) (sfI S 231 0 0 (fI S 231 0 0 + 1))
  exact ⟨w, hw.keep (tStartS_go (by rw [slN_keep h2.1 rfl]; exact h6))⟩
theorem fT_spec (p : Nat → Bool) : ∀ k t, (fT p k t = -1 ∧ ∀ i, t ≤ i → i < t + k → p i = false) ∨ ∃ f, t ≤ f ∧ f < t + k ∧ p f = true ∧ (∀ i, t ≤ i → i < f → p i = false) ∧ fT p k t = nI f
  | 0, t => Or.inl ⟨rfl, fun i h1 h2 => by omega⟩
  | k + 1, t => by
    unfold fT
    split
    · rename_i h
      exact Or.inr ⟨t, Nat.le_refl _, by omega, h, fun i h1 h2 => by omega, rfl⟩
    · rename_i h
      have h : p t = false := by simpa using h
      have hh : ∀ {q : Nat} {i : Nat}, (∀ i, t + 1 ≤ i → i < q → p i = false) → t ≤ i → i < q → p i = false := fun {q i} hq h3 h4 => by
        rcases Nat.eq_or_lt_of_le h3 with e | e
        · rw [← e]; exact h
        · exact hq i e h4
      rcases fT_spec p k (t + 1) with ⟨h1, h2⟩ | ⟨f, h1, h2, h3, h4, h5⟩
      · exact Or.inl ⟨h1, fun i h3 h4 => hh h2 h3 (by omega)⟩
      · exact Or.inr ⟨f, by omega, by omega, h3, fun i h6 h7 => hh h4 h6 h7, h5⟩
theorem fT_no {p : Nat → Bool} {k t : Nat} (h : ∀ i, t ≤ i → i < t + k → p i = false) : fT p k t = -1 := by
  rcases fT_spec p k t with ⟨h1, -⟩ | ⟨f, h1, h2, h3, -, -⟩
  · exact h1
  · rw [h f h1 h2] at h3; cases h3
theorem fT_at {p : Nat → Bool} {k t f : Nat} (h1 : t ≤ f) (h2 : f < t + k) (h3 : p f = true) (h : ∀ i, t ≤ i → i < f → p i = false) : fT p k t = nI f := by
  rcases fT_spec p k t with ⟨-, h4⟩ | ⟨g, g1, g2, g3, g4, g5⟩
  · rw [h4 f h1 h2] at h3; cases h3
  · rcases Nat.lt_trichotomy f g with q | q | q
    · rw [g4 f h1 q] at h3; cases h3
    · rw [g5, q]
    · rw [h g g1 q] at g3; cases g3
theorem fT_skip {p : Nat → Bool} {t : Nat} : ∀ (a k : Nat) (_ : ∀ i, t ≤ i → i < t + a → p i = false), fT p (a + k) t = fT p k (t + a)
  | 0, k, _ => by rw [Nat.zero_add, Nat.add_zero]
  | a + 1, k, h => by
    have h1 := fT_skip (p := p) (t := t) a (k + 1) (fun i h1 h2 => h i h1 (by omega))
    rw [show a + 1 + k = a + (k + 1) by omega, h1]
    show (if p (t + a) = true then nI (t + a) else fT p k (t + a + 1)) = fT p k (t + (a + 1))
    rw [if_neg (by rw [h (t + a) (by omega) (by omega)]; decide)]
    rfl
theorem tTurn_tTurn {S : gS} {v w : Nat} : tTurn (tTurn S v) w = tTurn S w := tTurn_ext rfl (fun g j t => by
  simp only [tTurn, fI_sfI]
  repeat' split
  all_goals first | rfl | (exfalso; omega))
set_option maxRecDepth 100000 in
set_option maxHeartbeats 2000000 in
theorem kX7_makeStep {E : gE} {S : gS} {m x : Nat} {Q : Option gV → gS → Prop} (hD : DeskOk S) (hd : ∃ w, DayOk S w) (hm : fI S 231 0 0 = nI m) (hm2 : m + 1 < 20000000) (hs : fI S 230 0 0 = nI (slN S)) (hs6 : slN S ≤ 6) (hx : fI S 97 0 0 = nI x) (hb : x + 18 < 2 ^ 30) (hQ : Q (some (vI (nI (tStep S).1))) (tStep S).2) : gRun E mX7_makeStep 6 0 0 [vR 7 0 0] S [] Q := by
  refine gRun_of (ls := [some (vR 7 0 0), none]) rfl (Nat.le_of_ble_eq_true rfl) rfl (fun ad => ?_)
  obtain ⟨l7, l4, l6, l0, l3, l10, l11, l13, l14, r224, r225, r226, r227, r128, r129, r192, r96⟩ := id hD.1
  have hn := hD.2.1
  have hn6 := hD.2.2.1
  have hmc : (fI S 231 0 0).toNatClampNeg = m := by rw [hm, nI_clamp (by omega)]
  rw [tStep, hmc, hm, nI_1] at hQ
  have g0 : tGo d2 0 S (sfI S 231 0 0 (nI (m + 1))) := tGo_sfI rfl (by decide)
  have hD1 := hD.keep g0.1
  have L : ∀ k i : Nat, i + k = jn S → gG E mX7_makeStep (gBof 6 0 0 ad [] Q) 12 [some (vR 7 0 0), some (vI (nI i))] [] (tSJ (m + 1) i (sfI S 231 0 0 (nI (m + 1)))) 0 0 := by
    intro k
    induction k with
    | zero =>
      intro i hk
      have e : i = jn S := by omega
      subst e
      have g1 := tSJ_go (m := m + 1) (jn S) (sfI S 231 0 0 (nI (m + 1)))
      have hDT := hD1.go1 g1
      have hnT : fI (tSJ (m + 1) (jn S) (sfI S 231 0 0 (nI (m + 1)))) 228 0 0 = nI (jn S) := (g1.1.2.2.2.2.1 228 0 0 rfl).trans hn
      have hslT : slN (tSJ (m + 1) (jn S) (sfI S 231 0 0 (nI (m + 1)))) = slN S := (slN_keep (d := d1) g1.1 rfl).trans rfl
      have hsT : fI (tSJ (m + 1) (jn S) (sfI S 231 0 0 (nI (m + 1)))) 230 0 0 = nI (slN (tSJ (m + 1) (jn S) (sfI S 231 0 0 (nI (m + 1))))) := by rw [hslT]; exact (g1.1.2.2.2.2.1 230 0 0 rfl).trans hs
      obtain ⟨y, hy1, hy2, hy3⟩ := g1.2 x hx (by omega)
      generalize tSJ (m + 1) (jn S) (sfI S 231 0 0 (nI (m + 1))) = T at *
      obtain ⟨l7, l4, l6, l0, l3, l10, l11, l13, l14, r224, r225, r226, r227, r128, r129, r192, r96⟩ := id hDT.1
      refine g_iload_n (pc' := 13) dX7_makeStep_12 rfl rfl ?_
      refine g_aload_n (pc' := 14) dX7_makeStep_13 rfl rfl ?_
      refine ggX7_36 (pc' := 17) rfl dX7_makeStep_14 rfl l7 ?_
      refine g_icmp_ge dX7_makeStep_17 (tg := 51) (pc' := 20) (by decide) rfl (fun h17 => ?_) (fun h17 => absurd (by rw [hnT, nI_leI (by omega) (by omega)]; omega) h17)
      refine g_aload_n (pc' := 52) dX7_makeStep_51 rfl rfl ?_
      refine gcv0 (pc' := 55) cwX7_206 cf7 dX7_makeStep_52 rfl l7 (Nat.le_of_ble_eq_true rfl) (Nat.le_of_ble_eq_true rfl) (Nat.le_of_ble_eq_true rfl) (Nat.le_of_ble_eq_true rfl) (Nat.le_of_ble_eq_true rfl) (kX7_startTasks (x := y) hDT hsT (by rw [hslT]; exact hs6) hy1 (by omega) ?_)
      refine g_iret dX7_makeStep_55 rfl rfl (Nat.le_of_ble_eq_true rfl) (Nat.le_of_ble_eq_true rfl) ?_
      exact hQ
    | succ k ih =>
      intro i hk
      have g1 := tSJ_go (m := m + 1) i (sfI S 231 0 0 (nI (m + 1)))
      have hDT := hD1.go1 g1
      have hnT : fI (tSJ (m + 1) i (sfI S 231 0 0 (nI (m + 1)))) 228 0 0 = nI (jn S) := (g1.1.2.2.2.2.1 228 0 0 rfl).trans hn
      have hmT : fI (tSJ (m + 1) i (sfI S 231 0 0 (nI (m + 1)))) 231 0 0 = nI (m + 1) := g1.1.2.2.2.2.1 231 0 0 rfl
      obtain ⟨w, hw⟩ := tSJ_day hm2 i (sfI S 231 0 0 (nI (m + 1))) hd
      obtain ⟨y, hy1, hy2, hy3⟩ := g1.2 x hx (by omega)
      have fin : ∀ T', tHF (tSJ (m + 1) i (sfI S 231 0 0 (nI (m + 1)))) i (m + 1) = T' → gG E mX7_makeStep (gBof 6 0 0 ad [] Q) 12 [some (vR 7 0 0), some (vI (nI (i + 1)))] [] T' 0 0 := fun T' e => by rw [← e]; exact ih (i + 1) (by omega)
      have hjT : jn (tSJ (m + 1) i (sfI S 231 0 0 (nI (m + 1)))) = jn S := by rw [jn, hnT, nI_clamp (by omega)]
      clear ih
      generalize tSJ (m + 1) i (sfI S 231 0 0 (nI (m + 1))) = T at *
      have gH := tHS_go (S := T) (j := i) (m := m + 1)
      have hDH := hDT.go1 gH
      have hjH : i < jn (tHS T i (m + 1)) := by rw [jn, gH.1.2.2.2.2.1 228 0 0 rfl, hnT, nI_clamp (by omega)]; omega
      obtain ⟨z, hz1, hz2, hz3⟩ := gH.2 y hy1 (by omega)
      obtain ⟨l7, l4, l6, l0, l3, l10, l11, l13, l14, r224, r225, r226, r227, r128, r129, r192, r96⟩ := id hDT.1
      refine g_iload_n (pc' := 13) dX7_makeStep_12 rfl rfl ?_
      refine g_aload_n (pc' := 14) dX7_makeStep_13 rfl rfl ?_
      refine ggX7_36 (pc' := 17) rfl dX7_makeStep_14 rfl l7 ?_
      refine g_icmp_ge dX7_makeStep_17 (tg := 51) (pc' := 20) (by decide) rfl (fun h17 => absurd h17 (by rw [hnT, nI_leI (by omega) (by omega)]; omega)) (fun h17 => ?_)
      obtain ⟨hJ, ra, l1, l12, r65, r32⟩ := hDT.2.2.2 i (by omega)
      have l2 := hJ.1
      refine g_aload_n (pc' := 21) dX7_makeStep_20 rfl rfl ?_
      refine g_aload_n (pc' := 22) dX7_makeStep_21 rfl rfl ?_
      refine ggX7_32 (pc' := 25) rfl dX7_makeStep_22 rfl l7 r227 ?_
      refine g_iload_n (pc' := 26) dX7_makeStep_25 rfl rfl ?_
      refine g_aaldJ (pc' := 27) (n := i) dX7_makeStep_26 rfl (by decide) rfl rfl (show i < 6 by omega) l14 ra ?_
      refine ggX7_114 (pc' := 30) rfl dX7_makeStep_27 rfl l2 r65 ?_
      refine g_aload_n (pc' := 31) dX7_makeStep_30 rfl rfl ?_
      refine ggX7_46 (pc' := 34) rfl dX7_makeStep_31 rfl l7 ?_
      rw [hmT]
      refine gcv2 (pc' := 37) cwX7_117 cf7 dX7_makeStep_34 rfl l7 (Nat.le_of_ble_eq_true rfl) (Nat.le_of_ble_eq_true rfl) (Nat.le_of_ble_eq_true rfl) (Nat.le_of_ble_eq_true rfl) (Nat.le_of_ble_eq_true rfl) (kX7_holdsAt (w := w) l7 r225 l0 l1 l12 r32 hw hm2 ?_)
      refine g_if_eq dX7_makeStep_37 (tg := 45) (pc' := 40) (by decide) rfl (fun h37 => ?_) (fun h37 => ?_)
      · refine giinc1 (pc' := 48) (c := 1) dX7_makeStep_45 rfl rfl (Nat.le_of_ble_eq_true rfl) rfl ?_
        refine g_goto dX7_makeStep_48 (pc' := 12) (by decide) ?_
        rw [nI_1]
        rw [bI_f] at h37
        exact fin _ (by first | exact (if_neg (by rw [h37]; decide)).trans rfl | exact (if_pos (by simpa using h37)).trans rfl)
      · obtain ⟨l7, l4, l6, l0, l3, l10, l11, l13, l14, r224, r225, r226, r227, r128, r129, r192, r96⟩ := id hDH.1
        refine g_aload_n (pc' := 41) dX7_makeStep_40 rfl rfl ?_
        refine g_iload_n (pc' := 42) dX7_makeStep_41 rfl rfl ?_
        refine gcv1 (pc' := 45) cwX7_203 cf7 dX7_makeStep_42 rfl l7 (Nat.le_of_ble_eq_true rfl) (Nat.le_of_ble_eq_true rfl) (Nat.le_of_ble_eq_true rfl) (Nat.le_of_ble_eq_true rfl) (Nat.le_of_ble_eq_true rfl) (kX7_fire (x := z) hDH hjH hz1 (by omega) ?_)
        refine giinc1 (pc' := 48) (c := 1) dX7_makeStep_45 rfl rfl (Nat.le_of_ble_eq_true rfl) rfl ?_
        refine g_goto dX7_makeStep_48 (pc' := 12) (by decide) ?_
        rw [nI_1]
        rw [bI_f] at h37
        exact fin _ (by first | exact (if_neg (by rw [h37]; decide)).trans rfl | exact (if_pos (by simpa using h37)).trans rfl)
  refine g_aload_n (pc' := 1) dX7_makeStep_0 rfl rfl ?_
  refine g_dup (pc' := 2) dX7_makeStep_1 rfl rfl ?_
  refine ggX7_46 (pc' := 5) rfl dX7_makeStep_2 rfl l7 ?_
  rw [hm]
  refine g_iconst (pc' := 6) (v := 1) dX7_makeStep_5 rfl rfl ?_
  refine g_iadd (pc' := 7) dX7_makeStep_6 rfl ?_
  refine gpX7_46 (pc' := 10) rfl dX7_makeStep_7 rfl l7 ?_
  refine g_iconst (pc' := 11) (v := 0) dX7_makeStep_10 rfl rfl ?_
  refine gistore_n1 (pc' := 12) dX7_makeStep_11 rfl (Nat.le_of_ble_eq_true rfl) rfl ?_
  rw [nI_1]
  exact L (jn S) 0 (by omega)

set_option maxRecDepth 100000 in
set_option maxHeartbeats 2000000 in
theorem kX7_firstBehind {E : gE} {S : gS} {j m l w0 : Nat} {Q : Option gV → gS → Prop} (l7 : lv S 7 0 0) (r225 : fR S 225 0 0 = some (0, 0, 0)) (l0 : lv S 0 0 0) (l1 : lv S 1 j 0) (l12 : lv S 12 j 0) (r32 : fR S 32 j 0 = some (12, j, 0)) (hd : DayOk S w0) (hm : m ≤ l) (hl : l < 20000000) (hQ : ∀ T : gS, (T = S ∨ ∃ w, w < 13889 ∧ T = tTurn S w) → Q (some (vI (fT (eHolds S j) (l - m) (m + 1)))) T) : gRun E mX7_firstBehind 5 0 0 [vR 7 0 0, vR 1 j 0, vI (nI m), vI (nI l)] S [] Q := by
  refine gRun_of (ls := [some (vR 7 0 0), some (vR 1 j 0), some (vI (nI m)), some (vI (nI l)), none, none, none, none, none]) rfl (Nat.le_of_ble_eq_true rfl) rfl (fun ad => ?_)
  have L : ∀ (k n t : Nat) (_ : n + k = l / 1440 + 1) (_ : t < 1440) (T : gS) (hT : T = S ∨ ∃ w, w < 13889 ∧ T = tTurn S w) (hv : fT (eHolds S j) (l + 1 - (n * 1440 + t)) (n * 1440 + t) = fT (eHolds S j) (l - m) (m + 1)) (w7 w8 : Option gV), gG E mX7_firstBehind (gBof 5 0 0 ad [] Q) 21 [some (vR 7 0 0), some (vR 1 j 0), some (vI (nI m)), some (vI (nI l)), some (vI (nI (m + 1))), some (vI (nI t)), some (vI (nI n)), w7, w8] [] T 0 0 := by
    intro k
    induction k with
    | zero =>
      intro n t hk ht T hT hv w7 w8
      refine g_iload (pc' := 23) dX7_firstBehind_21 rfl rfl ?_
      refine g_iload_n (pc' := 24) dX7_firstBehind_23 rfl rfl ?_
      refine g_sipush (pc' := 27) (v := 1440) dX7_firstBehind_24 rfl rfl ?_
      refine g_idiv (pc' := 28) dX7_firstBehind_27 rfl (by decide) ?_
      rw [show (1440 : Int32) = nI 1440 from rfl, pk_div (by omega) (by decide) (by decide)]
      refine g_icmp_gt dX7_firstBehind_28 (tg := 102) (pc' := 31) (by decide) rfl (fun h28 => ?_) (fun h28 => absurd (by rw [nI_ltI (by omega) (by omega)]; omega) h28)
      refine g_iconst (pc' := 103) (v := (-1)) dX7_firstBehind_102 rfl rfl ?_
      refine g_iret dX7_firstBehind_103 rfl rfl (Nat.le_of_ble_eq_true rfl) (Nat.le_of_ble_eq_true rfl) ?_
      exact gq (hQ T hT) (by rw [← hv, show l + 1 - (n * 1440 + t) = 0 by omega]; rfl)
    | succ k ih =>
      intro n t hk ht T hT hv w7 w8
      have hTn : tTurn T n = tTurn S n := by
        rcases hT with rfl | ⟨w, -, rfl⟩
        · rfl
        · exact tTurn_tTurn
      obtain ⟨w, hw⟩ : ∃ w, DayOk T w := by
        rcases hT with rfl | ⟨w, hw, rfl⟩
        · exact ⟨w0, hd⟩
        · exact ⟨w, tTurn_ok hw⟩
      have lT : lv T 0 0 0 := by
        rcases hT with rfl | ⟨w, hw, rfl⟩
        · exact l0
        · exact l0
      have l7S : lv S 7 0 0 := l7
      have l7 : lv T 7 0 0 := by
        rcases hT with rfl | ⟨w, hw, rfl⟩
        · exact l7
        · exact l7
      have rT : fR T 225 0 0 = some (0, 0, 0) := by
        rcases hT with rfl | ⟨w, hw, rfl⟩
        · exact r225
        · exact r225
      clear hT
      have hsk : (∀ i, t ≤ i → i < 1440 → eHolds S j (n * 1440 + i) = false) → fT (eHolds S j) (l + 1 - ((n + 1) * 1440 + 0)) ((n + 1) * 1440 + 0) = fT (eHolds S j) (l + 1 - (n * 1440 + t)) (n * 1440 + t) := fun h => by
        rcases Nat.lt_or_ge l ((n + 1) * 1440) with q | q
        · rw [show l + 1 - ((n + 1) * 1440 + 0) = 0 by omega]
          exact (fT_no (fun i h1 h2 => by
            have := h (i - n * 1440) (by omega) (by omega)
            rw [show n * 1440 + (i - n * 1440) = i by omega] at this
            exact this)).symm
        · have := fT_skip (p := eHolds S j) (t := n * 1440 + t) (1440 - t) (l + 1 - ((n + 1) * 1440 + 0)) (fun i h1 h2 => by
            have := h (i - n * 1440) (by omega) (by omega)
            rw [show n * 1440 + (i - n * 1440) = i by omega] at this
            exact this)
          rw [show l + 1 - (n * 1440 + t) = 1440 - t + (l + 1 - ((n + 1) * 1440 + 0)) by omega, this, show n * 1440 + t + (1440 - t) = (n + 1) * 1440 + 0 by omega]
      have hH : ∀ i, i < 1440 → eHolds S j (n * 1440 + i) = (eTime S j i && eDay S j n) := fun i hi => by
        rw [eHolds, show (n * 1440 + i) % 1440 = i by omega, show (n * 1440 + i) / 1440 = n by omega]
      cases hE : eDay S j n with
      | false =>
        have skip := hsk (fun i _ hi => by rw [hH i hi, hE, Bool.and_false])
        replace hE : eDay (tTurn S n) j n = false := hE
        refine g_iload (pc' := 23) dX7_firstBehind_21 rfl rfl ?_
        refine g_iload_n (pc' := 24) dX7_firstBehind_23 rfl rfl ?_
        refine g_sipush (pc' := 27) (v := 1440) dX7_firstBehind_24 rfl rfl ?_
        refine g_idiv (pc' := 28) dX7_firstBehind_27 rfl (by decide) ?_
        rw [show (1440 : Int32) = nI 1440 from rfl, pk_div (by omega) (by decide) (by decide)]
        refine g_icmp_gt dX7_firstBehind_28 (tg := 102) (pc' := 31) (by decide) rfl (fun h28 => absurd h28 (by rw [glt, Decidable.not_not, nI_leI (by omega) (by omega)]; omega)) (fun h28 => ?_)
        refine g_aload_n (pc' := 32) dX7_firstBehind_31 rfl rfl ?_
        refine ggX7_19 (pc' := 35) rfl dX7_firstBehind_32 rfl l7 rT ?_
        refine g_iload (pc' := 37) dX7_firstBehind_35 rfl rfl ?_
        refine gcv1 (pc' := 40) cwX7_126 cf0 dX7_firstBehind_37 rfl lT (Nat.le_of_ble_eq_true rfl) (Nat.le_of_ble_eq_true rfl) (Nat.le_of_ble_eq_true rfl) (Nat.le_of_ble_eq_true rfl) (Nat.le_of_ble_eq_true rfl) (kX0_turnTo (w := w) lT hw (by omega) ?_)
        rw [hTn]
        refine g_aload_n (pc' := 41) dX7_firstBehind_40 rfl rfl ?_
        refine g_aload_n (pc' := 42) dX7_firstBehind_41 rfl rfl ?_
        refine ggX7_19 (pc' := 45) rfl dX7_firstBehind_42 rfl l7S r225 ?_
        refine gcv1 (pc' := 48) cwX7_195 cf1 dX7_firstBehind_45 rfl l1 (Nat.le_of_ble_eq_true rfl) (Nat.le_of_ble_eq_true rfl) (Nat.le_of_ble_eq_true rfl) (Nat.le_of_ble_eq_true rfl) (Nat.le_of_ble_eq_true rfl) (kX1_hasDay (w := n) l1 l12 r32 l0 (tTurn_ok (by omega)) ?_)
        refine g_if_eq dX7_firstBehind_48 (tg := 60) (pc' := 51) (by decide) rfl (fun h48 => ?_) (fun h48 => absurd (bI_f.mpr hE) h48)
        refine g_iconst (pc' := 61) (v := (-1)) dX7_firstBehind_60 rfl rfl ?_
        refine gistore7 (pc' := 63) dX7_firstBehind_61 rfl (Nat.le_of_ble_eq_true rfl) rfl ?_
        refine g_iload (pc' := 65) dX7_firstBehind_63 rfl rfl ?_
        refine g_iconst (pc' := 66) (v := (-1)) dX7_firstBehind_65 rfl rfl ?_
        refine g_icmp_eq dX7_firstBehind_66 (tg := 93) (pc' := 69) (by decide) rfl (fun h66 => ?_) (fun h66 => absurd rfl h66)
        refine g_iconst (pc' := 94) (v := 0) dX7_firstBehind_93 rfl rfl ?_
        refine gistore5 (pc' := 96) dX7_firstBehind_94 rfl (Nat.le_of_ble_eq_true rfl) rfl ?_
        refine giinc6 (pc' := 99) (c := 1) dX7_firstBehind_96 rfl rfl (Nat.le_of_ble_eq_true rfl) rfl ?_
        refine g_goto dX7_firstBehind_99 (pc' := 21) (by decide) ?_
        rw [nI_1]
        exact ih (n + 1) 0 (by omega) (by omega) (tTurn S n) (Or.inr ⟨n, by omega, rfl⟩) (by rw [← hv]; exact skip) _ _
      | true =>
        rcases fT_spec (eTime S j) (1440 - t) t with ⟨hf, h2⟩ | ⟨f, h1, h2, h3, h4, hf⟩
        · have skip := hsk (fun i h3 hi => by rw [hH i hi, h2 i h3 (by omega)]; rfl)
          replace hE : eDay (tTurn S n) j n = true := hE
          replace hf : fT (eTime (tTurn S n) j) (1440 - t) t = -1 := hf
          refine g_iload (pc' := 23) dX7_firstBehind_21 rfl rfl ?_
          refine g_iload_n (pc' := 24) dX7_firstBehind_23 rfl rfl ?_
          refine g_sipush (pc' := 27) (v := 1440) dX7_firstBehind_24 rfl rfl ?_
          refine g_idiv (pc' := 28) dX7_firstBehind_27 rfl (by decide) ?_
          rw [show (1440 : Int32) = nI 1440 from rfl, pk_div (by omega) (by decide) (by decide)]
          refine g_icmp_gt dX7_firstBehind_28 (tg := 102) (pc' := 31) (by decide) rfl (fun h28 => absurd h28 (by rw [glt, Decidable.not_not, nI_leI (by omega) (by omega)]; omega)) (fun h28 => ?_)
          refine g_aload_n (pc' := 32) dX7_firstBehind_31 rfl rfl ?_
          refine ggX7_19 (pc' := 35) rfl dX7_firstBehind_32 rfl l7 rT ?_
          refine g_iload (pc' := 37) dX7_firstBehind_35 rfl rfl ?_
          refine gcv1 (pc' := 40) cwX7_126 cf0 dX7_firstBehind_37 rfl lT (Nat.le_of_ble_eq_true rfl) (Nat.le_of_ble_eq_true rfl) (Nat.le_of_ble_eq_true rfl) (Nat.le_of_ble_eq_true rfl) (Nat.le_of_ble_eq_true rfl) (kX0_turnTo (w := w) lT hw (by omega) ?_)
          rw [hTn]
          refine g_aload_n (pc' := 41) dX7_firstBehind_40 rfl rfl ?_
          refine g_aload_n (pc' := 42) dX7_firstBehind_41 rfl rfl ?_
          refine ggX7_19 (pc' := 45) rfl dX7_firstBehind_42 rfl l7S r225 ?_
          refine gcv1 (pc' := 48) cwX7_195 cf1 dX7_firstBehind_45 rfl l1 (Nat.le_of_ble_eq_true rfl) (Nat.le_of_ble_eq_true rfl) (Nat.le_of_ble_eq_true rfl) (Nat.le_of_ble_eq_true rfl) (Nat.le_of_ble_eq_true rfl) (kX1_hasDay (w := n) l1 l12 r32 l0 (tTurn_ok (by omega)) ?_)
          refine g_if_eq dX7_firstBehind_48 (tg := 60) (pc' := 51) (by decide) rfl (fun h48 => absurd h48 (fun z => by rw [bI_f.mp z] at hE; cases hE)) (fun h48 => ?_)
          refine g_aload_n (pc' := 52) dX7_firstBehind_51 rfl rfl ?_
          refine g_iload (pc' := 54) dX7_firstBehind_52 rfl rfl ?_
          refine gcv1 (pc' := 57) cwX7_199 cf1 dX7_firstBehind_54 rfl l1 (Nat.le_of_ble_eq_true rfl) (Nat.le_of_ble_eq_true rfl) (Nat.le_of_ble_eq_true rfl) (Nat.le_of_ble_eq_true rfl) (Nat.le_of_ble_eq_true rfl) (kX1_firstTime (t := t) l1 l12 r32 (by omega) ?_)
          rw [hf]
          refine g_goto dX7_firstBehind_57 (pc' := 61) (by decide) ?_
          refine gistore7 (pc' := 63) dX7_firstBehind_61 rfl (Nat.le_of_ble_eq_true rfl) rfl ?_
          refine g_iload (pc' := 65) dX7_firstBehind_63 rfl rfl ?_
          refine g_iconst (pc' := 66) (v := (-1)) dX7_firstBehind_65 rfl rfl ?_
          refine g_icmp_eq dX7_firstBehind_66 (tg := 93) (pc' := 69) (by decide) rfl (fun h66 => ?_) (fun h66 => absurd rfl h66)
          refine g_iconst (pc' := 94) (v := 0) dX7_firstBehind_93 rfl rfl ?_
          refine gistore5 (pc' := 96) dX7_firstBehind_94 rfl (Nat.le_of_ble_eq_true rfl) rfl ?_
          refine giinc6 (pc' := 99) (c := 1) dX7_firstBehind_96 rfl rfl (Nat.le_of_ble_eq_true rfl) rfl ?_
          refine g_goto dX7_firstBehind_99 (pc' := 21) (by decide) ?_
          rw [nI_1]
          exact ih (n + 1) 0 (by omega) (by omega) (tTurn S n) (Or.inr ⟨n, by omega, rfl⟩) (by rw [← hv]; exact skip) _ _
        · have hf3 : eHolds S j (n * 1440 + f) = true := by rw [hH f (by omega), h3, hE]; rfl
          have hf4 : ∀ i, n * 1440 + t ≤ i → i < n * 1440 + f → eHolds S j i = false := fun i q1 q2 => by
            have := hH (i - n * 1440) (by omega)
            rw [show n * 1440 + (i - n * 1440) = i by omega] at this
            rw [this, h4 (i - n * 1440) (by omega) (by omega)]
            rfl
          have atl : n * 1440 + f ≤ l → nI (n * 1440 + f) = fT (eHolds S j) (l + 1 - (n * 1440 + t)) (n * 1440 + t) := fun q => (fT_at (by omega) (by omega) hf3 hf4).symm
          have atg : l < n * 1440 + f → -1 = fT (eHolds S j) (l + 1 - (n * 1440 + t)) (n * 1440 + t) := fun q => (fT_no (fun i q1 q2 => hf4 i q1 (by omega))).symm
          replace hE : eDay (tTurn S n) j n = true := hE
          replace hf : fT (eTime (tTurn S n) j) (1440 - t) t = nI f := hf
          refine g_iload (pc' := 23) dX7_firstBehind_21 rfl rfl ?_
          refine g_iload_n (pc' := 24) dX7_firstBehind_23 rfl rfl ?_
          refine g_sipush (pc' := 27) (v := 1440) dX7_firstBehind_24 rfl rfl ?_
          refine g_idiv (pc' := 28) dX7_firstBehind_27 rfl (by decide) ?_
          rw [show (1440 : Int32) = nI 1440 from rfl, pk_div (by omega) (by decide) (by decide)]
          refine g_icmp_gt dX7_firstBehind_28 (tg := 102) (pc' := 31) (by decide) rfl (fun h28 => absurd h28 (by rw [glt, Decidable.not_not, nI_leI (by omega) (by omega)]; omega)) (fun h28 => ?_)
          refine g_aload_n (pc' := 32) dX7_firstBehind_31 rfl rfl ?_
          refine ggX7_19 (pc' := 35) rfl dX7_firstBehind_32 rfl l7 rT ?_
          refine g_iload (pc' := 37) dX7_firstBehind_35 rfl rfl ?_
          refine gcv1 (pc' := 40) cwX7_126 cf0 dX7_firstBehind_37 rfl lT (Nat.le_of_ble_eq_true rfl) (Nat.le_of_ble_eq_true rfl) (Nat.le_of_ble_eq_true rfl) (Nat.le_of_ble_eq_true rfl) (Nat.le_of_ble_eq_true rfl) (kX0_turnTo (w := w) lT hw (by omega) ?_)
          rw [hTn]
          refine g_aload_n (pc' := 41) dX7_firstBehind_40 rfl rfl ?_
          refine g_aload_n (pc' := 42) dX7_firstBehind_41 rfl rfl ?_
          refine ggX7_19 (pc' := 45) rfl dX7_firstBehind_42 rfl l7S r225 ?_
          refine gcv1 (pc' := 48) cwX7_195 cf1 dX7_firstBehind_45 rfl l1 (Nat.le_of_ble_eq_true rfl) (Nat.le_of_ble_eq_true rfl) (Nat.le_of_ble_eq_true rfl) (Nat.le_of_ble_eq_true rfl) (Nat.le_of_ble_eq_true rfl) (kX1_hasDay (w := n) l1 l12 r32 l0 (tTurn_ok (by omega)) ?_)
          refine g_if_eq dX7_firstBehind_48 (tg := 60) (pc' := 51) (by decide) rfl (fun h48 => absurd h48 (fun z => by rw [bI_f.mp z] at hE; cases hE)) (fun h48 => ?_)
          refine g_aload_n (pc' := 52) dX7_firstBehind_51 rfl rfl ?_
          refine g_iload (pc' := 54) dX7_firstBehind_52 rfl rfl ?_
          refine gcv1 (pc' := 57) cwX7_199 cf1 dX7_firstBehind_54 rfl l1 (Nat.le_of_ble_eq_true rfl) (Nat.le_of_ble_eq_true rfl) (Nat.le_of_ble_eq_true rfl) (Nat.le_of_ble_eq_true rfl) (Nat.le_of_ble_eq_true rfl) (kX1_firstTime (t := t) l1 l12 r32 (by omega) ?_)
          rw [hf]
          refine g_goto dX7_firstBehind_57 (pc' := 61) (by decide) ?_
          refine gistore7 (pc' := 63) dX7_firstBehind_61 rfl (Nat.le_of_ble_eq_true rfl) rfl ?_
          refine g_iload (pc' := 65) dX7_firstBehind_63 rfl rfl ?_
          refine g_iconst (pc' := 66) (v := (-1)) dX7_firstBehind_65 rfl rfl ?_
          refine g_icmp_eq dX7_firstBehind_66 (tg := 93) (pc' := 69) (by decide) rfl (fun h66 => absurd h66 (nI_ne1 (by omega))) (fun h66 => ?_)
          refine g_iload (pc' := 71) dX7_firstBehind_69 rfl rfl ?_
          refine g_sipush (pc' := 74) (v := 1440) dX7_firstBehind_71 rfl rfl ?_
          refine g_imul (pc' := 75) dX7_firstBehind_74 rfl ?_
          refine g_iload (pc' := 77) dX7_firstBehind_75 rfl rfl ?_
          refine g_iadd (pc' := 78) dX7_firstBehind_77 rfl ?_
          rw [show (1440 : Int32) = nI 1440 from rfl, pk_mul, nI_add]
          refine gistore8 (pc' := 80) dX7_firstBehind_78 rfl (Nat.le_of_ble_eq_true rfl) rfl ?_
          refine g_iload (pc' := 82) dX7_firstBehind_80 rfl rfl ?_
          refine g_iload_n (pc' := 83) dX7_firstBehind_82 rfl rfl ?_
          refine g_icmp_gt dX7_firstBehind_83 (tg := 91) (pc' := 86) (by decide) rfl (fun h83 => ?_) (fun h83 => ?_)
          · refine g_iconst (pc' := 92) (v := (-1)) dX7_firstBehind_91 rfl rfl ?_
            refine g_iret dX7_firstBehind_92 rfl rfl (Nat.le_of_ble_eq_true rfl) (Nat.le_of_ble_eq_true rfl) ?_
            first
              | exact gq (hQ _ (Or.inr ⟨n, by omega, rfl⟩)) (by rw [← hv]; exact (atl (by rw [← nI_leI (by omega) (by omega)]; exact Int32.not_lt.mp h83)).symm)
              | exact gq (hQ _ (Or.inr ⟨n, by omega, rfl⟩)) (by rw [← hv]; exact (atg (by rw [← nI_ltI (by omega) (by omega)]; exact h83)).symm)
          · refine g_iload (pc' := 88) dX7_firstBehind_86 rfl rfl ?_
            refine g_goto dX7_firstBehind_88 (pc' := 92) (by decide) ?_
            refine g_iret dX7_firstBehind_92 rfl rfl (Nat.le_of_ble_eq_true rfl) (Nat.le_of_ble_eq_true rfl) ?_
            first
              | exact gq (hQ _ (Or.inr ⟨n, by omega, rfl⟩)) (by rw [← hv]; exact (atl (by rw [← nI_leI (by omega) (by omega)]; exact Int32.not_lt.mp h83)).symm)
              | exact gq (hQ _ (Or.inr ⟨n, by omega, rfl⟩)) (by rw [← hv]; exact (atg (by rw [← nI_ltI (by omega) (by omega)]; exact h83)).symm)
  refine g_iload_n (pc' := 1) dX7_firstBehind_0 rfl rfl ?_
  refine g_iconst (pc' := 2) (v := 1) dX7_firstBehind_1 rfl rfl ?_
  refine g_iadd (pc' := 3) dX7_firstBehind_2 rfl ?_
  refine gistore4 (pc' := 5) dX7_firstBehind_3 rfl (Nat.le_of_ble_eq_true rfl) rfl ?_
  refine g_iload (pc' := 7) dX7_firstBehind_5 rfl rfl ?_
  refine g_sipush (pc' := 10) (v := 1440) dX7_firstBehind_7 rfl rfl ?_
  rw [nI_1]
  refine g_irem (pc' := 11) dX7_firstBehind_10 rfl (by decide) ?_
  rw [show (1440 : Int32) = nI 1440 from rfl, nI_rem (by omega) (by decide) (by decide)]
  refine gistore5 (pc' := 13) dX7_firstBehind_11 rfl (Nat.le_of_ble_eq_true rfl) rfl ?_
  refine g_iload (pc' := 15) dX7_firstBehind_13 rfl rfl ?_
  refine g_sipush (pc' := 18) (v := 1440) dX7_firstBehind_15 rfl rfl ?_
  refine g_idiv (pc' := 19) dX7_firstBehind_18 rfl (by decide) ?_
  rw [show (1440 : Int32) = nI 1440 from rfl, pk_div (by omega) (by decide) (by decide)]
  refine gistore6 (pc' := 21) dX7_firstBehind_19 rfl (Nat.le_of_ble_eq_true rfl) rfl ?_
  exact L (l / 1440 + 1 - (m + 1) / 1440) ((m + 1) / 1440) ((m + 1) % 1440) (by omega) (by omega) S (Or.inl rfl) (by rw [show (m + 1) / 1440 * 1440 + (m + 1) % 1440 = m + 1 by omega, show l + 1 - (m + 1) = l - m by omega]) _ _

def tCT (j : Nat) : Nat → gS → gS
  | 0, S => S
  | n + 1, S => if fI (tCT j n S) 163 j n = 3 then tEnd (tCT j n S) j n 0 else tCT j n S
def tCJ : Nat → gS → gS
  | 0, S => S
  | n + 1, S => tCT n (jc S n) (tCJ n S)
noncomputable def tC2 (b m : Nat) : Nat → gS → gS → Prop
  | 0, S, T => T = S
  | n + 1, S, T => ∃ U, tC2 b m n S U ∧ ∃ V, (V = U ∨ ∃ w, w < 13889 ∧ V = tTurn U w) ∧ T = if fT (eHolds U n) (m - b) (b + 1) = -1 then V else tFire V n
theorem jc_go {b : Nat} {S S' : gS} (h : tGo d0 b S S') (j : Nat) : jc S' j = jc S j := tKeep_jc (h.1.up (fun _ z => d12 (d01 z))) j
theorem jn_go {b : Nat} {S S' : gS} (h : tGo d0 b S S') : jn S' = jn S := tKeep_jn (h.1.up (fun _ z => d12 (d01 z)))
theorem jn_go1 {b : Nat} {S S' : gS} (h : tGo d1 b S S') : jn S' = jn S := tKeep_jn (h.1.up (fun _ z => d12 z))
theorem tCT_go {j : Nat} : ∀ (n : Nat) (S : gS) (_ : jc S j ≤ 6), tGo d0 (8 * n) S (tCT j n S)
  | 0, _, _ => tGo.rf
  | n + 1, S, h => by
    have h1 := tCT_go n S h
    unfold tCT
    split
    · exact (h1.tr (tEnd_go (by rw [jc_go h1]; exact h))).le (by omega)
    · exact h1.le (by omega)
theorem tCJ_go : ∀ (n : Nat) (S : gS) (_ : ∀ j, j < n → jc S j ≤ 6), tGo d0 (48 * n) S (tCJ n S)
  | 0, _, _ => tGo.rf
  | n + 1, S, h => by
    have h1 := tCJ_go n S (fun j hj => h j (by omega))
    have h6 := h n (by omega)
    exact (h1.tr (tCT_go (j := n) (jc S n) (tCJ n S) (by rw [jc_go h1]; exact h6))).le (by omega)
theorem tC2_go {b m : Nat} : ∀ (n : Nat) (S T : gS) (_ : tC2 b m n S T), tGo d1 (2 * n) S T
  | 0, _, _, h => by cases h; exact tGo.rf
  | n + 1, S, T, ⟨U, hU, V, hV, hT⟩ => by
    have h1 := tC2_go n S U hU
    have h2 : tGo d1 0 U V := by
      rcases hV with rfl | ⟨w, -, rfl⟩
      · exact tGo.rf
      · exact tTurn_go
    rw [hT]
    split
    · exact (h1.tr h2).le (by omega)
    · exact ((h1.tr h2).tr (tFire_go.up (Nat.le_refl _) (fun _ z => d01 z))).le (by omega)
theorem tC2_day {b m : Nat} : ∀ (n : Nat) (S T : gS) (_ : tC2 b m n S T) (_ : ∃ w, DayOk S w), ∃ w, DayOk T w
  | 0, _, _, h, hd => by cases h; exact hd
  | n + 1, S, T, ⟨U, hU, V, hV, hT⟩, hd => by
    have h1 := tC2_day n S U hU hd
    have h2 : ∃ w, DayOk V w := by
      rcases hV with rfl | ⟨w, hw, rfl⟩
      · exact h1
      · exact ⟨w, tTurn_ok hw⟩
    rw [hT]
    split
    · exact h2
    · obtain ⟨w, hw⟩ := h2
      exact ⟨w, hw.keep tFire_go⟩
set_option maxRecDepth 100000 in
set_option maxHeartbeats 2000000 in
theorem kX7_catchUp {E : gE} {S : gS} {b m x : Nat} {Q : Option gV → gS → Prop} (hD : DeskOk S) (hd : ∃ w, DayOk S w) (hbs : fI S 233 0 0 = nI b) (hm : fI S 231 0 0 = nI m) (hbm : b ≤ m) (hm2 : m < 20000000) (hs : fI S 230 0 0 = nI (slN S)) (hs6 : slN S ≤ 6) (hx : fI S 97 0 0 = nI x) (hb : x + 306 < 2 ^ 30) (hQ : ∀ T, tC2 b m (jn S) (tCJ (jn S) S) T → Q (some (vI (nI (tStartS T).1))) (tStartS T).2) : gRun E mX7_catchUp 6 0 0 [vR 7 0 0] S [] Q := by
  refine gRun_of (ls := [some (vR 7 0 0), none, none]) rfl (Nat.le_of_ble_eq_true rfl) rfl (fun ad => ?_)
  obtain ⟨l7, l4, l6, l0, l3, l10, l11, l13, l14, r224, r225, r226, r227, r128, r129, r192, r96⟩ := id hD.1
  have hn := hD.2.1
  have hn6 := hD.2.2.1
  have hc6 : ∀ j, j < jn S → jc S j ≤ 6 := fun j hj => hD.jc6 hj
  have L2 : ∀ (k i : Nat) (T : gS) (_ : i + k = jn S) (hT : tC2 b m i (tCJ (jn S) S) T) (w2 : Option gV), gG E mX7_catchUp (gBof 6 0 0 ad [] Q) 64 [some (vR 7 0 0), some (vI (nI i)), w2] [] T 0 0 := by
    intro k
    have g0 := tCJ_go (jn S) S hc6
    induction k with
    | zero =>
      intro i T hk hT w2
      have e : i = jn S := by omega
      subst e
      have g1 := (g0.up (Nat.le_refl _) (fun _ z => d01 z)).tr (tC2_go _ _ _ hT)
      have hDT := hD.go1 g1
      have hnT : fI T 228 0 0 = nI (jn S) := (g1.1.2.2.2.2.1 228 0 0 rfl).trans hn
      have hslT : slN T = slN S := slN_keep (d := d1) g1.1 rfl
      have hsT : fI T 230 0 0 = nI (slN T) := by rw [hslT]; exact (g1.1.2.2.2.2.1 230 0 0 rfl).trans hs
      have hs6T : slN T ≤ 6 := by rw [hslT]; exact hs6
      obtain ⟨y, hy1, hy2, hy3⟩ := g1.2 x hx (by omega)
      obtain ⟨l7, l4, l6, l0, l3, l10, l11, l13, l14, r224, r225, r226, r227, r128, r129, r192, r96⟩ := id hDT.1
      refine g_iload_n (pc' := 65) dX7_catchUp_64 rfl rfl ?_
      refine g_aload_n (pc' := 66) dX7_catchUp_65 rfl rfl ?_
      refine ggX7_36 (pc' := 69) rfl dX7_catchUp_66 rfl l7 ?_
      refine g_icmp_ge dX7_catchUp_69 (tg := 108) (pc' := 72) (by decide) rfl (fun h69 => ?_) (fun h69 => absurd (by rw [hnT, nI_leI (by omega) (by omega)]; omega) h69)
      refine g_aload_n (pc' := 109) dX7_catchUp_108 rfl rfl ?_
      refine gcv0 (pc' := 112) cwX7_206 cf7 dX7_catchUp_109 rfl l7 (Nat.le_of_ble_eq_true rfl) (Nat.le_of_ble_eq_true rfl) (Nat.le_of_ble_eq_true rfl) (Nat.le_of_ble_eq_true rfl) (Nat.le_of_ble_eq_true rfl) (kX7_startTasks (x := y) hDT hsT hs6T hy1 (by omega) ?_)
      refine g_iret dX7_catchUp_112 rfl rfl (Nat.le_of_ble_eq_true rfl) (Nat.le_of_ble_eq_true rfl) ?_
      exact hQ T hT
    | succ k ih =>
      intro i T hk hT w2
      have g1 := (g0.up (Nat.le_refl _) (fun _ z => d01 z)).tr (tC2_go _ _ _ hT)
      have hDT := hD.go1 g1
      have hnT : fI T 228 0 0 = nI (jn S) := (g1.1.2.2.2.2.1 228 0 0 rfl).trans hn
      have hmT : fI T 231 0 0 = nI m := (g1.1.2.2.2.2.1 231 0 0 rfl).trans hm
      have hbT : fI T 233 0 0 = nI b := (g1.1.2.2.2.2.1 233 0 0 rfl).trans hbs
      have hjT : jn T = jn S := jn_go1 g1
      obtain ⟨y, hy1, hy2, hy3⟩ := g1.2 x hx (by omega)
      have hdT : ∃ w, DayOk T w := tC2_day _ _ _ hT (by
        obtain ⟨w, hw⟩ := hd
        exact ⟨w, hw.keep g0⟩)
      obtain ⟨w, hw⟩ := hdT
      obtain ⟨l7, l4, l6, l0, l3, l10, l11, l13, l14, r224, r225, r226, r227, r128, r129, r192, r96⟩ := id hDT.1
      refine g_iload_n (pc' := 65) dX7_catchUp_64 rfl rfl ?_
      refine g_aload_n (pc' := 66) dX7_catchUp_65 rfl rfl ?_
      refine ggX7_36 (pc' := 69) rfl dX7_catchUp_66 rfl l7 ?_
      refine g_icmp_ge dX7_catchUp_69 (tg := 108) (pc' := 72) (by decide) rfl (fun h69 => absurd h69 (by rw [hnT, nI_leI (by omega) (by omega)]; omega)) (fun h69 => ?_)
      obtain ⟨hJ, ra, l1, l12, r65, r32⟩ := hDT.2.2.2 i (by omega)
      have l2 := hJ.1
      have hcT := hJ.2.2.2.1
      refine g_aload_n (pc' := 73) dX7_catchUp_72 rfl rfl ?_
      refine g_aload_n (pc' := 74) dX7_catchUp_73 rfl rfl ?_
      refine ggX7_32 (pc' := 77) rfl dX7_catchUp_74 rfl l7 r227 ?_
      refine g_iload_n (pc' := 78) dX7_catchUp_77 rfl rfl ?_
      refine g_aaldJ (pc' := 79) (n := i) dX7_catchUp_78 rfl (by decide) rfl rfl (show i < 6 by omega) l14 ra ?_
      refine ggX7_114 (pc' := 82) rfl dX7_catchUp_79 rfl l2 r65 ?_
      refine g_aload_n (pc' := 83) dX7_catchUp_82 rfl rfl ?_
      refine ggX7_53 (pc' := 86) rfl dX7_catchUp_83 rfl l7 ?_
      refine g_aload_n (pc' := 87) dX7_catchUp_86 rfl rfl ?_
      refine ggX7_46 (pc' := 90) rfl dX7_catchUp_87 rfl l7 ?_
      rw [hbT, hmT]
      refine gcv3 (pc' := 93) cwX7_122 cf7 dX7_catchUp_90 rfl l7 (Nat.le_of_ble_eq_true rfl) (Nat.le_of_ble_eq_true rfl) (Nat.le_of_ble_eq_true rfl) (Nat.le_of_ble_eq_true rfl) (Nat.le_of_ble_eq_true rfl) (kX7_firstBehind (w0 := w) l7 r225 l0 l1 l12 r32 hw hbm hm2 ?_)
      intro V hV
      obtain ⟨V1, V2, V3⟩ : DeskOk V ∧ jn V = jn S ∧ fI V 97 0 0 = fI T 97 0 0 := by
        rcases hV with rfl | ⟨w, -, rfl⟩
        · exact ⟨hDT, hjT, rfl⟩
        · exact ⟨hDT.go1 tTurn_go, (jn_go1 tTurn_go).trans hjT, rfl⟩
      obtain ⟨l7, l4, l6, l0, l3, l10, l11, l13, l14, r224, r225, r226, r227, r128, r129, r192, r96⟩ := id V1.1
      refine g_iconst (pc' := 94) (v := (-1)) dX7_catchUp_93 rfl rfl ?_
      refine g_icmp_eq dX7_catchUp_94 (tg := 102) (pc' := 97) (by decide) rfl (fun h94 => ?_) (fun h94 => ?_)
      · refine giinc1 (pc' := 105) (c := 1) dX7_catchUp_102 rfl rfl (Nat.le_of_ble_eq_true rfl) rfl ?_
        refine g_goto dX7_catchUp_105 (pc' := 64) (by decide) ?_
        rw [nI_1]
        exact ih (i + 1) _ (by omega) ⟨T, hT, V, hV, by first | rw [if_neg h94] | rw [if_pos (show _ = _ from h94)]⟩ _
      · refine g_aload_n (pc' := 98) dX7_catchUp_97 rfl rfl ?_
        refine g_iload_n (pc' := 99) dX7_catchUp_98 rfl rfl ?_
        refine gcv1 (pc' := 102) cwX7_203 cf7 dX7_catchUp_99 rfl l7 (Nat.le_of_ble_eq_true rfl) (Nat.le_of_ble_eq_true rfl) (Nat.le_of_ble_eq_true rfl) (Nat.le_of_ble_eq_true rfl) (Nat.le_of_ble_eq_true rfl) (kX7_fire (x := y) V1 (by omega) (by rw [V3]; exact hy1) (by omega) ?_)
        refine giinc1 (pc' := 105) (c := 1) dX7_catchUp_102 rfl rfl (Nat.le_of_ble_eq_true rfl) rfl ?_
        refine g_goto dX7_catchUp_105 (pc' := 64) (by decide) ?_
        rw [nI_1]
        exact ih (i + 1) _ (by omega) ⟨T, hT, V, hV, by first | rw [if_neg h94] | rw [if_pos (show _ = _ from h94)]⟩ _
  have LO : ∀ (k i : Nat) (_ : i + k = jn S) (w2 : Option gV), gG E mX7_catchUp (gBof 6 0 0 ad [] Q) 2 [some (vR 7 0 0), some (vI (nI i)), w2] [] (tCJ i S) 0 0 := by
    intro k
    induction k with
    | zero =>
      intro i hk w2
      have e : i = jn S := by omega
      subst e
      have g1 := tCJ_go (jn S) S hc6
      have hDT := hD.go g1
      have hnT : fI (tCJ (jn S) S) 228 0 0 = nI (jn S) := (g1.1.2.2.2.2.1 228 0 0 rfl).trans hn
      obtain ⟨l7, l4, l6, l0, l3, l10, l11, l13, l14, r224, r225, r226, r227, r128, r129, r192, r96⟩ := id hDT.1
      refine g_iload_n (pc' := 3) dX7_catchUp_2 rfl rfl ?_
      refine g_aload_n (pc' := 4) dX7_catchUp_3 rfl rfl ?_
      refine ggX7_36 (pc' := 7) rfl dX7_catchUp_4 rfl l7 ?_
      refine g_icmp_ge dX7_catchUp_7 (tg := 62) (pc' := 10) (by decide) rfl (fun h7 => ?_) (fun h7 => absurd (by rw [hnT, nI_leI (by omega) (by omega)]; omega) h7)
      refine g_iconst (pc' := 63) (v := 0) dX7_catchUp_62 rfl rfl ?_
      refine gistore_n1 (pc' := 64) dX7_catchUp_63 rfl (Nat.le_of_ble_eq_true rfl) rfl ?_
      exact L2 (jn S) 0 (tCJ (jn S) S) (by omega) rfl _
    | succ k ihO =>
      intro i hk w2
      have g1 := tCJ_go i S (fun j hj => hc6 j (by omega))
      have hDU := hD.go g1
      have hnT : fI (tCJ i S) 228 0 0 = nI (jn S) := (g1.1.2.2.2.2.1 228 0 0 rfl).trans hn
      have hc6i := hc6 i (by omega)
      have L1 : ∀ (k t : Nat) (_ : t + k = jc S i), gG E mX7_catchUp (gBof 6 0 0 ad [] Q) 12 [some (vR 7 0 0), some (vI (nI i)), some (vI (nI t))] [] (tCT i t (tCJ i S)) 0 0 := by
        intro k
        induction k with
        | zero =>
          intro t hk2
          have e : t = jc S i := by omega
          subst e
          have g2 := g1.tr (tCT_go (j := i) (jc S i) (tCJ i S) (by rw [jc_go g1]; exact hc6i))
          have hDT := hD.go g2
          have hcj := jc_go g2 i
          have hjT := jn_go g2
          have ih : ∀ (i_1 : Nat), i_1 + k = jn S → ∀ (w2 : Option gV), gG E mX7_catchUp (gBof 6 0 0 ad [] Q) 2 [some (vR 7 0 0), some (vI (nI i_1)), w2] [] (tCJ i_1 S) 0 0 := fun q1 q2 q3 => ihO q1 (by omega) q3
          have ih := ih (i + 1)
          change ∀ _, ∀ (w2 : Option gV), gG E mX7_catchUp (gBof 6 0 0 ad [] Q) 2 [some (vR 7 0 0), some (vI (nI (i + 1))), w2] [] (tCT i (jc S i) (tCJ i S)) 0 0 at ih
          generalize tCT i (jc S i) (tCJ i S) = T at *
          obtain ⟨l7, l4, l6, l0, l3, l10, l11, l13, l14, r224, r225, r226, r227, r128, r129, r192, r96⟩ := id hDT.1
          obtain ⟨hJ, ra, l1, l12, r65, r32⟩ := hDT.2.2.2 i (by omega)
          have l2 := hJ.1
          have hcT := hJ.2.2.2.1
          refine g_iload_n (pc' := 13) dX7_catchUp_12 rfl rfl ?_
          refine g_aload_n (pc' := 14) dX7_catchUp_13 rfl rfl ?_
          refine ggX7_32 (pc' := 17) rfl dX7_catchUp_14 rfl l7 r227 ?_
          refine g_iload_n (pc' := 18) dX7_catchUp_17 rfl rfl ?_
          refine g_aaldJ (pc' := 19) (n := i) dX7_catchUp_18 rfl (by decide) rfl rfl (show i < 6 by omega) l14 ra ?_
          refine ggX7_93 (pc' := 22) rfl dX7_catchUp_19 rfl l2 ?_
          refine g_icmp_ge dX7_catchUp_22 (tg := 56) (pc' := 25) (by decide) rfl (fun h22 => ?_) (fun h22 => absurd (by rw [hcT, hcj, nI_leI (by omega) (by omega)]; omega) h22)
          refine giinc1 (pc' := 59) (c := 1) dX7_catchUp_56 rfl rfl (Nat.le_of_ble_eq_true rfl) rfl ?_
          refine g_goto dX7_catchUp_59 (pc' := 2) (by decide) ?_
          rw [nI_1]
          exact ih (by omega) _
        | succ k2 ih2 =>
          intro t hk2
          have g2 := g1.tr (tCT_go (j := i) t (tCJ i S) (by rw [jc_go g1]; exact hc6i))
          have hDT := hD.go g2
          have hcj := jc_go g2 i
          have hjT := jn_go g2
          have fin : ∀ T', (if fI (tCT i t (tCJ i S)) 163 i t = 3 then tEnd (tCT i t (tCJ i S)) i t 0 else tCT i t (tCJ i S)) = T' → gG E mX7_catchUp (gBof 6 0 0 ad [] Q) 12 [some (vR 7 0 0), some (vI (nI i)), some (vI (nI (t + 1)))] [] T' 0 0 := fun T' e => by rw [← e]; exact ih2 (t + 1) (by omega)
          obtain ⟨y, hy1, hy2, hy3⟩ := g2.2 x hx (by omega)
          clear ih2
          generalize tCT i t (tCJ i S) = T at *
          obtain ⟨l7, l4, l6, l0, l3, l10, l11, l13, l14, r224, r225, r226, r227, r128, r129, r192, r96⟩ := id hDT.1
          obtain ⟨hJ, ra, l1, l12, r65, r32⟩ := hDT.2.2.2 i (by omega)
          have l2 := hJ.1
          have hcT := hJ.2.2.2.1
          refine g_iload_n (pc' := 13) dX7_catchUp_12 rfl rfl ?_
          refine g_aload_n (pc' := 14) dX7_catchUp_13 rfl rfl ?_
          refine ggX7_32 (pc' := 17) rfl dX7_catchUp_14 rfl l7 r227 ?_
          refine g_iload_n (pc' := 18) dX7_catchUp_17 rfl rfl ?_
          refine g_aaldJ (pc' := 19) (n := i) dX7_catchUp_18 rfl (by decide) rfl rfl (show i < 6 by omega) l14 ra ?_
          refine ggX7_93 (pc' := 22) rfl dX7_catchUp_19 rfl l2 ?_
          refine g_icmp_ge dX7_catchUp_22 (tg := 56) (pc' := 25) (by decide) rfl (fun h22 => absurd h22 (by rw [hcT, hcj, nI_leI (by omega) (by omega)]; omega)) (fun h22 => ?_)
          obtain ⟨l5, hta⟩ := hJ.2.2.2.2.2 t (by rw [hcj]; omega)
          have l15 := hJ.2.1
          have r66 := hJ.2.2.1
          refine g_aload_n (pc' := 26) dX7_catchUp_25 rfl rfl ?_
          refine ggX7_32 (pc' := 29) rfl dX7_catchUp_26 rfl l7 r227 ?_
          refine g_iload_n (pc' := 30) dX7_catchUp_29 rfl rfl ?_
          refine g_aaldJ (pc' := 31) (n := i) dX7_catchUp_30 rfl (by decide) rfl rfl (show i < 6 by omega) l14 ra ?_
          refine ggX7_157 (pc' := 34) rfl dX7_catchUp_31 rfl l2 r66 ?_
          refine g_iload_n (pc' := 35) dX7_catchUp_34 rfl rfl ?_
          refine g_aaldT (pc' := 36) (n := t) dX7_catchUp_35 rfl (by decide) rfl rfl (show t < 6 by omega) l15 hta ?_
          refine ggX7_161 (pc' := 39) rfl dX7_catchUp_36 rfl l5 ?_
          refine g_iconst (pc' := 40) (v := 3) dX7_catchUp_39 rfl rfl ?_
          refine g_icmp_ne dX7_catchUp_40 (tg := 50) (pc' := 43) (by decide) rfl (fun h40 => ?_) (fun h40 => ?_)
          · refine giinc2 (pc' := 53) (c := 1) dX7_catchUp_50 rfl rfl (Nat.le_of_ble_eq_true rfl) rfl ?_
            refine g_goto dX7_catchUp_53 (pc' := 12) (by decide) ?_
            rw [nI_1]
            exact fin _ (by first | exact if_pos h40 | exact if_neg h40 | exact if_pos (Decidable.not_not.mp h40)) 
          · refine g_aload_n (pc' := 44) dX7_catchUp_43 rfl rfl ?_
            refine g_iload_n (pc' := 45) dX7_catchUp_44 rfl rfl ?_
            refine g_iload_n (pc' := 46) dX7_catchUp_45 rfl rfl ?_
            refine g_iconst (pc' := 47) (v := 0) dX7_catchUp_46 rfl rfl ?_
            refine gcv3 (pc' := 50) cwX7_164 cf7 dX7_catchUp_47 rfl l7 (Nat.le_of_ble_eq_true rfl) (Nat.le_of_ble_eq_true rfl) (Nat.le_of_ble_eq_true rfl) (Nat.le_of_ble_eq_true rfl) (Nat.le_of_ble_eq_true rfl) (kX7_endTask (x := y) hDT (by omega) (by rw [hcj]; omega) hy1 (by omega) ?_)
            refine giinc2 (pc' := 53) (c := 1) dX7_catchUp_50 rfl rfl (Nat.le_of_ble_eq_true rfl) rfl ?_
            refine g_goto dX7_catchUp_53 (pc' := 12) (by decide) ?_
            rw [nI_1]
            exact fin _ (by first | exact if_pos h40 | exact if_neg h40 | exact if_pos (Decidable.not_not.mp h40)) 
      have hDT := hDU
      obtain ⟨l7, l4, l6, l0, l3, l10, l11, l13, l14, r224, r225, r226, r227, r128, r129, r192, r96⟩ := id hDT.1
      refine g_iload_n (pc' := 3) dX7_catchUp_2 rfl rfl ?_
      refine g_aload_n (pc' := 4) dX7_catchUp_3 rfl rfl ?_
      refine ggX7_36 (pc' := 7) rfl dX7_catchUp_4 rfl l7 ?_
      refine g_icmp_ge dX7_catchUp_7 (tg := 62) (pc' := 10) (by decide) rfl (fun h7 => absurd h7 (by rw [hnT, nI_leI (by omega) (by omega)]; omega)) (fun h7 => ?_)
      refine g_iconst (pc' := 11) (v := 0) dX7_catchUp_10 rfl rfl ?_
      refine gistore_n2 (pc' := 12) dX7_catchUp_11 rfl (Nat.le_of_ble_eq_true rfl) rfl ?_
      exact L1 (jc S i) 0 (by omega)
  refine g_iconst (pc' := 1) (v := 0) dX7_catchUp_0 rfl rfl ?_
  refine gistore_n1 (pc' := 2) dX7_catchUp_1 rfl (Nat.le_of_ble_eq_true rfl) rfl ?_
  exact LO (jn S) 0 (by omega) _

