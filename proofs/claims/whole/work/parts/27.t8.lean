/-! THE CLASS (8): the next task, starting, steps -/
theorem nI_ne1 {b : Nat} (h : b < 2 ^ 31) : ¬ nI b = -1 := by
  intro e
  have h1 := nI_toInt h
  rw [e] at h1
  have h2 : (-1 : Int32).toInt = -1 := by decide
  omega
theorem tFR_in (S : gS) (j : Nat) (now : Int32) : ∀ k i, tFR S j now k i = -1 ∨ ∃ t, i ≤ t ∧ t < i + k ∧ tFR S j now k i = nI t
  | 0, _ => Or.inl rfl
  | k + 1, i => by
    unfold tFR
    split
    · exact Or.inr ⟨i, Nat.le_refl _, by omega, rfl⟩
    · rcases tFR_in S j now k (i + 1) with h | ⟨t, h1, h2, h3⟩
      · exact Or.inl h
      · exact Or.inr ⟨t, by omega, by omega, h3⟩
def tRdy (S : gS) (n : Nat) (now : Int32) : Bool := decide (¬ tFR S n now (jc S n) 0 = -1)
def tFJ (S : gS) (now : Int32) : Nat → Option Nat
  | 0 => none
  | n + 1 => match tFJ S now n with
    | none => if tRdy S n now = true then some n else none
    | some b => if fI S 64 b 0 < fI S 64 n 0 ∧ tRdy S n now = true then some n else some b
def oI (r : Option Nat) : Int32 := match r with
  | none => -1
  | some n => nI n
theorem tFJ_in {S : gS} {now : Int32} : ∀ {n b : Nat}, tFJ S now n = some b → b < n ∧ tRdy S b now = true
  | n + 1, b, h => by
    unfold tFJ at h
    cases e : tFJ S now n with
    | none =>
      rw [e] at h
      simp only at h
      split at h
      · cases h; exact ⟨Nat.lt_succ_self _, by assumption⟩
      · cases h
    | some c =>
      rw [e] at h
      simp only at h
      split at h
      · rename_i hc
        cases h; exact ⟨Nat.lt_succ_self _, hc.2⟩
      · cases h
        have := tFJ_in e
        exact ⟨by omega, this.2⟩
def tFRn (S : gS) (j : Nat) : Nat := (tFR S j (fI S 231 0 0) (jc S j) 0).toNatClampNeg
theorem tFRn_in {S : gS} {j : Nat} (h6 : jc S j ≤ 6) (h : tRdy S j (fI S 231 0 0) = true) : tFRn S j < jc S j ∧ tFR S j (fI S 231 0 0) (jc S j) 0 = nI (tFRn S j) := by
  rw [tRdy, decide_eq_true_eq] at h
  rcases tFR_in S j (fI S 231 0 0) (jc S j) 0 with z | ⟨t, h1, h2, h3⟩
  · exact absurd z h
  · have : tFRn S j = t := by rw [tFRn, h3, nI_clamp (by omega)]
    rw [this]
    exact ⟨by omega, h3⟩
def tPut (S : gS) (j : Nat) : gS := tLogS (sfI S 163 j (tFRn S j) 3) 3 (fI S 231 0 0) (nI j) (nI (tFRn S j))
def tStart : Nat → Nat → gS → Nat × gS
  | 0, s, S => (s, S)
  | f + 1, s, S => match tFJ S (fI S 231 0 0) (jn S) with
    | none => (s, S)
    | some j => tStart f (s + 1) (tPut S j)
def slN (S : gS) : Nat := (fI S 230 0 0).toNatClampNeg
def tStartS (S : gS) : Nat × gS := tStart (slN S - tRun S (jn S)) 0 S
theorem tPut_go {S : gS} {j : Nat} : tGo d0 1 S (tPut S j) := (tGo_sfI rfl (by decide)).tr tLogS_go
theorem tStart_go : ∀ (f s : Nat) (S : gS), tGo d0 f S (tStart f s S).2
  | 0, _, _ => tGo.rf
  | f + 1, s, S => by
    unfold tStart
    split
    · exact tGo.rf
    · exact (tPut_go.tr (tStart_go f _ _)).le (by omega)
theorem tStart_le : ∀ (f s : Nat) (S : gS), s ≤ (tStart f s S).1 ∧ (tStart f s S).1 ≤ s + f
  | 0, _, _ => ⟨Nat.le_refl _, Nat.le_refl _⟩
  | f + 1, s, S => by
    unfold tStart
    split
    · exact ⟨Nat.le_refl _, by omega⟩
    · rename_i j _
      have := tStart_le f (s + 1) (tPut S j)
      exact ⟨by omega, by omega⟩
theorem tStartS_go {S : gS} (h : slN S ≤ 6) : tGo d0 6 S (tStartS S).2 := (tStart_go _ _ _).le (by omega)
set_option maxRecDepth 100000 in
set_option maxHeartbeats 2000000 in
theorem kX7_firstReadyJob {E : gE} {S : gS} {Q : Option gV → gS → Prop} (hD : DeskOk S) (hQ : Q (some (vI (oI (tFJ S (fI S 231 0 0) (jn S))))) S) : gRun E mX7_firstReadyJob 3 0 0 [vR 7 0 0] S [] Q := by
  refine gRun_of (ls := [some (vR 7 0 0), none, none, none]) rfl (Nat.le_of_ble_eq_true rfl) rfl (fun ad => ?_)
  obtain ⟨l7, l4, l6, l0, l3, l10, l11, l13, l14, r224, r225, r226, r227, r128, r129, r192, r96⟩ := id hD.1
  have hn := hD.2.1
  have hn6 := hD.2.2.1
  have L : ∀ (k i : Nat) (_ : i + k = jn S) (w3 : Option gV), gG E mX7_firstReadyJob (gBof 3 0 0 ad [] Q) 4 [some (vR 7 0 0), some (vI (oI (tFJ S (fI S 231 0 0) i))), some (vI (nI i)), w3] [] S 0 0 := by
    intro k
    induction k with
    | zero =>
      intro i hk w3
      refine g_iload_n (pc' := 5) dX7_firstReadyJob_4 rfl rfl ?_
      refine g_aload_n (pc' := 6) dX7_firstReadyJob_5 rfl rfl ?_
      refine ggX7_36 (pc' := 9) rfl dX7_firstReadyJob_6 rfl l7 ?_
      refine g_icmp_ge dX7_firstReadyJob_9 (tg := 73) (pc' := 12) (by decide) rfl (fun h9 => ?_) (fun h9 => absurd (by rw [hn, nI_leI (by omega) (by omega)]; omega) h9)
      refine g_iload_n (pc' := 74) dX7_firstReadyJob_73 rfl rfl ?_
      refine g_iret dX7_firstReadyJob_74 rfl rfl (Nat.le_of_ble_eq_true rfl) (Nat.le_of_ble_eq_true rfl) ?_
      have e : i = jn S := by omega
      subst e
      exact hQ
    | succ k ih =>
      intro i hk w3
      have fin : ∀ (r : Option Nat) (_ : tFJ S (fI S 231 0 0) (i + 1) = r) (w : Option gV), gG E mX7_firstReadyJob (gBof 3 0 0 ad [] Q) 4 [some (vR 7 0 0), some (vI (oI r)), some (vI (nI (i + 1))), w] [] S 0 0 := fun r hr w => by rw [← hr]; exact ih (i + 1) (by omega) w
      have hj : i < jn S := by omega
      obtain ⟨hJ, ra, l1, l12, r65, r32⟩ := hD.2.2.2 i hj
      have l2 := hJ.1
      cases e : tFJ S (fI S 231 0 0) i with
      | none =>
        show gG E mX7_firstReadyJob (gBof 3 0 0 ad [] Q) 4 [some (vR 7 0 0), some (vI (-1)), some (vI (nI i)), w3] [] S 0 0
        refine g_iload_n (pc' := 5) dX7_firstReadyJob_4 rfl rfl ?_
        refine g_aload_n (pc' := 6) dX7_firstReadyJob_5 rfl rfl ?_
        refine ggX7_36 (pc' := 9) rfl dX7_firstReadyJob_6 rfl l7 ?_
        refine g_icmp_ge dX7_firstReadyJob_9 (tg := 73) (pc' := 12) (by decide) rfl (fun h9 => absurd h9 (by rw [hn, nI_leI (by omega) (by omega)]; omega)) (fun h9 => ?_)
        refine g_iload_n (pc' := 13) dX7_firstReadyJob_12 rfl rfl ?_
        refine g_iconst (pc' := 14) (v := (-1)) dX7_firstReadyJob_13 rfl rfl ?_
        refine g_icmp_eq dX7_firstReadyJob_14 (tg := 38) (pc' := 17) (by decide) rfl (fun h14 => ?_) (fun h14 => absurd rfl h14)
        refine g_iconst (pc' := 39) (v := 1) dX7_firstReadyJob_38 rfl rfl ?_
        refine g_goto dX7_firstReadyJob_39 (pc' := 43) (by decide) ?_
        refine gistore_n3 (pc' := 44) dX7_firstReadyJob_43 rfl (Nat.le_of_ble_eq_true rfl) rfl ?_
        refine g_iload_n (pc' := 45) dX7_firstReadyJob_44 rfl rfl ?_
        refine g_if_eq dX7_firstReadyJob_45 (tg := 67) (pc' := 48) (by decide) rfl (fun h45 => absurd h45 (by decide)) (fun h45 => ?_)
        refine g_aload_n (pc' := 49) dX7_firstReadyJob_48 rfl rfl ?_
        refine ggX7_32 (pc' := 52) rfl dX7_firstReadyJob_49 rfl l7 r227 ?_
        refine g_iload_n (pc' := 53) dX7_firstReadyJob_52 rfl rfl ?_
        refine g_aaldJ (pc' := 54) (n := i) dX7_firstReadyJob_53 rfl (by decide) rfl rfl (show i < 6 by omega) l14 ra ?_
        refine g_aload_n (pc' := 55) dX7_firstReadyJob_54 rfl rfl ?_
        refine ggX7_46 (pc' := 58) rfl dX7_firstReadyJob_55 rfl l7 ?_
        refine gcv1 (pc' := 61) cwX7_225 cf2 dX7_firstReadyJob_58 rfl l2 (Nat.le_of_ble_eq_true rfl) (Nat.le_of_ble_eq_true rfl) (Nat.le_of_ble_eq_true rfl) (Nat.le_of_ble_eq_true rfl) (Nat.le_of_ble_eq_true rfl) (kX2_firstReady hJ ?_)
        refine g_iconst (pc' := 62) (v := (-1)) dX7_firstReadyJob_61 rfl rfl ?_
        refine g_icmp_eq dX7_firstReadyJob_62 (tg := 67) (pc' := 65) (by decide) rfl (fun h62 => ?_) (fun h62 => ?_)
        · refine giinc2 (pc' := 70) (c := 1) dX7_firstReadyJob_67 rfl rfl (Nat.le_of_ble_eq_true rfl) rfl ?_
          refine g_goto dX7_firstReadyJob_70 (pc' := 4) (by decide) ?_
          rw [nI_1]
          first
            | exact fin none (by rw [tFJ, e]; exact if_neg (by rw [tRdy, decide_eq_false (fun z => z h62)]; decide)) _
            | exact fin (some i) (by rw [tFJ, e]; exact if_pos (by rw [tRdy]; exact decide_eq_true h62)) _
        · refine g_iload_n (pc' := 66) dX7_firstReadyJob_65 rfl rfl ?_
          refine gistore_n1 (pc' := 67) dX7_firstReadyJob_66 rfl (Nat.le_of_ble_eq_true rfl) rfl ?_
          refine giinc2 (pc' := 70) (c := 1) dX7_firstReadyJob_67 rfl rfl (Nat.le_of_ble_eq_true rfl) rfl ?_
          refine g_goto dX7_firstReadyJob_70 (pc' := 4) (by decide) ?_
          rw [nI_1]
          first
            | exact fin none (by rw [tFJ, e]; exact if_neg (by rw [tRdy, decide_eq_false (fun z => z h62)]; decide)) _
            | exact fin (some i) (by rw [tFJ, e]; exact if_pos (by rw [tRdy]; exact decide_eq_true h62)) _
      | some b =>
        show gG E mX7_firstReadyJob (gBof 3 0 0 ad [] Q) 4 [some (vR 7 0 0), some (vI (nI b)), some (vI (nI i)), w3] [] S 0 0
        have hb := (tFJ_in e).1
        obtain ⟨hJb, rab, -⟩ := hD.2.2.2 b (by omega)
        have l2b := hJb.1
        refine g_iload_n (pc' := 5) dX7_firstReadyJob_4 rfl rfl ?_
        refine g_aload_n (pc' := 6) dX7_firstReadyJob_5 rfl rfl ?_
        refine ggX7_36 (pc' := 9) rfl dX7_firstReadyJob_6 rfl l7 ?_
        refine g_icmp_ge dX7_firstReadyJob_9 (tg := 73) (pc' := 12) (by decide) rfl (fun h9 => absurd h9 (by rw [hn, nI_leI (by omega) (by omega)]; omega)) (fun h9 => ?_)
        refine g_iload_n (pc' := 13) dX7_firstReadyJob_12 rfl rfl ?_
        refine g_iconst (pc' := 14) (v := (-1)) dX7_firstReadyJob_13 rfl rfl ?_
        refine g_icmp_eq dX7_firstReadyJob_14 (tg := 38) (pc' := 17) (by decide) rfl (fun h14 => absurd h14 (nI_ne1 (by omega))) (fun h14 => ?_)
        refine g_aload_n (pc' := 18) dX7_firstReadyJob_17 rfl rfl ?_
        refine ggX7_32 (pc' := 21) rfl dX7_firstReadyJob_18 rfl l7 r227 ?_
        refine g_iload_n (pc' := 22) dX7_firstReadyJob_21 rfl rfl ?_
        refine g_aaldJ (pc' := 23) (n := i) dX7_firstReadyJob_22 rfl (by decide) rfl rfl (show i < 6 by omega) l14 ra ?_
        refine ggX7_228 (pc' := 26) rfl dX7_firstReadyJob_23 rfl l2 ?_
        refine g_aload_n (pc' := 27) dX7_firstReadyJob_26 rfl rfl ?_
        refine ggX7_32 (pc' := 30) rfl dX7_firstReadyJob_27 rfl l7 r227 ?_
        refine g_iload_n (pc' := 31) dX7_firstReadyJob_30 rfl rfl ?_
        refine g_aaldJ (pc' := 32) (n := b) dX7_firstReadyJob_31 rfl (by decide) rfl rfl (show b < 6 by omega) l14 rab ?_
        refine ggX7_228 (pc' := 35) rfl dX7_firstReadyJob_32 rfl l2b ?_
        refine g_icmp_le dX7_firstReadyJob_35 (tg := 42) (pc' := 38) (by decide) rfl (fun h35 => ?_) (fun h35 => ?_)
        · refine g_iconst (pc' := 43) (v := 0) dX7_firstReadyJob_42 rfl rfl ?_
          refine gistore_n3 (pc' := 44) dX7_firstReadyJob_43 rfl (Nat.le_of_ble_eq_true rfl) rfl ?_
          refine g_iload_n (pc' := 45) dX7_firstReadyJob_44 rfl rfl ?_
          refine g_if_eq dX7_firstReadyJob_45 (tg := 67) (pc' := 48) (by decide) rfl (fun h45 => ?_) (fun h45 => absurd (by decide) h45)
          refine giinc2 (pc' := 70) (c := 1) dX7_firstReadyJob_67 rfl rfl (Nat.le_of_ble_eq_true rfl) rfl ?_
          refine g_goto dX7_firstReadyJob_70 (pc' := 4) (by decide) ?_
          rw [nI_1]
          first
            | exact fin (some b) (by rw [tFJ, e]; exact if_neg (fun z => absurd z.1 (Int32.not_lt.mpr h35))) _
            | exact fin (some b) (by rw [tFJ, e]; exact if_neg (fun z => by rw [tRdy, decide_eq_false (fun z => z h62)] at z; exact absurd z.2 (by decide))) _
            | exact fin (some i) (by rw [tFJ, e]; exact if_pos ⟨Int32.not_le.mp h35, by rw [tRdy]; exact decide_eq_true h62⟩) _
        · refine g_iconst (pc' := 39) (v := 1) dX7_firstReadyJob_38 rfl rfl ?_
          refine g_goto dX7_firstReadyJob_39 (pc' := 43) (by decide) ?_
          refine gistore_n3 (pc' := 44) dX7_firstReadyJob_43 rfl (Nat.le_of_ble_eq_true rfl) rfl ?_
          refine g_iload_n (pc' := 45) dX7_firstReadyJob_44 rfl rfl ?_
          refine g_if_eq dX7_firstReadyJob_45 (tg := 67) (pc' := 48) (by decide) rfl (fun h45 => absurd h45 (by decide)) (fun h45 => ?_)
          refine g_aload_n (pc' := 49) dX7_firstReadyJob_48 rfl rfl ?_
          refine ggX7_32 (pc' := 52) rfl dX7_firstReadyJob_49 rfl l7 r227 ?_
          refine g_iload_n (pc' := 53) dX7_firstReadyJob_52 rfl rfl ?_
          refine g_aaldJ (pc' := 54) (n := i) dX7_firstReadyJob_53 rfl (by decide) rfl rfl (show i < 6 by omega) l14 ra ?_
          refine g_aload_n (pc' := 55) dX7_firstReadyJob_54 rfl rfl ?_
          refine ggX7_46 (pc' := 58) rfl dX7_firstReadyJob_55 rfl l7 ?_
          refine gcv1 (pc' := 61) cwX7_225 cf2 dX7_firstReadyJob_58 rfl l2 (Nat.le_of_ble_eq_true rfl) (Nat.le_of_ble_eq_true rfl) (Nat.le_of_ble_eq_true rfl) (Nat.le_of_ble_eq_true rfl) (Nat.le_of_ble_eq_true rfl) (kX2_firstReady hJ ?_)
          refine g_iconst (pc' := 62) (v := (-1)) dX7_firstReadyJob_61 rfl rfl ?_
          refine g_icmp_eq dX7_firstReadyJob_62 (tg := 67) (pc' := 65) (by decide) rfl (fun h62 => ?_) (fun h62 => ?_)
          · refine giinc2 (pc' := 70) (c := 1) dX7_firstReadyJob_67 rfl rfl (Nat.le_of_ble_eq_true rfl) rfl ?_
            refine g_goto dX7_firstReadyJob_70 (pc' := 4) (by decide) ?_
            rw [nI_1]
            first
              | exact fin (some b) (by rw [tFJ, e]; exact if_neg (fun z => absurd z.1 (Int32.not_lt.mpr h35))) _
              | exact fin (some b) (by rw [tFJ, e]; exact if_neg (fun z => by rw [tRdy, decide_eq_false (fun z => z h62)] at z; exact absurd z.2 (by decide))) _
              | exact fin (some i) (by rw [tFJ, e]; exact if_pos ⟨Int32.not_le.mp h35, by rw [tRdy]; exact decide_eq_true h62⟩) _
          · refine g_iload_n (pc' := 66) dX7_firstReadyJob_65 rfl rfl ?_
            refine gistore_n1 (pc' := 67) dX7_firstReadyJob_66 rfl (Nat.le_of_ble_eq_true rfl) rfl ?_
            refine giinc2 (pc' := 70) (c := 1) dX7_firstReadyJob_67 rfl rfl (Nat.le_of_ble_eq_true rfl) rfl ?_
            refine g_goto dX7_firstReadyJob_70 (pc' := 4) (by decide) ?_
            rw [nI_1]
            first
              | exact fin (some b) (by rw [tFJ, e]; exact if_neg (fun z => absurd z.1 (Int32.not_lt.mpr h35))) _
              | exact fin (some b) (by rw [tFJ, e]; exact if_neg (fun z => by rw [tRdy, decide_eq_false (fun z => z h62)] at z; exact absurd z.2 (by decide))) _
              | exact fin (some i) (by rw [tFJ, e]; exact if_pos ⟨Int32.not_le.mp h35, by rw [tRdy]; exact decide_eq_true h62⟩) _
  refine g_iconst (pc' := 1) (v := (-1)) dX7_firstReadyJob_0 rfl rfl ?_
  refine gistore_n1 (pc' := 2) dX7_firstReadyJob_1 rfl (Nat.le_of_ble_eq_true rfl) rfl ?_
  refine g_iconst (pc' := 3) (v := 0) dX7_firstReadyJob_2 rfl rfl ?_
  refine gistore_n2 (pc' := 4) dX7_firstReadyJob_3 rfl (Nat.le_of_ble_eq_true rfl) rfl ?_
  exact L (jn S) 0 (by omega) _

set_option maxRecDepth 100000 in
set_option maxHeartbeats 2000000 in
theorem kX7_startTasks {E : gE} {S : gS} {x : Nat} {Q : Option gV → gS → Prop} (hD : DeskOk S) (hs : fI S 230 0 0 = nI (slN S)) (hs6 : slN S ≤ 6) (hx : fI S 97 0 0 = nI x) (hb : x + 6 < 2 ^ 30) (hQ : Q (some (vI (nI (tStartS S).1))) (tStartS S).2) : gRun E mX7_startTasks 4 0 0 [vR 7 0 0] S [] Q := by
  refine gRun_of (ls := [some (vR 7 0 0), none, none, none, none]) rfl (Nat.le_of_ble_eq_true rfl) rfl (fun ad => ?_)
  obtain ⟨l7, l4, l6, l0, l3, l10, l11, l13, l14, r224, r225, r226, r227, r128, r129, r192, r96⟩ := id hD.1
  have hn := hD.2.1
  have hn6 := hD.2.2.1
  have hrun : tRun S (jn S) ≤ 36 := by have := tRun_le (fun j hj => hD.jc6 hj) (jn S) (Nat.le_refl _); omega
  have L : ∀ (f s : Nat) (T : gS) (x' : Nat) (hDT : DeskOk T) (hxT : fI T 97 0 0 = nI x') (hbT : x' + f < 2 ^ 30) (hv : tStart f s T = tStartS S) (w3 w4 : Option gV), gG E mX7_startTasks (gBof 4 0 0 ad [] Q) 12 [some (vR 7 0 0), some (vI (nI s)), some (vI (nI f)), w3, w4] [] T 0 0 := by
    intro f
    induction f with
    | zero =>
      intro s T x' hDT hxT hbT hv w3 w4
      have fin : Q (some (vI (nI s))) T := by rw [← hv] at hQ; exact hQ
      obtain ⟨l7, l4, l6, l0, l3, l10, l11, l13, l14, r224, r225, r226, r227, r128, r129, r192, r96⟩ := hDT.1
      refine g_iload_n (pc' := 13) dX7_startTasks_12 rfl rfl ?_
      refine g_if_le dX7_startTasks_13 (tg := 84) (pc' := 16) (by decide) rfl (fun h13 => ?_) (fun h13 => absurd (by decide) h13)
      refine g_iload_n (pc' := 85) dX7_startTasks_84 rfl rfl ?_
      refine g_iret dX7_startTasks_85 rfl rfl (Nat.le_of_ble_eq_true rfl) (Nat.le_of_ble_eq_true rfl) ?_
      exact fin
    | succ f ih =>
      intro s T x' hDT hxT hbT hv w3 w4
      obtain ⟨l7, l4, l6, l0, l3, l10, l11, l13, l14, r224, r225, r226, r227, r128, r129, r192, r96⟩ := hDT.1
      have hnT := hDT.2.2.1
      cases e : tFJ T (fI T 231 0 0) (jn T) with
      | none =>
        have fin : Q (some (vI (nI s))) T := by
          rw [tStart, e] at hv
          rw [← hv] at hQ
          exact hQ
        refine g_iload_n (pc' := 13) dX7_startTasks_12 rfl rfl ?_
        refine g_if_le dX7_startTasks_13 (tg := 84) (pc' := 16) (by decide) rfl (fun h13 => absurd h13 (nI_nle (by omega) (by omega))) (fun h13 => ?_)
        refine g_aload_n (pc' := 17) dX7_startTasks_16 rfl rfl ?_
        refine gcv0 (pc' := 20) cwX7_222 cf7 dX7_startTasks_17 rfl l7 (Nat.le_of_ble_eq_true rfl) (Nat.le_of_ble_eq_true rfl) (Nat.le_of_ble_eq_true rfl) (Nat.le_of_ble_eq_true rfl) (Nat.le_of_ble_eq_true rfl) (kX7_firstReadyJob hDT ?_)
        rw [show oI (tFJ T (fI T 231 0 0) (jn T)) = -1 from by rw [e]; rfl]
        refine gistore_n3 (pc' := 21) dX7_startTasks_20 rfl (Nat.le_of_ble_eq_true rfl) rfl ?_
        refine g_iload_n (pc' := 22) dX7_startTasks_21 rfl rfl ?_
        refine g_iconst (pc' := 23) (v := (-1)) dX7_startTasks_22 rfl rfl ?_
        refine g_icmp_ne dX7_startTasks_23 (tg := 29) (pc' := 26) (by decide) rfl (fun h23 => absurd rfl h23) (fun h23 => ?_)
        refine g_goto dX7_startTasks_26 (pc' := 84) (by decide) ?_
        refine g_iload_n (pc' := 85) dX7_startTasks_84 rfl rfl ?_
        refine g_iret dX7_startTasks_85 rfl rfl (Nat.le_of_ble_eq_true rfl) (Nat.le_of_ble_eq_true rfl) ?_
        exact fin
      | some j =>
        obtain ⟨hj, hrd⟩ := tFJ_in e
        obtain ⟨hJt, ra, l1, l12, r65, r32⟩ := hDT.2.2.2 j hj
        have l2 := hJt.1
        obtain ⟨htn, htn2⟩ := tFRn_in hJt.2.2.2.2.1 hrd
        have h6 := hJt.2.2.2.2.1
        refine g_iload_n (pc' := 13) dX7_startTasks_12 rfl rfl ?_
        refine g_if_le dX7_startTasks_13 (tg := 84) (pc' := 16) (by decide) rfl (fun h13 => absurd h13 (nI_nle (by omega) (by omega))) (fun h13 => ?_)
        refine g_aload_n (pc' := 17) dX7_startTasks_16 rfl rfl ?_
        refine gcv0 (pc' := 20) cwX7_222 cf7 dX7_startTasks_17 rfl l7 (Nat.le_of_ble_eq_true rfl) (Nat.le_of_ble_eq_true rfl) (Nat.le_of_ble_eq_true rfl) (Nat.le_of_ble_eq_true rfl) (Nat.le_of_ble_eq_true rfl) (kX7_firstReadyJob hDT ?_)
        rw [show oI (tFJ T (fI T 231 0 0) (jn T)) = nI j from by rw [e]; rfl]
        refine gistore_n3 (pc' := 21) dX7_startTasks_20 rfl (Nat.le_of_ble_eq_true rfl) rfl ?_
        refine g_iload_n (pc' := 22) dX7_startTasks_21 rfl rfl ?_
        refine g_iconst (pc' := 23) (v := (-1)) dX7_startTasks_22 rfl rfl ?_
        refine g_icmp_ne dX7_startTasks_23 (tg := 29) (pc' := 26) (by decide) rfl (fun h23 => ?_) (fun h23 => absurd h23 (nI_ne1 (by omega)))
        refine g_aload_n (pc' := 30) dX7_startTasks_29 rfl rfl ?_
        refine ggX7_32 (pc' := 33) rfl dX7_startTasks_30 rfl l7 r227 ?_
        refine g_iload_n (pc' := 34) dX7_startTasks_33 rfl rfl ?_
        refine g_aaldJ (pc' := 35) (n := j) dX7_startTasks_34 rfl (by decide) rfl rfl (show j < 6 by omega) l14 ra ?_
        refine g_aload_n (pc' := 36) dX7_startTasks_35 rfl rfl ?_
        refine ggX7_46 (pc' := 39) rfl dX7_startTasks_36 rfl l7 ?_
        refine gcv1 (pc' := 42) cwX7_225 cf2 dX7_startTasks_39 rfl l2 (Nat.le_of_ble_eq_true rfl) (Nat.le_of_ble_eq_true rfl) (Nat.le_of_ble_eq_true rfl) (Nat.le_of_ble_eq_true rfl) (Nat.le_of_ble_eq_true rfl) (kX2_firstReady hJt ?_)
        rw [htn2]
        refine gistore4 (pc' := 44) dX7_startTasks_42 rfl (Nat.le_of_ble_eq_true rfl) rfl ?_
        refine g_aload_n (pc' := 45) dX7_startTasks_44 rfl rfl ?_
        refine ggX7_32 (pc' := 48) rfl dX7_startTasks_45 rfl l7 r227 ?_
        refine g_iload_n (pc' := 49) dX7_startTasks_48 rfl rfl ?_
        refine g_aaldJ (pc' := 50) (n := j) dX7_startTasks_49 rfl (by decide) rfl rfl (show j < 6 by omega) l14 ra ?_
        refine ggX7_157 (pc' := 53) rfl dX7_startTasks_50 rfl l2 hJt.2.2.1 ?_
        refine g_iload (pc' := 55) dX7_startTasks_53 rfl rfl ?_
        refine g_aaldT (pc' := 56) (n := tFRn T j) dX7_startTasks_55 rfl (by decide) rfl rfl (show tFRn T j < 6 by omega) hJt.2.1 (hJt.2.2.2.2.2 (tFRn T j) htn).2 ?_
        refine g_iconst (pc' := 57) (v := 3) dX7_startTasks_56 rfl rfl ?_
        refine gpX7_161 (pc' := 60) rfl dX7_startTasks_57 rfl (hJt.2.2.2.2.2 (tFRn T j) htn).1 ?_
        refine g_aload_n (pc' := 61) dX7_startTasks_60 rfl rfl ?_
        refine ggX7_26 (pc' := 64) rfl dX7_startTasks_61 rfl l7 r226 ?_
        refine g_iconst (pc' := 65) (v := 3) dX7_startTasks_64 rfl rfl ?_
        refine g_aload_n (pc' := 66) dX7_startTasks_65 rfl rfl ?_
        refine ggX7_46 (pc' := 69) rfl dX7_startTasks_66 rfl l7 ?_
        refine g_iload_n (pc' := 70) dX7_startTasks_69 rfl rfl ?_
        refine g_iload (pc' := 72) dX7_startTasks_70 rfl rfl ?_
        refine gcv4 (pc' := 75) cwX7_209 cf3 dX7_startTasks_72 rfl l3 (Nat.le_of_ble_eq_true rfl) (Nat.le_of_ble_eq_true rfl) (Nat.le_of_ble_eq_true rfl) (Nat.le_of_ble_eq_true rfl) (Nat.le_of_ble_eq_true rfl) (kLog l3 l13 r96 hxT (by omega) ?_)
        refine giinc1 (pc' := 78) (c := 1) dX7_startTasks_75 rfl rfl (Nat.le_of_ble_eq_true rfl) rfl ?_
        refine giinc2 (pc' := 81) (c := (-1)) dX7_startTasks_78 rfl rfl (Nat.le_of_ble_eq_true rfl) rfl ?_
        refine g_goto dX7_startTasks_81 (pc' := 12) (by decide) ?_
        rw [nI_1]
        rw [show nI (f + 1) + -1 = nI f from pk_m1 f]
        exact ih (s + 1) (tPut T j) (x' + 1) (hDT.go tPut_go) (tLogS_x hxT (by omega)) (by omega) (by rw [← hv, tStart, e]) _ _
  refine g_iconst (pc' := 1) (v := 0) dX7_startTasks_0 rfl rfl ?_
  refine gistore_n1 (pc' := 2) dX7_startTasks_1 rfl (Nat.le_of_ble_eq_true rfl) rfl ?_
  refine g_aload_n (pc' := 3) dX7_startTasks_2 rfl rfl ?_
  refine ggX7_43 (pc' := 6) rfl dX7_startTasks_3 rfl l7 ?_
  refine g_aload_n (pc' := 7) dX7_startTasks_6 rfl rfl ?_
  refine gcv0 (pc' := 10) cwX7_171 cf7 dX7_startTasks_7 rfl l7 (Nat.le_of_ble_eq_true rfl) (Nat.le_of_ble_eq_true rfl) (Nat.le_of_ble_eq_true rfl) (Nat.le_of_ble_eq_true rfl) (Nat.le_of_ble_eq_true rfl) (kX7_countRunning hD ?_)
  refine g_isub (pc' := 11) dX7_startTasks_10 rfl ?_
  refine gistore_n2 (pc' := 12) dX7_startTasks_11 rfl (Nat.le_of_ble_eq_true rfl) rfl ?_
  rw [hs]
  rcases Nat.lt_or_ge (tRun S (jn S)) (slN S) with q | q
  · rw [pk_sub (by omega)]
    exact L (slN S - tRun S (jn S)) 0 S x hD hx (by omega) rfl _ _
  · have hz : nI (slN S) - nI (tRun S (jn S)) ≤ 0 := by
      rcases Nat.lt_or_eq_of_le q with q | q
      · have := pk_sneg (a := slN S) (b := tRun S (jn S)) (by omega) q
        rw [Int32.lt_iff_toInt_lt] at this
        rw [Int32.le_iff_toInt_le]
        omega
      · rw [q, pk_sub (Nat.le_refl _), Nat.sub_self]; decide
    have e0 : tStartS S = (0, S) := by rw [tStartS, Nat.sub_eq_zero_of_le q]; rfl
    rw [e0] at hQ
    refine g_iload_n (pc' := 13) dX7_startTasks_12 rfl rfl ?_
    refine g_if_le dX7_startTasks_13 (tg := 84) (pc' := 16) (by decide) rfl (fun h13 => ?_) (fun h13 => absurd hz h13)
    refine g_iload_n (pc' := 85) dX7_startTasks_84 rfl rfl ?_
    refine g_iret dX7_startTasks_85 rfl rfl (Nat.le_of_ble_eq_true rfl) (Nat.le_of_ble_eq_true rfl) ?_
    exact hQ

