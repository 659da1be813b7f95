/-! THE CLASS (17): job and task -/
def tJob (S : gS) (rank : Int32) (n : Nat) : gS := sfI (sfI (saR (tJb0 (tEx0 (snew S 2 n 0) n (bI (decide (¬ fI (snew S 2 n 0) 130 0 0 = 0 ∨ ¬ fI (snew S 2 n 0) 131 0 0 = 0)))) n rank) 14 0 n (some (2, n, 0))) 193 0 0 0) 228 0 0 (nI (n + 1))
theorem tEx0_L (S : gS) (j : Nat) (b : Int32) : gL (tEx0 S j b) = gL S ++ [(1, j, 0), (12, j, 0)] := by
  show (gL S ++ [(1, j, 0)]) ++ [(12, j, 0)] = _
  simp
theorem tJb0_L (S : gS) (j : Nat) (b : Int32) : gL (tJb0 S j b) = gL S ++ [(15, j, 0)] := rfl
theorem DeskOk.eqv {S S' : gS} (h : DeskOk S) (k1 : gL S' = gL S) (k2 : fR S' = fR S) (k3 : aR S' = aR S) (k4 : fI S' 228 0 0 = fI S 228 0 0) (k5 : ∀ j, fI S' 67 j 0 = fI S 67 j 0) : DeskOk S' := by
  obtain ⟨h1, h2, h3, h4⟩ := h
  have ej : jn S' = jn S := by unfold jn; rw [k4]
  refine ⟨h1.keep k1 k2, by rw [k4, ej]; exact h2, by rw [ej]; exact h3, fun j hj => ?_⟩
  rw [ej] at hj
  obtain ⟨⟨a1, a2, a3, a4, a5, a6⟩, b1, b2, b3, b4, b5⟩ := h4 j hj
  have ec : jc S' j = jc S j := by unfold jc; rw [k5]
  unfold JobOk lv at *
  rw [ec, k1, k2, k3, k5]
  exact ⟨⟨a1, a2, a3, a4, a5, a6⟩, b1, b2, b3, b4, b5⟩
theorem DeskOk.rd {S S' : gS} (h : DeskOk S) (k : rdK S S') : DeskOk S' := h.eqv k.1 k.2.1 k.2.2.1 (k.2.2.2.2.1 228 0 0 (by decide) (by decide) (by decide) (by decide)) (fun j => k.2.2.2.2.1 67 j 0 (by decide) (by decide) (by decide) (by decide))
theorem RdOk_of {S : gS} (hD : DeskOk S) (hX : TextOk S) : RdOk S := by
  obtain ⟨l7, l4, l6, l0, l3, l10, l11, l13, l14, r224, r225, r226, r227, r128, r129, r192, r96⟩ := hD.1
  exact ⟨l4, l6, l10, l11, r128, r129, r192, hX⟩
/-- what isn't there yet -/
def Fresh (S : gS) : Prop := (∀ j, jn S ≤ j → (2, j, 0) ∉ gL S ∧ (1, j, 0) ∉ gL S ∧ (12, j, 0) ∉ gL S ∧ (15, j, 0) ∉ gL S) ∧ ∀ j t, (jn S ≤ j ∨ jc S j ≤ t) → (5, j, t) ∉ gL S
def oJob (S : gS) (rank : Int32) (r : Option gV) (S1 : gS) : Prop := (6 ≤ jn S ∧ r = thr 0 ∧ S1 = S) ∨ (jn S < 6 ∧ ∃ S', rdK S S' ∧ ((∃ q, rd (xc S) 5 0 0 = some q ∧ q ≤ 60 ∧ r = thr 1 ∧ S1 = sfI S' 229 0 0 (nI q)) ∨ (rd (xc S) 5 0 0 = none ∧ rIn (xc S) 5 S' ∧ r = some (vI (nI (jn S))) ∧ S1 = tJob (sfI S' 229 0 0 (-1)) rank (jn S))))
def tTaskS (S : gS) (k c : Nat) (nd mt pz : Int32) : gS := sfI (saR (sfI (sfI (sfI (sfI (sfI (sfI (snew S 5 k c) 163 k c 0) 164 k c 0) 165 k c 0) 160 k c nd) 161 k c mt) 162 k c pz) 15 k c (some (5, k, c))) 67 k 0 (nI (c + 1))
def badTask (S : gS) (k : Nat) (n t p : Int32) : Prop := ¬ n &&& (nI (2 ^ jc S k - 1) ^^^ (-1)) = 0 ∨ t < 1 ∨ 4 < t ∨ p < 0 ∨ 1000 < p
def oTask (S : gS) (j n t p : Int32) (r : Option gV) (S1 : gS) : Prop := (¬ isJ S j ∧ r = thr 2 ∧ S1 = S) ∨ ∃ k, k < jn S ∧ j = nI k ∧ (((6 ≤ jc S k ∨ ¬ fI S 68 k 0 = 0) ∧ r = thr 0 ∧ S1 = S) ∨ ((jc S k < 6 ∧ fI S 68 k 0 = 0) ∧ badTask S k n t p ∧ r = thr 1 ∧ S1 = S) ∨ ((jc S k < 6 ∧ fI S 68 k 0 = 0) ∧ ¬ badTask S k n t p ∧ r = some (vI (nI (jc S k))) ∧ S1 = tTaskS S k (jc S k) n t p))
theorem JobOk_new {S : gS} {j c k t : Nat} (h : JobOk S j c) : JobOk (snew S 5 k t) j c := by
  obtain ⟨a1, a2, a3, a4, a5, a6⟩ := h
  exact ⟨List.mem_append_left _ a1, List.mem_append_left _ a2, a3, a4, a5, fun t ht => ⟨List.mem_append_left _ (a6 t ht).1, (a6 t ht).2⟩⟩
set_option maxRecDepth 100000 in
set_option maxHeartbeats 2000000 in
theorem kX7_jobC {E : gE} {S : gS} {ad : gAd} {rank : Int32} {n : Nat} {Q : Option gV → gS → Prop} (l7 : lv S 7 0 0) (l4 : lv S 4 0 0) (l6 : lv S 6 0 0) (l14 : lv S 14 0 0) (l2 : lv S 2 n 0) (r224 : fR S 224 0 0 = some (4, 0, 0)) (r128 : fR S 128 0 0 = some (6, 0, 0)) (hn : fI S 228 0 0 = nI n) (hn6 : n < 6) (hQ : Q (some (vI (nI n))) (sfI (sfI (saR S 14 0 n (some (2, n, 0))) 193 0 0 0) 228 0 0 (nI (n + 1)))) : gG E mX7_job (gBoT 8 4 20 ad [(2, n, 0), (1, n, 0), (12, n, 0), (15, n, 0)] Q) 67 [some (vR 7 0 0), some (vI rank)] [vR 2 n 0, vI (nI n), vR 14 0 0] S 4 20 := by
  refine g_aastJ (pc' := 68) (n := n) dX7_job_67 rfl (by decide) rfl rfl (show n < 6 from hn6) l14 l2 ?_
  refine g_aload_n (pc' := 69) dX7_job_68 rfl rfl ?_
  refine ggX7_10 (pc' := 72) rfl dX7_job_69 rfl l7 r224 ?_
  refine ggX7_56 (pc' := 75) rfl dX7_job_72 rfl l4 r128 ?_
  refine gcv0 (pc' := 78) cwX7_83 cf6 dX7_job_75 rfl l6 (Nat.le_of_ble_eq_true rfl) (Nat.le_of_ble_eq_true rfl) (Nat.le_of_ble_eq_true rfl) (Nat.le_of_ble_eq_true rfl) (Nat.le_of_ble_eq_true rfl) (kX6_clear l6 ?_)
  refine g_aload_n (pc' := 79) dX7_job_78 rfl rfl ?_
  refine g_dup (pc' := 80) dX7_job_79 rfl rfl ?_
  refine ggX7_36 (pc' := 83) rfl dX7_job_80 rfl l7 ?_
  rw [show fI (sfI (saR S 14 0 n (some (2, n, 0))) 193 0 0 0) 228 0 0 = nI n from hn]
  refine g_dup_x1 (pc' := 84) dX7_job_83 rfl rfl rfl ?_
  refine g_iconst (pc' := 85) (v := 1) dX7_job_84 rfl rfl ?_
  refine g_iadd (pc' := 86) dX7_job_85 rfl ?_
  rw [nI_1]
  refine gpX7_36 (pc' := 89) rfl dX7_job_86 rfl l7 ?_
  refine g_iret dX7_job_89 rfl rfl (Nat.le_of_ble_eq_true rfl) (Nat.le_of_ble_eq_true rfl) ?_
  exact hQ

theorem tJb0_f {S : gS} {n : Nat} {rank : Int32} : fI (tJb0 S n rank) 228 0 0 = fI S 228 0 0 := rfl
theorem tJb0_r1 {S : gS} {n : Nat} {rank : Int32} : fR (tJb0 S n rank) 224 0 0 = fR S 224 0 0 := rfl
theorem tJb0_r2 {S : gS} {n : Nat} {rank : Int32} : fR (tJb0 S n rank) 128 0 0 = fR S 128 0 0 := rfl
theorem tEx0_f {S : gS} {n : Nat} {b : Int32} : fI (tEx0 S n b) 228 0 0 = fI S 228 0 0 := rfl
theorem tEx0_r1 {S : gS} {n : Nat} {b : Int32} : fR (tEx0 S n b) 224 0 0 = fR S 224 0 0 := rfl
theorem tEx0_r2 {S : gS} {n : Nat} {b : Int32} : fR (tEx0 S n b) 128 0 0 = fR S 128 0 0 := rfl
set_option maxRecDepth 100000 in
set_option maxHeartbeats 2000000 in
theorem kX7_jobB {E : gE} {S : gS} {ad : gAd} {rank : Int32} {n : Nat} {Q : Option gV → gS → Prop} (l7 : lv S 7 0 0) (l4 : lv S 4 0 0) (l6 : lv S 6 0 0) (l14 : lv S 14 0 0) (l2 : lv S 2 n 0) (l1 : lv S 1 n 0) (r224 : fR S 224 0 0 = some (4, 0, 0)) (r128 : fR S 128 0 0 = some (6, 0, 0)) (hn : fI S 228 0 0 = nI n) (hn6 : n < 6) (f15 : (15, n, 0) ∉ gL S) (hQ : Q (some (vI (nI n))) (sfI (sfI (saR (tJb0 S n rank) 14 0 n (some (2, n, 0))) 193 0 0 0) 228 0 0 (nI (n + 1)))) : gG E mX7_job (gBoT 8 4 20 ad [(2, n, 0), (1, n, 0), (12, n, 0), (15, n, 0)] Q) 64 [some (vR 7 0 0), some (vI rank)] [vR 1 n 0, vI rank, vR 2 n 0, vR 2 n 0, vI (nI n), vR 14 0 0] S 3 14 := by
  refine g_callI (as := [vI rank, vR 1 n 0]) (q := (2, n, 0)) (mc := 1) (ms := 6) (Nw := [(15, n, 0)]) (pc' := 67) cwX7_80 dX7_job_64 rfl rfl rfl (Nat.le_of_ble_eq_true rfl) (Nat.le_of_ble_eq_true rfl) (Nat.le_of_ble_eq_true rfl) (by simp [gNo]) (by simp [gNo]) (by simp [bN, gBoT]) (Nat.le_of_ble_eq_true rfl) (Nat.le_of_ble_eq_true rfl) (kX2_init l2 l1 f15 ?_)
  exact kX7_jobC (lv_up l7 (tJb0_L _ _ _)) (lv_up l4 (tJb0_L _ _ _)) (lv_up l6 (tJb0_L _ _ _)) (lv_up l14 (tJb0_L _ _ _)) (lv_up l2 (tJb0_L _ _ _)) (tJb0_r1.trans r224) (tJb0_r2.trans r128) (tJb0_f.trans hn) hn6 hQ

set_option maxRecDepth 100000 in
set_option maxHeartbeats 2000000 in
theorem kX7_jobA2 {E : gE} {S : gS} {ad : gAd} {rank : Int32} {n : Nat} {Q : Option gV → gS → Prop} (l7 : lv S 7 0 0) (l4 : lv S 4 0 0) (l6 : lv S 6 0 0) (l14 : lv S 14 0 0) (l11 : lv S 11 0 0) (l2 : lv S 2 n 0) (r129 : fR S 129 0 0 = some (11, 0, 0)) (r224 : fR S 224 0 0 = some (4, 0, 0)) (r128 : fR S 128 0 0 = some (6, 0, 0)) (hn : fI S 228 0 0 = nI n) (hn6 : n < 6) (f1 : (1, n, 0) ∉ gL S) (f12 : (12, n, 0) ∉ gL S) (f15 : (15, n, 0) ∉ gL S) (hQ : Q (some (vI (nI n))) (sfI (sfI (saR (tJb0 (tEx0 S n (bI (decide (¬ fI S 130 0 0 = 0 ∨ ¬ fI S 131 0 0 = 0)))) n rank) 14 0 n (some (2, n, 0))) 193 0 0 0) 228 0 0 (nI (n + 1)))) : gG E mX7_job (gBoT 8 4 20 ad [(2, n, 0), (1, n, 0), (12, n, 0), (15, n, 0)] Q) 61 [some (vR 7 0 0), some (vI rank)] [vR 4 0 0, vI rank, vR 2 n 0, vR 2 n 0, vI (nI n), vR 14 0 0] S 1 7 := by
  refine g_callV (My := mX4_expression) (d := 3) (as := []) (q := (4, 0, 0)) (mc := 2) (ms := 7) (Nw := [(1, n, 0), (12, n, 0)]) (pc' := 64) cwX7_76 cf4 dX7_job_61 rfl rfl rfl l4 (Nat.le_of_ble_eq_true rfl) (Nat.le_of_ble_eq_true rfl) (Nat.le_of_ble_eq_true rfl) (by simp [gNo]) (by simp [gNo]) (by simp [bN, gBoT]) (Nat.le_of_ble_eq_true rfl) (Nat.le_of_ble_eq_true rfl) (kX4_expression l4 l11 r129 f1 f12 ?_)
  exact kX7_jobB (lv_up l7 (tEx0_L _ _ _)) (lv_up l4 (tEx0_L _ _ _)) (lv_up l6 (tEx0_L _ _ _)) (lv_up l14 (tEx0_L _ _ _)) (lv_up l2 (tEx0_L _ _ _)) (by rw [lv, tEx0_L]; simp) (tEx0_r1.trans r224) (tEx0_r2.trans r128) (tEx0_f.trans hn) hn6 (by rw [tEx0_L]; exact gfr f15 (by simp)) hQ

set_option maxRecDepth 100000 in
set_option maxHeartbeats 2000000 in
theorem kX7_jobM {E : gE} {S : gS} {ad : gAd} {rank : Int32} {n : Nat} {Q : Option gV → gS → Prop} (hD : DeskOk S) (hn : fI S 228 0 0 = nI n) (hn6 : n < 6) (f2 : (2, n, 0) ∉ gL S) (f1 : (1, n, 0) ∉ gL S) (f12 : (12, n, 0) ∉ gL S) (f15 : (15, n, 0) ∉ gL S) (hQ : Q (some (vI (nI n))) (tJob S rank n)) : gG E mX7_job (gBoT 8 4 20 ad [(2, n, 0), (1, n, 0), (12, n, 0), (15, n, 0)] Q) 44 [some (vR 7 0 0), some (vI rank)] [] S 0 0 := by
  obtain ⟨l7, l4, l6, l0, l3, l10, l11, l13, l14, r224, r225, r226, r227, r128, r129, r192, r96⟩ := hD.1
  refine g_aload_n (pc' := 45) dX7_job_44 rfl rfl ?_
  refine ggX7_32 (pc' := 48) rfl dX7_job_45 rfl l7 r227 ?_
  refine g_aload_n (pc' := 49) dX7_job_48 rfl rfl ?_
  refine ggX7_36 (pc' := 52) rfl dX7_job_49 rfl l7 ?_
  rw [hn]
  refine g_new (pc' := 55) (k := 2) (j := n) (t := 0) cf2 clX7_30 ia2 inX2 dX7_job_52 rfl f2 (by simp [bN, gBoT]) (by simp [gNo]) (by simp [gNo]) (Nat.le_of_ble_eq_true rfl) (Nat.le_of_ble_eq_true rfl) ?_
  have l7 : lv (snew S 2 n 0) 7 0 0 := List.mem_append_left _ l7
  have l4 : lv (snew S 2 n 0) 4 0 0 := List.mem_append_left _ l4
  have l11 : lv (snew S 2 n 0) 11 0 0 := List.mem_append_left _ l11
  have l14 : lv (snew S 2 n 0) 14 0 0 := List.mem_append_left _ l14
  have l6 : lv (snew S 2 n 0) 6 0 0 := List.mem_append_left _ l6
  refine g_dup (pc' := 56) dX7_job_55 rfl rfl ?_
  refine g_iload_n (pc' := 57) dX7_job_56 rfl rfl ?_
  refine g_aload_n (pc' := 58) dX7_job_57 rfl rfl ?_
  refine ggX7_10 (pc' := 61) rfl dX7_job_58 rfl l7 r224 ?_
  exact kX7_jobA2 l7 l4 l6 l14 l11 lv_new r129 r224 r128 hn hn6 (gfr f1 (by simp)) (gfr f12 (by simp)) (gfr f15 (by simp)) hQ

set_option maxRecDepth 100000 in
set_option maxHeartbeats 2000000 in
theorem kX7_job {E : gE} {S : gS} {rank : Int32} {Q : Option gV → gS → Prop} (hD : DeskOk S) (hX : TextOk S) (hF : Fresh S) (hQ : ∀ r S1, oJob S rank r S1 → Q r S1) : gRunT E mX7_job 8 4 20 [vR 7 0 0, vI rank] S [(2, jn S, 0), (1, jn S, 0), (12, jn S, 0), (15, jn S, 0)] Q := by
  refine gRunT_of (ls := [some (vR 7 0 0), some (vI rank)]) rfl (Nat.le_of_ble_eq_true rfl) rfl (fun ad => ?_)
  obtain ⟨l7, l4, l6, l0, l3, l10, l11, l13, l14, r224, r225, r226, r227, r128, r129, r192, r96⟩ := hD.1
  have hn := hD.2.1
  have hn6 := hD.2.2.1
  refine g_aload_n (pc' := 1) dX7_job_0 rfl rfl ?_
  refine ggX7_36 (pc' := 4) rfl dX7_job_1 rfl l7 ?_
  refine g_bipush (pc' := 6) (v := 6) dX7_job_4 rfl rfl ?_
  refine g_icmp_lt dX7_job_6 (tg := 17) (pc' := 9) (by decide) rfl (fun h6 => ?_) (fun h6 => ?_)
  · refine g_aload_n (pc' := 18) dX7_job_17 rfl rfl ?_
    refine g_aload_n (pc' := 19) dX7_job_18 rfl rfl ?_
    refine ggX7_10 (pc' := 22) rfl dX7_job_19 rfl l7 r224 ?_
    refine gcv0 (pc' := 25) cwX7_69 cf4 dX7_job_22 rfl l4 (Nat.le_of_ble_eq_true rfl) (Nat.le_of_ble_eq_true rfl) (Nat.le_of_ble_eq_true rfl) (Nat.le_of_ble_eq_true rfl) (Nat.le_of_ble_eq_true rfl) (kX4_read (x := xc S) (RdOk_of hD hX) rfl ?_)
    intro S' hK hIn hQ60
    have hj6 : jn S < 6 := by
      rw [hn, show (6 : Int32) = nI 6 from rfl, nI_ltI (by omega) (by omega)] at h6
      exact h6
    have hDR := hD.rd hK
    have l7R : lv S' 7 0 0 := hDR.1.1
    cases e : rd (xc S) 5 0 0 with
    | none =>
          refine gpX7_40 (pc' := 28) rfl dX7_job_25 rfl l7R ?_
          refine g_aload_n (pc' := 29) dX7_job_28 rfl rfl ?_
          refine ggX7_40 (pc' := 32) rfl dX7_job_29 rfl l7R ?_
          refine g_iconst (pc' := 33) (v := (-1)) dX7_job_32 rfl rfl ?_
          refine g_icmp_eq dX7_job_33 (tg := 44) (pc' := 36) (by decide) rfl (fun h33 => ?_) (fun h33 => absurd rfl h33)
          have k228 : fI (sfI S' 229 0 0 (oI none)) 228 0 0 = nI (jn S) := by
            rw [show fI (sfI S' 229 0 0 (oI none)) 228 0 0 = fI S' 228 0 0 from rfl, hK.2.2.2.2.1 228 0 0 (by decide) (by decide) (by decide) (by decide)]
            exact hn
          have eL : gL (sfI S' 229 0 0 (oI none)) = gL S := hK.1
          obtain ⟨f2, f1, f12, f15⟩ := hF.1 (jn S) (Nat.le_refl _)
          exact kX7_jobM (hDR.eqv rfl rfl rfl rfl (fun _ => rfl)) k228 hj6 (by rw [eL]; exact f2) (by rw [eL]; exact f1) (by rw [eL]; exact f12) (by rw [eL]; exact f15) (hQ _ _ (Or.inr ⟨hj6, S', hK, Or.inr ⟨e, hIn e, rfl, rfl⟩⟩))
    | some q =>
          have hq : q ≤ 60 := hQ60 q e
          refine gpX7_40 (pc' := 28) rfl dX7_job_25 rfl l7R ?_
          refine g_aload_n (pc' := 29) dX7_job_28 rfl rfl ?_
          refine ggX7_40 (pc' := 32) rfl dX7_job_29 rfl l7R ?_
          refine g_iconst (pc' := 33) (v := (-1)) dX7_job_32 rfl rfl ?_
          refine g_icmp_eq dX7_job_33 (tg := 44) (pc' := 36) (by decide) rfl (fun h33 => absurd h33 (nI_ne1 (by omega))) (fun h33 => ?_)
          refine g_throw (thr1 rfl) rfl (Nat.le_of_ble_eq_true rfl) dX7_job_36 dX7_job_39 dX7_job_40 dX7_job_43 (Nat.le_of_ble_eq_true rfl) (Nat.le_of_ble_eq_true rfl) ?_
          exact hQ _ _ (Or.inr ⟨hj6, S', hK, Or.inl ⟨q, e, hq, rfl, rfl⟩⟩)
  · refine g_throw (thr0 rfl) rfl (Nat.le_of_ble_eq_true rfl) dX7_job_9 dX7_job_12 dX7_job_13 dX7_job_16 (Nat.le_of_ble_eq_true rfl) (Nat.le_of_ble_eq_true rfl) ?_
    exact hQ _ _ (Or.inl ⟨by rw [hn, show (6 : Int32) = nI 6 from rfl, nI_ltI (by omega) (by omega)] at h6; omega, rfl, rfl⟩)

set_option maxRecDepth 100000 in
set_option maxHeartbeats 2000000 in
theorem kX7_task {E : gE} {S : gS} {j n t p : Int32} {Nw : List gId} {Q : Option gV → gS → Prop} (hD : DeskOk S) (hF : Fresh S) (hNw : ∀ k, k < jn S → j = nI k → (5, k, jc S k) ∈ Nw) (hQ : ∀ r S1, oTask S j n t p r S1 → Q r S1) : gRunT E mX7_task 7 1 6 [vR 7 0 0, vI j, vI n, vI t, vI p] S Nw Q := by
  refine gRunT_of (ls := [some (vR 7 0 0), some (vI j), some (vI n), some (vI t), some (vI p), none, none]) rfl (Nat.le_of_ble_eq_true rfl) rfl (fun ad => ?_)
  obtain ⟨l7, l4, l6, l0, l3, l10, l11, l13, l14, r224, r225, r226, r227, r128, r129, r192, r96⟩ := hD.1
  have hn := hD.2.1
  have hn6 := hD.2.2.1
  refine g_aload_n (pc' := 1) dX7_task_0 rfl rfl ?_
  refine g_iload_n (pc' := 2) dX7_task_1 rfl rfl ?_
  refine gcv1 (pc' := 5) cwX7_86 cf7 dX7_task_2 rfl l7 (Nat.le_of_ble_eq_true rfl) (Nat.le_of_ble_eq_true rfl) (Nat.le_of_ble_eq_true rfl) (Nat.le_of_ble_eq_true rfl) (Nat.le_of_ble_eq_true rfl) (kX7_isJob l7 ?_)
  refine g_if_ne dX7_task_5 (tg := 16) (pc' := 8) (by decide) rfl (fun h5 => ?_) (fun h5 => ?_)
  · obtain ⟨k, hk, rfl⟩ := isJob_nat hD (bdp h5)
    obtain ⟨hJ, ra, l1, l12, r65, r32⟩ := hD.2.2.2 k hk
    have l2 := hJ.1
    have hc := hJ.2.2.2.1
    have hc6 := hJ.2.2.2.2.1
    refine g_aload_n (pc' := 17) dX7_task_16 rfl rfl ?_
    refine ggX7_32 (pc' := 20) rfl dX7_task_17 rfl l7 r227 ?_
    refine g_iload_n (pc' := 21) dX7_task_20 rfl rfl ?_
    refine g_aaldJ (pc' := 22) (n := k) dX7_task_21 rfl (by decide) rfl rfl (show k < 6 by omega) l14 ra ?_
    refine gastore5 (pc' := 24) dX7_task_22 rfl (Nat.le_of_ble_eq_true rfl) rfl ?_
    refine g_aload (pc' := 26) dX7_task_24 rfl rfl ?_
    refine ggX7_93 (pc' := 29) rfl dX7_task_26 rfl l2 ?_
    refine g_bipush (pc' := 31) (v := 6) dX7_task_29 rfl rfl ?_
    refine g_icmp_ge dX7_task_31 (tg := 42) (pc' := 34) (by decide) rfl (fun h31 => ?_) (fun h31 => ?_)
    · refine g_throw (thr0 rfl) rfl (Nat.le_of_ble_eq_true rfl) dX7_task_42 dX7_task_45 dX7_task_46 dX7_task_49 (Nat.le_of_ble_eq_true rfl) (Nat.le_of_ble_eq_true rfl) ?_
      refine hQ _ _ (Or.inr ⟨k, hk, rfl, Or.inl ⟨?_, rfl, rfl⟩⟩)
      first
        | exact Or.inr h39
        | (rw [hc, show (6 : Int32) = nI 6 from rfl, nI_leI (by omega) (by omega)] at h31
           exact Or.inl h31)
    · have hct : jc S k < 6 := by
        rw [hc, show (6 : Int32) = nI 6 from rfl, nI_leI (by omega) (by omega)] at h31
        omega
      refine g_aload (pc' := 36) dX7_task_34 rfl rfl ?_
      refine ggX7_96 (pc' := 39) rfl dX7_task_36 rfl l2 ?_
      refine g_if_eq dX7_task_39 (tg := 50) (pc' := 42) (by decide) rfl (fun h39 => ?_) (fun h39 => ?_)
      · refine g_iload_n (pc' := 51) dX7_task_50 rfl rfl ?_
        refine g_aload (pc' := 53) dX7_task_51 rfl rfl ?_
        refine gcv0 (pc' := 56) cwX7_99 cf2 dX7_task_53 rfl l2 (Nat.le_of_ble_eq_true rfl) (Nat.le_of_ble_eq_true rfl) (Nat.le_of_ble_eq_true rfl) (Nat.le_of_ble_eq_true rfl) (Nat.le_of_ble_eq_true rfl) (kX2_allTasks hJ ?_)
        refine g_iconst (pc' := 57) (v := (-1)) dX7_task_56 rfl rfl ?_
        refine g_ixor (pc' := 58) dX7_task_57 rfl ?_
        refine g_iand (pc' := 59) dX7_task_58 rfl ?_
        refine g_if_eq dX7_task_59 (tg := 66) (pc' := 62) (by decide) rfl (fun h59 => ?_) (fun h59 => ?_)
        · refine g_iconst (pc' := 67) (v := 0) dX7_task_66 rfl rfl ?_
          refine gistore6 (pc' := 69) dX7_task_67 rfl (Nat.le_of_ble_eq_true rfl) rfl ?_
          refine g_iload (pc' := 71) dX7_task_69 rfl rfl ?_
          refine g_if_ne dX7_task_71 (tg := 97) (pc' := 74) (by decide) rfl (fun h71 => absurd (by decide) h71) (fun h71 => ?_)
          refine g_iload_n (pc' := 75) dX7_task_74 rfl rfl ?_
          refine g_iconst (pc' := 76) (v := 1) dX7_task_75 rfl rfl ?_
          refine g_icmp_lt dX7_task_76 (tg := 97) (pc' := 79) (by decide) rfl (fun h76 => ?_) (fun h76 => ?_)
          · refine g_throw (thr1 rfl) rfl (Nat.le_of_ble_eq_true rfl) dX7_task_97 dX7_task_100 dX7_task_101 dX7_task_104 (Nat.le_of_ble_eq_true rfl) (Nat.le_of_ble_eq_true rfl) ?_
            refine hQ _ _ (Or.inr ⟨k, hk, rfl, Or.inr (Or.inl ⟨⟨hct, h39⟩, ?_, rfl, rfl⟩)⟩)
            first
              | exact Or.inr (Or.inr (Or.inr (Or.inr (Int32.not_le.mp h94))))
              | exact Or.inr (Or.inr (Or.inr (Or.inl h86)))
              | exact Or.inr (Or.inr (Or.inl h81))
              | exact Or.inr (Or.inl h76)
              | exact Or.inl h59
          · refine g_iload_n (pc' := 80) dX7_task_79 rfl rfl ?_
            refine g_iconst (pc' := 81) (v := 4) dX7_task_80 rfl rfl ?_
            refine g_icmp_gt dX7_task_81 (tg := 97) (pc' := 84) (by decide) rfl (fun h81 => ?_) (fun h81 => ?_)
            · refine g_throw (thr1 rfl) rfl (Nat.le_of_ble_eq_true rfl) dX7_task_97 dX7_task_100 dX7_task_101 dX7_task_104 (Nat.le_of_ble_eq_true rfl) (Nat.le_of_ble_eq_true rfl) ?_
              refine hQ _ _ (Or.inr ⟨k, hk, rfl, Or.inr (Or.inl ⟨⟨hct, h39⟩, ?_, rfl, rfl⟩)⟩)
              first
                | exact Or.inr (Or.inr (Or.inr (Or.inr (Int32.not_le.mp h94))))
                | exact Or.inr (Or.inr (Or.inr (Or.inl h86)))
                | exact Or.inr (Or.inr (Or.inl h81))
                | exact Or.inr (Or.inl h76)
                | exact Or.inl h59
            · refine g_iload (pc' := 86) dX7_task_84 rfl rfl ?_
              refine g_if_lt dX7_task_86 (tg := 97) (pc' := 89) (by decide) rfl (fun h86 => ?_) (fun h86 => ?_)
              · refine g_throw (thr1 rfl) rfl (Nat.le_of_ble_eq_true rfl) dX7_task_97 dX7_task_100 dX7_task_101 dX7_task_104 (Nat.le_of_ble_eq_true rfl) (Nat.le_of_ble_eq_true rfl) ?_
                refine hQ _ _ (Or.inr ⟨k, hk, rfl, Or.inr (Or.inl ⟨⟨hct, h39⟩, ?_, rfl, rfl⟩)⟩)
                first
                  | exact Or.inr (Or.inr (Or.inr (Or.inr (Int32.not_le.mp h94))))
                  | exact Or.inr (Or.inr (Or.inr (Or.inl h86)))
                  | exact Or.inr (Or.inr (Or.inl h81))
                  | exact Or.inr (Or.inl h76)
                  | exact Or.inl h59
              · refine g_iload (pc' := 91) dX7_task_89 rfl rfl ?_
                refine g_sipush (pc' := 94) (v := 1000) dX7_task_91 rfl rfl ?_
                refine g_icmp_le dX7_task_94 (tg := 105) (pc' := 97) (by decide) rfl (fun h94 => ?_) (fun h94 => ?_)
                · refine g_aload (pc' := 107) dX7_task_105 rfl rfl ?_
                  refine g_new (pc' := 110) (k := 5) (j := k) (t := jc S k) cf5 clX7_102 ia5 inX5 dX7_task_107 rfl (hF.2 k (jc S k) (Or.inr (Nat.le_refl _))) (show (5, k, jc S k) ∈ Nw from hNw k hk rfl) (by simp [gNo]) (by simp [gNo]) (Nat.le_of_ble_eq_true rfl) (Nat.le_of_ble_eq_true rfl) ?_
                  refine g_dup (pc' := 111) dX7_task_110 rfl rfl ?_
                  refine g_iload_n (pc' := 112) dX7_task_111 rfl rfl ?_
                  refine g_iload_n (pc' := 113) dX7_task_112 rfl rfl ?_
                  refine g_iload (pc' := 115) dX7_task_113 rfl rfl ?_
                  refine g_callI (as := [vI n, vI t, vI p]) (q := (5, k, jc S k)) (mc := 0) (ms := 0) (Nw := []) (pc' := 118) cwX7_104 dX7_task_115 rfl rfl rfl (Nat.le_of_ble_eq_true rfl) (Nat.le_of_ble_eq_true rfl) (Nat.le_of_ble_eq_true rfl) (by simp [gNo]) (by simp [gNo]) (by simp) (Nat.le_of_ble_eq_true rfl) (Nat.le_of_ble_eq_true rfl) (kX5_init lv_new ?_)
                  refine gcv1 (pc' := 121) cwX7_107 cf2 dX7_task_118 rfl (List.mem_append_left _ l2) (Nat.le_of_ble_eq_true rfl) (Nat.le_of_ble_eq_true rfl) (Nat.le_of_ble_eq_true rfl) (Nat.le_of_ble_eq_true rfl) (Nat.le_of_ble_eq_true rfl) (kX2_addTask (S := (sfI (sfI (sfI (sfI (sfI (sfI (snew S 5 k (jc S k)) 163 k (jc S k) 0) 164 k (jc S k) 0) 165 k (jc S k) 0) 160 k (jc S k) n) 161 k (jc S k) t) 162 k (jc S k) p)) (JobOk_new hJ) hct lv_new ?_)
                  refine g_iret dX7_task_121 rfl rfl (Nat.le_of_ble_eq_true rfl) (Nat.le_of_ble_eq_true rfl) ?_
                  refine hQ _ _ (Or.inr ⟨k, hk, rfl, Or.inr (Or.inr ⟨⟨hct, h39⟩, ?_, rfl, rfl⟩)⟩)
                  rintro (z | z | z | z | z)
                  · exact z h59
                  · exact h76 z
                  · exact h81 z
                  · exact h86 z
                  · exact Int32.not_le.mpr z h94
                · refine g_throw (thr1 rfl) rfl (Nat.le_of_ble_eq_true rfl) dX7_task_97 dX7_task_100 dX7_task_101 dX7_task_104 (Nat.le_of_ble_eq_true rfl) (Nat.le_of_ble_eq_true rfl) ?_
                  refine hQ _ _ (Or.inr ⟨k, hk, rfl, Or.inr (Or.inl ⟨⟨hct, h39⟩, ?_, rfl, rfl⟩)⟩)
                  first
                    | exact Or.inr (Or.inr (Or.inr (Or.inr (Int32.not_le.mp h94))))
                    | exact Or.inr (Or.inr (Or.inr (Or.inl h86)))
                    | exact Or.inr (Or.inr (Or.inl h81))
                    | exact Or.inr (Or.inl h76)
                    | exact Or.inl h59
        · refine g_iconst (pc' := 63) (v := 1) dX7_task_62 rfl rfl ?_
          refine g_goto dX7_task_63 (pc' := 67) (by decide) ?_
          refine gistore6 (pc' := 69) dX7_task_67 rfl (Nat.le_of_ble_eq_true rfl) rfl ?_
          refine g_iload (pc' := 71) dX7_task_69 rfl rfl ?_
          refine g_if_ne dX7_task_71 (tg := 97) (pc' := 74) (by decide) rfl (fun h71 => ?_) (fun h71 => absurd h71 (by decide))
          refine g_throw (thr1 rfl) rfl (Nat.le_of_ble_eq_true rfl) dX7_task_97 dX7_task_100 dX7_task_101 dX7_task_104 (Nat.le_of_ble_eq_true rfl) (Nat.le_of_ble_eq_true rfl) ?_
          refine hQ _ _ (Or.inr ⟨k, hk, rfl, Or.inr (Or.inl ⟨⟨hct, h39⟩, ?_, rfl, rfl⟩)⟩)
          first
            | exact Or.inr (Or.inr (Or.inr (Or.inr (Int32.not_le.mp h94))))
            | exact Or.inr (Or.inr (Or.inr (Or.inl h86)))
            | exact Or.inr (Or.inr (Or.inl h81))
            | exact Or.inr (Or.inl h76)
            | exact Or.inl h59
      · refine g_throw (thr0 rfl) rfl (Nat.le_of_ble_eq_true rfl) dX7_task_42 dX7_task_45 dX7_task_46 dX7_task_49 (Nat.le_of_ble_eq_true rfl) (Nat.le_of_ble_eq_true rfl) ?_
        refine hQ _ _ (Or.inr ⟨k, hk, rfl, Or.inl ⟨?_, rfl, rfl⟩⟩)
        first
          | exact Or.inr h39
          | (rw [hc, show (6 : Int32) = nI 6 from rfl, nI_leI (by omega) (by omega)] at h31
             exact Or.inl h31)
  · refine g_throw (thr2 rfl) rfl (Nat.le_of_ble_eq_true rfl) dX7_task_8 dX7_task_11 dX7_task_12 dX7_task_15 (Nat.le_of_ble_eq_true rfl) (Nat.le_of_ble_eq_true rfl) ?_
    exact hQ _ _ (Or.inl ⟨bdn h5, rfl, rfl⟩)

