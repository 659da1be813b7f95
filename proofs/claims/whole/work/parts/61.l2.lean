/-! THE LAW (2): its methods with handlers -/
def aW (tb : List Nat) (r : Option gV) (C1 : gS) (code : Int32) (S' : gS) : Prop := (∃ x : Int32, r = some (vI x) ∧ code = 0 ∧ S' = saL C1 16 0 0 x.toInt64) ∨ ∃ n i, r = thr n ∧ i < 3 ∧ tb[i]? = some n ∧ code = nI (i + 1) ∧ S' = C1
def aW0 (tb : List Nat) (r : Option gV) (C1 : gS) (code : Int32) (S' : gS) : Prop := (r = none ∧ code = 0 ∧ S' = C1) ∨ ∃ n i, r = thr n ∧ i < 3 ∧ tb[i]? = some n ∧ code = nI (i + 1) ∧ S' = C1
abbrev mL_job : gM := (⟨"TimedRunsLaw", "job", "(LTimedRuns;I[J)I"⟩, cL_job, 4, some .int)
theorem cdL_job : Cond.codeWith mL_job.1 mL_job.2.1 mL_job.2.2.1 mL_job.2.2.2 (gTab mL_job.1.name) ∈ lwG := mG 255 (by decide +kernel) (by decide +kernel)
theorem gt_job : tableOf (gTab mL_job.1.name) = [⟨0, 9, 12, 13⟩, ⟨0, 9, 15, 15⟩] := by decide +kernel
theorem oJob_r {S C1 : gS} {rank : Int32} {r : Option gV} (h : oJob S rank r C1) : (∃ n, r = thr n ∧ n ∈ ([0, 1] : List Nat)) ∨ (∃ x : Int32, r = some (vI x)) := by
  rcases h with ⟨-, rfl, -⟩ | ⟨-, S', -, ⟨q, -, -, rfl, -⟩ | ⟨-, -, rfl, -⟩⟩
  · exact Or.inl ⟨0, rfl, by decide⟩
  · exact Or.inl ⟨1, rfl, by decide⟩
  · exact Or.inr ⟨_, rfl⟩
set_option maxRecDepth 100000 in
set_option maxHeartbeats 2000000 in
theorem kL_job {E : gE} {S : gS} {rank : Int32} {Q : Option gV → gS → Prop} (hD : DeskOk S) (hX : TextOk S) (hF : Fresh S) (hL : ∀ r C1, oJob S rank r C1 → lv C1 16 0 0) (hQ : ∀ r C1 code S', oJob S rank r C1 → aW [0, 1] r C1 code S' → Q (some (vI code)) S') : gRunW E mL_job 9 4 20 [vR 7 0 0, vI rank, vR 16 0 0] S [(2, jn S, 0), (1, jn S, 0), (12, jn S, 0), (15, jn S, 0)] Q := by
  refine gRunW_of (ls := [some (vR 7 0 0), some (vI rank), some (vR 16 0 0), none]) rfl (Nat.le_of_ble_eq_true rfl) rfl (fun ad => ?_)
  refine g_aload_n (pc' := 1) dL_job_0 rfl rfl ?_
  refine g_iconst (pc' := 2) (v := 0) dL_job_1 rfl rfl ?_
  refine g_aload_n (pc' := 3) dL_job_2 rfl rfl ?_
  refine g_iload_n (pc' := 4) dL_job_3 rfl rfl ?_
  refine g_callT (My := mX7_job) (d := 8) (mc := 4) (ms := 20) (as := [vI rank]) (q := (7, 0, 0)) (Nw := [(2, jn S, 0), (1, jn S, 0), (12, jn S, 0), (15, jn S, 0)]) (pc' := 7) cwL_7 cf7 dL_job_4 rfl rfl rfl hD.1.1 (Nat.le_of_ble_eq_true rfl) (Nat.le_of_ble_eq_true rfl) (Nat.le_of_ble_eq_true rfl) (by simp [gNo]) (by simp [gNo]) (by simp [bN, gBoW]) (Nat.le_of_ble_eq_true rfl) (Nat.le_of_ble_eq_true rfl) rfl (kX7_job hD hX hF ?_)
  intro r C1 ho
  refine ⟨fun n hn => ?_, fun hn => ?_⟩
  · have hnm : n ∈ ([0, 1] : List Nat) := by
      rcases oJob_r ho with ⟨n', e1, e2⟩ | hv
      · have e3 : n = n' := by
          have e4 : some (vR 100 n 0) = some (vR 100 n' 0) := hn.symm.trans e1
          injection e4 with e4
          injection e4 with e4
          injection e4 with e4 e5
          injection e5 with e5
        rw [e3]; exact e2
      · obtain ⟨x, e1⟩ := hv
        rw [e1] at hn
        injection hn with hn
        cases hn
    subst hn
    simp only [List.mem_cons, List.not_mem_nil, or_false] at hnm
    rcases hnm with rfl | rfl
    · refine ⟨[], ⟨0, 9, 12, 13⟩, [⟨0, 9, 15, 15⟩], gt_job, (fun z hz => absurd hz List.not_mem_nil), by decide, by decide, clL_13, mN 264 (by decide +kernel) (by decide +kernel), fun a => ?_⟩
      refine g_astoreV_n (pc' := 13) dL_job_12 rfl (Nat.le_of_ble_eq_true rfl) rfl ?_
      refine g_iconst (pc' := 14) (v := 1) dL_job_13 rfl rfl ?_
      refine g_iret dL_job_14 rfl rfl (Nat.le_of_ble_eq_true rfl) (Nat.le_of_ble_eq_true rfl) ?_
      exact hQ _ _ _ _ ho (Or.inr ⟨0, 0, rfl, by decide, rfl, rfl, rfl⟩)
    · refine ⟨[⟨0, 9, 12, 13⟩], ⟨0, 9, 15, 15⟩, [], gt_job, (fun z hz => by
      simp only [List.mem_cons, List.not_mem_nil, or_false] at hz
      rcases hz with rfl
      · exact ⟨by decide, _, clL_13, by decide +kernel⟩), by decide, by decide, clL_15, mN 363 (by decide +kernel) (by decide +kernel), fun a => ?_⟩
      refine g_astoreV_n (pc' := 16) dL_job_15 rfl (Nat.le_of_ble_eq_true rfl) rfl ?_
      refine g_iconst (pc' := 17) (v := 2) dL_job_16 rfl rfl ?_
      refine g_iret dL_job_17 rfl rfl (Nat.le_of_ble_eq_true rfl) (Nat.le_of_ble_eq_true rfl) ?_
      exact hQ _ _ _ _ ho (Or.inr ⟨1, 1, rfl, by decide, rfl, rfl, rfl⟩)
  · have hv : ∃ x : Int32, r = some (vI x) := by
      rcases oJob_r ho with ⟨n', e1, -⟩ | hv
      · exact absurd e1 (hn n')
      · exact hv
    obtain ⟨x, rfl⟩ := hv
    refine g_i2l (pc' := 8) dL_job_7 rfl ?_
    refine g_last (pc' := 9) (n := 0) dL_job_8 rfl (by decide) rfl rfl (by decide) (hL _ _ ho) ?_
    refine g_goto dL_job_9 (pc' := 18) (by decide) ?_
    refine g_iconst (pc' := 19) (v := 0) dL_job_18 rfl rfl ?_
    refine g_iret dL_job_19 rfl rfl (Nat.le_of_ble_eq_true rfl) (Nat.le_of_ble_eq_true rfl) ?_
    exact hQ _ _ _ _ ho (Or.inl ⟨x, rfl, rfl, rfl⟩)

abbrev mL_task : gM := (⟨"TimedRunsLaw", "task", "(LTimedRuns;IIII[J)I"⟩, cL_task, 7, some .int)
theorem cdL_task : Cond.codeWith mL_task.1 mL_task.2.1 mL_task.2.2.1 mL_task.2.2.2 (gTab mL_task.1.name) ∈ lwG := mG 438 (by decide +kernel) (by decide +kernel)
theorem gt_task : tableOf (gTab mL_task.1.name) = [⟨0, 14, 17, 21⟩, ⟨0, 14, 21, 13⟩, ⟨0, 14, 25, 15⟩] := by decide +kernel
theorem oTask_r {S C1 : gS} {j n t p : Int32} {r : Option gV} (h : oTask S j n t p r C1) : (∃ n, r = thr n ∧ n ∈ ([2, 0, 1] : List Nat)) ∨ (∃ x : Int32, r = some (vI x)) := by
  rcases h with ⟨-, rfl, -⟩ | ⟨k, -, -, ⟨-, rfl, -⟩ | ⟨-, -, rfl, -⟩ | ⟨-, -, rfl, -⟩⟩
  · exact Or.inl ⟨2, rfl, by decide⟩
  · exact Or.inl ⟨0, rfl, by decide⟩
  · exact Or.inl ⟨1, rfl, by decide⟩
  · exact Or.inr ⟨_, rfl⟩
set_option maxRecDepth 100000 in
set_option maxHeartbeats 2000000 in
theorem kL_task {E : gE} {S : gS} {j n t p : Int32} {a b : Nat} {Q : Option gV → gS → Prop} (hD : DeskOk S) (hF : Fresh S) (hab : ∀ k, k < jn S → j = nI k → a = k ∧ b = jc S k) (hL : ∀ r C1, oTask S j n t p r C1 → lv C1 16 0 0) (hQ : ∀ r C1 code S', oTask S j n t p r C1 → aW [2, 0, 1] r C1 code S' → Q (some (vI code)) S') : gRunW E mL_task 8 1 6 [vR 7 0 0, vI j, vI n, vI t, vI p, vR 16 0 0] S [(5, a, b)] Q := by
  refine gRunW_of (ls := [some (vR 7 0 0), some (vI j), some (vI n), some (vI t), some (vI p), some (vR 16 0 0), none]) rfl (Nat.le_of_ble_eq_true rfl) rfl (fun ad => ?_)
  refine g_aload (pc' := 2) dL_task_0 rfl rfl ?_
  refine g_iconst (pc' := 3) (v := 0) dL_task_2 rfl rfl ?_
  refine g_aload_n (pc' := 4) dL_task_3 rfl rfl ?_
  refine g_iload_n (pc' := 5) dL_task_4 rfl rfl ?_
  refine g_iload_n (pc' := 6) dL_task_5 rfl rfl ?_
  refine g_iload_n (pc' := 7) dL_task_6 rfl rfl ?_
  refine g_iload (pc' := 9) dL_task_7 rfl rfl ?_
  refine g_callT (My := mX7_task) (d := 7) (mc := 1) (ms := 6) (as := [vI j, vI n, vI t, vI p]) (q := (7, 0, 0)) (Nw := [(5, a, b)]) (pc' := 12) cwL_17 cf7 dL_task_9 rfl rfl rfl hD.1.1 (Nat.le_of_ble_eq_true rfl) (Nat.le_of_ble_eq_true rfl) (Nat.le_of_ble_eq_true rfl) (by simp [gNo]) (by simp [gNo]) (by simp [bN, gBoW]) (Nat.le_of_ble_eq_true rfl) (Nat.le_of_ble_eq_true rfl) rfl (kX7_task hD hF (Nw := [(5, a, b)]) (fun k hk e => by obtain ⟨rfl, rfl⟩ := hab k hk e; exact List.mem_singleton.mpr rfl) ?_)
  intro r C1 ho
  refine ⟨fun n hn => ?_, fun hn => ?_⟩
  · have hnm : n ∈ ([2, 0, 1] : List Nat) := by
      rcases oTask_r ho with ⟨n', e1, e2⟩ | hv
      · have e3 : n = n' := by
          have e4 : some (vR 100 n 0) = some (vR 100 n' 0) := hn.symm.trans e1
          injection e4 with e4
          injection e4 with e4
          injection e4 with e4 e5
          injection e5 with e5
        rw [e3]; exact e2
      · obtain ⟨x, e1⟩ := hv
        rw [e1] at hn
        injection hn with hn
        cases hn
    subst hn
    simp only [List.mem_cons, List.not_mem_nil, or_false] at hnm
    rcases hnm with rfl | rfl | rfl
    · refine ⟨[], ⟨0, 14, 17, 21⟩, [⟨0, 14, 21, 13⟩, ⟨0, 14, 25, 15⟩], gt_task, (fun z hz => absurd hz List.not_mem_nil), by decide, by decide, clL_21, mN 446 (by decide +kernel) (by decide +kernel), fun a => ?_⟩
      refine g_astoreV (pc' := 19) dL_task_17 rfl (Nat.le_of_ble_eq_true rfl) rfl ?_
      refine g_iconst (pc' := 20) (v := 1) dL_task_19 rfl rfl ?_
      refine g_iret dL_task_20 rfl rfl (Nat.le_of_ble_eq_true rfl) (Nat.le_of_ble_eq_true rfl) ?_
      exact hQ _ _ _ _ ho (Or.inr ⟨2, 0, rfl, by decide, rfl, rfl, rfl⟩)
    · refine ⟨[⟨0, 14, 17, 21⟩], ⟨0, 14, 21, 13⟩, [⟨0, 14, 25, 15⟩], gt_task, (fun z hz => by
      simp only [List.mem_cons, List.not_mem_nil, or_false] at hz
      rcases hz with rfl
      · exact ⟨by decide, _, clL_21, by decide +kernel⟩), by decide, by decide, clL_13, mN 264 (by decide +kernel) (by decide +kernel), fun a => ?_⟩
      refine g_astoreV (pc' := 23) dL_task_21 rfl (Nat.le_of_ble_eq_true rfl) rfl ?_
      refine g_iconst (pc' := 24) (v := 2) dL_task_23 rfl rfl ?_
      refine g_iret dL_task_24 rfl rfl (Nat.le_of_ble_eq_true rfl) (Nat.le_of_ble_eq_true rfl) ?_
      exact hQ _ _ _ _ ho (Or.inr ⟨0, 1, rfl, by decide, rfl, rfl, rfl⟩)
    · refine ⟨[⟨0, 14, 17, 21⟩, ⟨0, 14, 21, 13⟩], ⟨0, 14, 25, 15⟩, [], gt_task, (fun z hz => by
      simp only [List.mem_cons, List.not_mem_nil, or_false] at hz
      rcases hz with rfl | rfl
      · exact ⟨by decide, _, clL_21, by decide +kernel⟩
      · exact ⟨by decide, _, clL_13, by decide +kernel⟩), by decide, by decide, clL_15, mN 363 (by decide +kernel) (by decide +kernel), fun a => ?_⟩
      refine g_astoreV (pc' := 27) dL_task_25 rfl (Nat.le_of_ble_eq_true rfl) rfl ?_
      refine g_iconst (pc' := 28) (v := 3) dL_task_27 rfl rfl ?_
      refine g_iret dL_task_28 rfl rfl (Nat.le_of_ble_eq_true rfl) (Nat.le_of_ble_eq_true rfl) ?_
      exact hQ _ _ _ _ ho (Or.inr ⟨1, 2, rfl, by decide, rfl, rfl, rfl⟩)
  · have hv : ∃ x : Int32, r = some (vI x) := by
      rcases oTask_r ho with ⟨n', e1, -⟩ | hv
      · exact absurd e1 (hn n')
      · exact hv
    obtain ⟨x, rfl⟩ := hv
    refine g_i2l (pc' := 13) dL_task_12 rfl ?_
    refine g_last (pc' := 14) (n := 0) dL_task_13 rfl (by decide) rfl rfl (by decide) (hL _ _ ho) ?_
    refine g_goto dL_task_14 (pc' := 29) (by decide) ?_
    refine g_iconst (pc' := 30) (v := 0) dL_task_29 rfl rfl ?_
    refine g_iret dL_task_30 rfl rfl (Nat.le_of_ble_eq_true rfl) (Nat.le_of_ble_eq_true rfl) ?_
    exact hQ _ _ _ _ ho (Or.inl ⟨x, rfl, rfl, rfl⟩)

abbrev mL_holds : gM := (⟨"TimedRunsLaw", "holds", "(LTimedRuns;II[J)I"⟩, cL_holds, 5, some .int)
theorem cdL_holds : Cond.codeWith mL_holds.1 mL_holds.2.1 mL_holds.2.2.1 mL_holds.2.2.2 (gTab mL_holds.1.name) ∈ lwG := mG 497 (by decide +kernel) (by decide +kernel)
theorem gt_holds : tableOf (gTab mL_holds.1.name) = [⟨0, 17, 20, 21⟩, ⟨0, 17, 24, 15⟩] := by decide +kernel
theorem oHolds_r {S C1 : gS} {j m : Int32} {r : Option gV} (h : oHolds S j m r C1) : (∃ n, r = thr n ∧ n ∈ ([2, 1] : List Nat)) ∨ (∃ x : Int32, r = some (vI x) ∧ (x = 0 ∨ x = 1)) := by
  rcases h with ⟨-, rfl, -⟩ | ⟨-, -, rfl, -⟩ | ⟨k, n, -, -, -, -, rfl, -⟩
  · exact Or.inl ⟨2, rfl, by decide⟩
  · exact Or.inl ⟨1, rfl, by decide⟩
  · exact Or.inr ⟨_, rfl, bI_01 _⟩
set_option maxRecDepth 100000 in
set_option maxHeartbeats 2000000 in
theorem kL_holds {E : gE} {S : gS} {j m : Int32} {Q : Option gV → gS → Prop} (hD : DeskOk S) (hd : ∃ w, DayOk S w) (hL : ∀ r C1, oHolds S j m r C1 → lv C1 16 0 0) (hQ : ∀ r C1 code S', oHolds S j m r C1 → aW [2, 1] r C1 code S' → Q (some (vI code)) S') : gRunW E mL_holds 8 1 6 [vR 7 0 0, vI j, vI m, vR 16 0 0] S [] Q := by
  refine gRunW_of (ls := [some (vR 7 0 0), some (vI j), some (vI m), some (vR 16 0 0), none]) rfl (Nat.le_of_ble_eq_true rfl) rfl (fun ad => ?_)
  refine g_aload_n (pc' := 1) dL_holds_0 rfl rfl ?_
  refine g_iconst (pc' := 2) (v := 0) dL_holds_1 rfl rfl ?_
  refine g_aload_n (pc' := 3) dL_holds_2 rfl rfl ?_
  refine g_iload_n (pc' := 4) dL_holds_3 rfl rfl ?_
  refine g_iload_n (pc' := 5) dL_holds_4 rfl rfl ?_
  refine g_callT (My := mX7_holds) (d := 7) (mc := 1) (ms := 6) (as := [vI j, vI m]) (q := (7, 0, 0)) (Nw := []) (pc' := 8) cwL_23 cf7 dL_holds_5 rfl rfl rfl hD.1.1 (Nat.le_of_ble_eq_true rfl) (Nat.le_of_ble_eq_true rfl) (Nat.le_of_ble_eq_true rfl) (by simp [gNo]) (by simp [gNo]) (by simp [bN, gBoW]) (Nat.le_of_ble_eq_true rfl) (Nat.le_of_ble_eq_true rfl) rfl (kX7_holds hD hd ?_)
  intro r C1 ho
  refine ⟨fun n hn => ?_, fun hn => ?_⟩
  · have hnm : n ∈ ([2, 1] : List Nat) := by
      rcases oHolds_r ho with ⟨n', e1, e2⟩ | hv
      · have e3 : n = n' := by
          have e4 : some (vR 100 n 0) = some (vR 100 n' 0) := hn.symm.trans e1
          injection e4 with e4
          injection e4 with e4
          injection e4 with e4 e5
          injection e5 with e5
        rw [e3]; exact e2
      · obtain ⟨x, e1, -⟩ := hv
        rw [e1] at hn
        injection hn with hn
        cases hn
    subst hn
    simp only [List.mem_cons, List.not_mem_nil, or_false] at hnm
    rcases hnm with rfl | rfl
    · refine ⟨[], ⟨0, 17, 20, 21⟩, [⟨0, 17, 24, 15⟩], gt_holds, (fun z hz => absurd hz List.not_mem_nil), by decide, by decide, clL_21, mN 446 (by decide +kernel) (by decide +kernel), fun a => ?_⟩
      refine g_astoreV (pc' := 22) dL_holds_20 rfl (Nat.le_of_ble_eq_true rfl) rfl ?_
      refine g_iconst (pc' := 23) (v := 1) dL_holds_22 rfl rfl ?_
      refine g_iret dL_holds_23 rfl rfl (Nat.le_of_ble_eq_true rfl) (Nat.le_of_ble_eq_true rfl) ?_
      exact hQ _ _ _ _ ho (Or.inr ⟨2, 0, rfl, by decide, rfl, rfl, rfl⟩)
    · refine ⟨[⟨0, 17, 20, 21⟩], ⟨0, 17, 24, 15⟩, [], gt_holds, (fun z hz => by
      simp only [List.mem_cons, List.not_mem_nil, or_false] at hz
      rcases hz with rfl
      · exact ⟨by decide, _, clL_21, by decide +kernel⟩), by decide, by decide, clL_15, mN 363 (by decide +kernel) (by decide +kernel), fun a => ?_⟩
      refine g_astoreV (pc' := 26) dL_holds_24 rfl (Nat.le_of_ble_eq_true rfl) rfl ?_
      refine g_iconst (pc' := 27) (v := 2) dL_holds_26 rfl rfl ?_
      refine g_iret dL_holds_27 rfl rfl (Nat.le_of_ble_eq_true rfl) (Nat.le_of_ble_eq_true rfl) ?_
      exact hQ _ _ _ _ ho (Or.inr ⟨1, 1, rfl, by decide, rfl, rfl, rfl⟩)
  · have hv : ∃ x : Int32, r = some (vI x) ∧ (x = 0 ∨ x = 1) := by
      rcases oHolds_r ho with ⟨n', e1, -⟩ | hv
      · exact absurd e1 (hn n')
      · exact hv
    obtain ⟨x, rfl, hx⟩ := hv
    rcases hx with rfl | rfl
    · skip
      refine g_if_eq dL_holds_8 (tg := 15) (pc' := 11) (by decide) rfl (fun h8 => ?_) (fun h8 => absurd rfl h8)
      refine g_lconst (pc' := 16) (v := 0) dL_holds_15 rfl rfl ?_
      refine g_last (pc' := 17) (n := 0) dL_holds_16 rfl (by decide) rfl rfl (by decide) (hL _ _ ho) ?_
      refine g_goto dL_holds_17 (pc' := 28) (by decide) ?_
      refine g_iconst (pc' := 29) (v := 0) dL_holds_28 rfl rfl ?_
      refine g_iret dL_holds_29 rfl rfl (Nat.le_of_ble_eq_true rfl) (Nat.le_of_ble_eq_true rfl) ?_
      exact hQ _ _ _ _ ho (Or.inl ⟨0, rfl, rfl, rfl⟩)
    · skip
      refine g_if_eq dL_holds_8 (tg := 15) (pc' := 11) (by decide) rfl (fun h8 => absurd h8 (by decide)) (fun h8 => ?_)
      refine g_lconst (pc' := 12) (v := 1) dL_holds_11 rfl rfl ?_
      refine g_goto dL_holds_12 (pc' := 16) (by decide) ?_
      refine g_last (pc' := 17) (n := 0) dL_holds_16 rfl (by decide) rfl rfl (by decide) (hL _ _ ho) ?_
      refine g_goto dL_holds_17 (pc' := 28) (by decide) ?_
      refine g_iconst (pc' := 29) (v := 0) dL_holds_28 rfl rfl ?_
      refine g_iret dL_holds_29 rfl rfl (Nat.le_of_ble_eq_true rfl) (Nat.le_of_ble_eq_true rfl) ?_
      exact hQ _ _ _ _ ho (Or.inl ⟨1, rfl, rfl, rfl⟩)

abbrev mL_next : gM := (⟨"TimedRunsLaw", "next", "(LTimedRuns;II[J)I"⟩, cL_next, 5, some .int)
theorem cdL_next : Cond.codeWith mL_next.1 mL_next.2.1 mL_next.2.2.1 mL_next.2.2.2 (gTab mL_next.1.name) ∈ lwG := mG 554 (by decide +kernel) (by decide +kernel)
theorem gt_next : tableOf (gTab mL_next.1.name) = [⟨0, 10, 13, 21⟩, ⟨0, 10, 17, 15⟩] := by decide +kernel
theorem oNext_r {S C1 : gS} {j m : Int32} {r : Option gV} (h : oNext S j m r C1) : (∃ n, r = thr n ∧ n ∈ ([2, 1] : List Nat)) ∨ (∃ x : Int32, r = some (vI x)) := by
  rcases h with ⟨-, rfl, -⟩ | ⟨-, -, rfl, -⟩ | ⟨k, n, -, -, -, -, rfl, -⟩
  · exact Or.inl ⟨2, rfl, by decide⟩
  · exact Or.inl ⟨1, rfl, by decide⟩
  · exact Or.inr ⟨_, rfl⟩
set_option maxRecDepth 100000 in
set_option maxHeartbeats 2000000 in
theorem kL_next {E : gE} {S : gS} {j m : Int32} {Q : Option gV → gS → Prop} (hD : DeskOk S) (hd : ∃ w, DayOk S w) (hL : ∀ r C1, oNext S j m r C1 → lv C1 16 0 0) (hQ : ∀ r C1 code S', oNext S j m r C1 → aW [2, 1] r C1 code S' → Q (some (vI code)) S') : gRunW E mL_next 8 1 6 [vR 7 0 0, vI j, vI m, vR 16 0 0] S [] Q := by
  refine gRunW_of (ls := [some (vR 7 0 0), some (vI j), some (vI m), some (vR 16 0 0), none]) rfl (Nat.le_of_ble_eq_true rfl) rfl (fun ad => ?_)
  refine g_aload_n (pc' := 1) dL_next_0 rfl rfl ?_
  refine g_iconst (pc' := 2) (v := 0) dL_next_1 rfl rfl ?_
  refine g_aload_n (pc' := 3) dL_next_2 rfl rfl ?_
  refine g_iload_n (pc' := 4) dL_next_3 rfl rfl ?_
  refine g_iload_n (pc' := 5) dL_next_4 rfl rfl ?_
  refine g_callT (My := mX7_next) (d := 7) (mc := 1) (ms := 6) (as := [vI j, vI m]) (q := (7, 0, 0)) (Nw := []) (pc' := 8) cwL_27 cf7 dL_next_5 rfl rfl rfl hD.1.1 (Nat.le_of_ble_eq_true rfl) (Nat.le_of_ble_eq_true rfl) (Nat.le_of_ble_eq_true rfl) (by simp [gNo]) (by simp [gNo]) (by simp [bN, gBoW]) (Nat.le_of_ble_eq_true rfl) (Nat.le_of_ble_eq_true rfl) rfl (kX7_next hD hd ?_)
  intro r C1 ho
  refine ⟨fun n hn => ?_, fun hn => ?_⟩
  · have hnm : n ∈ ([2, 1] : List Nat) := by
      rcases oNext_r ho with ⟨n', e1, e2⟩ | hv
      · have e3 : n = n' := by
          have e4 : some (vR 100 n 0) = some (vR 100 n' 0) := hn.symm.trans e1
          injection e4 with e4
          injection e4 with e4
          injection e4 with e4 e5
          injection e5 with e5
        rw [e3]; exact e2
      · obtain ⟨x, e1⟩ := hv
        rw [e1] at hn
        injection hn with hn
        cases hn
    subst hn
    simp only [List.mem_cons, List.not_mem_nil, or_false] at hnm
    rcases hnm with rfl | rfl
    · refine ⟨[], ⟨0, 10, 13, 21⟩, [⟨0, 10, 17, 15⟩], gt_next, (fun z hz => absurd hz List.not_mem_nil), by decide, by decide, clL_21, mN 446 (by decide +kernel) (by decide +kernel), fun a => ?_⟩
      refine g_astoreV (pc' := 15) dL_next_13 rfl (Nat.le_of_ble_eq_true rfl) rfl ?_
      refine g_iconst (pc' := 16) (v := 1) dL_next_15 rfl rfl ?_
      refine g_iret dL_next_16 rfl rfl (Nat.le_of_ble_eq_true rfl) (Nat.le_of_ble_eq_true rfl) ?_
      exact hQ _ _ _ _ ho (Or.inr ⟨2, 0, rfl, by decide, rfl, rfl, rfl⟩)
    · refine ⟨[⟨0, 10, 13, 21⟩], ⟨0, 10, 17, 15⟩, [], gt_next, (fun z hz => by
      simp only [List.mem_cons, List.not_mem_nil, or_false] at hz
      rcases hz with rfl
      · exact ⟨by decide, _, clL_21, by decide +kernel⟩), by decide, by decide, clL_15, mN 363 (by decide +kernel) (by decide +kernel), fun a => ?_⟩
      refine g_astoreV (pc' := 19) dL_next_17 rfl (Nat.le_of_ble_eq_true rfl) rfl ?_
      refine g_iconst (pc' := 20) (v := 2) dL_next_19 rfl rfl ?_
      refine g_iret dL_next_20 rfl rfl (Nat.le_of_ble_eq_true rfl) (Nat.le_of_ble_eq_true rfl) ?_
      exact hQ _ _ _ _ ho (Or.inr ⟨1, 1, rfl, by decide, rfl, rfl, rfl⟩)
  · have hv : ∃ x : Int32, r = some (vI x) := by
      rcases oNext_r ho with ⟨n', e1, -⟩ | hv
      · exact absurd e1 (hn n')
      · exact hv
    obtain ⟨x, rfl⟩ := hv
    refine g_i2l (pc' := 9) dL_next_8 rfl ?_
    refine g_last (pc' := 10) (n := 0) dL_next_9 rfl (by decide) rfl rfl (by decide) (hL _ _ ho) ?_
    refine g_goto dL_next_10 (pc' := 21) (by decide) ?_
    refine g_iconst (pc' := 22) (v := 0) dL_next_21 rfl rfl ?_
    refine g_iret dL_next_22 rfl rfl (Nat.le_of_ble_eq_true rfl) (Nat.le_of_ble_eq_true rfl) ?_
    exact hQ _ _ _ _ ho (Or.inl ⟨x, rfl, rfl, rfl⟩)

abbrev mL_part : gM := (⟨"TimedRunsLaw", "part", "(LTimedRuns;II[J)I"⟩, cL_part, 5, some .int)
theorem cdL_part : Cond.codeWith mL_part.1 mL_part.2.1 mL_part.2.2.1 mL_part.2.2.2 (gTab mL_part.1.name) ∈ lwG := mG 571 (by decide +kernel) (by decide +kernel)
theorem gt_part : tableOf (gTab mL_part.1.name) = [⟨0, 10, 13, 15⟩] := by decide +kernel
theorem oPart_r {S C1 : gS} {m p : Int32} {r : Option gV} (h : oPart S m p r C1) : (∃ n, r = thr n ∧ n ∈ ([1] : List Nat)) ∨ (∃ x : Int32, r = some (vI x)) := by
  rcases h with ⟨-, rfl, -⟩ | ⟨n, q, -, -, -, -, rfl, -⟩
  · exact Or.inl ⟨1, rfl, by decide⟩
  · exact Or.inr ⟨_, rfl⟩
set_option maxRecDepth 100000 in
set_option maxHeartbeats 2000000 in
theorem kL_part {E : gE} {S : gS} {m p : Int32} {Q : Option gV → gS → Prop} (hD : DeskOk S) (hd : ∃ w, DayOk S w) (hL : ∀ r C1, oPart S m p r C1 → lv C1 16 0 0) (hQ : ∀ r C1 code S', oPart S m p r C1 → aW [1] r C1 code S' → Q (some (vI code)) S') : gRunW E mL_part 8 1 6 [vR 7 0 0, vI m, vI p, vR 16 0 0] S [] Q := by
  refine gRunW_of (ls := [some (vR 7 0 0), some (vI m), some (vI p), some (vR 16 0 0), none]) rfl (Nat.le_of_ble_eq_true rfl) rfl (fun ad => ?_)
  refine g_aload_n (pc' := 1) dL_part_0 rfl rfl ?_
  refine g_iconst (pc' := 2) (v := 0) dL_part_1 rfl rfl ?_
  refine g_aload_n (pc' := 3) dL_part_2 rfl rfl ?_
  refine g_iload_n (pc' := 4) dL_part_3 rfl rfl ?_
  refine g_iload_n (pc' := 5) dL_part_4 rfl rfl ?_
  refine g_callT (My := mX7_part) (d := 7) (mc := 1) (ms := 6) (as := [vI m, vI p]) (q := (7, 0, 0)) (Nw := []) (pc' := 8) cwL_31 cf7 dL_part_5 rfl rfl rfl hD.1.1 (Nat.le_of_ble_eq_true rfl) (Nat.le_of_ble_eq_true rfl) (Nat.le_of_ble_eq_true rfl) (by simp [gNo]) (by simp [gNo]) (by simp [bN, gBoW]) (Nat.le_of_ble_eq_true rfl) (Nat.le_of_ble_eq_true rfl) rfl (kX7_part hD hd ?_)
  intro r C1 ho
  refine ⟨fun n hn => ?_, fun hn => ?_⟩
  · have hnm : n ∈ ([1] : List Nat) := by
      rcases oPart_r ho with ⟨n', e1, e2⟩ | hv
      · have e3 : n = n' := by
          have e4 : some (vR 100 n 0) = some (vR 100 n' 0) := hn.symm.trans e1
          injection e4 with e4
          injection e4 with e4
          injection e4 with e4 e5
          injection e5 with e5
        rw [e3]; exact e2
      · obtain ⟨x, e1⟩ := hv
        rw [e1] at hn
        injection hn with hn
        cases hn
    subst hn
    simp only [List.mem_cons, List.not_mem_nil, or_false] at hnm
    rcases hnm with rfl
    · refine ⟨[], ⟨0, 10, 13, 15⟩, [], gt_part, (fun z hz => absurd hz List.not_mem_nil), by decide, by decide, clL_15, mN 363 (by decide +kernel) (by decide +kernel), fun a => ?_⟩
      refine g_astoreV (pc' := 15) dL_part_13 rfl (Nat.le_of_ble_eq_true rfl) rfl ?_
      refine g_iconst (pc' := 16) (v := 1) dL_part_15 rfl rfl ?_
      refine g_iret dL_part_16 rfl rfl (Nat.le_of_ble_eq_true rfl) (Nat.le_of_ble_eq_true rfl) ?_
      exact hQ _ _ _ _ ho (Or.inr ⟨1, 0, rfl, by decide, rfl, rfl, rfl⟩)
  · have hv : ∃ x : Int32, r = some (vI x) := by
      rcases oPart_r ho with ⟨n', e1, -⟩ | hv
      · exact absurd e1 (hn n')
      · exact hv
    obtain ⟨x, rfl⟩ := hv
    refine g_i2l (pc' := 9) dL_part_8 rfl ?_
    refine g_last (pc' := 10) (n := 0) dL_part_9 rfl (by decide) rfl rfl (by decide) (hL _ _ ho) ?_
    refine g_goto dL_part_10 (pc' := 17) (by decide) ?_
    refine g_iconst (pc' := 18) (v := 0) dL_part_17 rfl rfl ?_
    refine g_iret dL_part_18 rfl rfl (Nat.le_of_ble_eq_true rfl) (Nat.le_of_ble_eq_true rfl) ?_
    exact hQ _ _ _ _ ho (Or.inl ⟨x, rfl, rfl, rfl⟩)

abbrev mL_pass : gM := (⟨"TimedRunsLaw", "pass", "(LTimedRuns;I[J)I"⟩, cL_pass, 4, some .int)
theorem cdL_pass : Cond.codeWith mL_pass.1 mL_pass.2.1 mL_pass.2.2.1 mL_pass.2.2.2 (gTab mL_pass.1.name) ∈ lwG := mG 579 (by decide +kernel) (by decide +kernel)
theorem gt_pass : tableOf (gTab mL_pass.1.name) = [⟨0, 9, 12, 15⟩, ⟨0, 9, 15, 37⟩] := by decide +kernel
theorem oPass_r {S C1 : gS} {n : Int32} {m : Nat} {r : Option gV} (h : oPass S m n r C1) : (∃ n, r = thr n ∧ n ∈ ([1, 3] : List Nat)) ∨ (∃ x : Int32, r = some (vI x)) := by
  rcases h with ⟨-, rfl, -⟩ | ⟨k, -, -, -, ⟨-, rfl, -⟩ | ⟨-, -, rfl, -⟩ | ⟨-, -, rfl, -⟩⟩
  · exact Or.inl ⟨1, rfl, by decide⟩
  · exact Or.inl ⟨3, rfl, by decide⟩
  · exact Or.inr ⟨_, rfl⟩
  · exact Or.inr ⟨_, rfl⟩
set_option maxRecDepth 100000 in
set_option maxHeartbeats 2000000 in
theorem kL_pass {E : gE} {S : gS} {n : Int32} {m x : Nat} {Q : Option gV → gS → Prop} (hD : DeskOk S) (hG : GoodD S x m) (hm2 : m < 20000000) (hb : x + 90018 < 2 ^ 30) (hL : ∀ r C1, oPass S m n r C1 → lv C1 16 0 0) (hQ : ∀ r C1 code S', oPass S m n r C1 → aW [1, 3] r C1 code S' → Q (some (vI code)) S') : gRunW E mL_pass 8 1 6 [vR 7 0 0, vI n, vR 16 0 0] S [] Q := by
  refine gRunW_of (ls := [some (vR 7 0 0), some (vI n), some (vR 16 0 0), none]) rfl (Nat.le_of_ble_eq_true rfl) rfl (fun ad => ?_)
  refine g_aload_n (pc' := 1) dL_pass_0 rfl rfl ?_
  refine g_iconst (pc' := 2) (v := 0) dL_pass_1 rfl rfl ?_
  refine g_aload_n (pc' := 3) dL_pass_2 rfl rfl ?_
  refine g_iload_n (pc' := 4) dL_pass_3 rfl rfl ?_
  refine g_callT (My := mX7_pass) (d := 7) (mc := 1) (ms := 6) (as := [vI n]) (q := (7, 0, 0)) (Nw := []) (pc' := 7) cwL_34 cf7 dL_pass_4 rfl rfl rfl hD.1.1 (Nat.le_of_ble_eq_true rfl) (Nat.le_of_ble_eq_true rfl) (Nat.le_of_ble_eq_true rfl) (by simp [gNo]) (by simp [gNo]) (by simp [bN, gBoW]) (Nat.le_of_ble_eq_true rfl) (Nat.le_of_ble_eq_true rfl) rfl (kX7_pass hG hm2 hb ?_)
  intro r C1 ho
  refine ⟨fun n hn => ?_, fun hn => ?_⟩
  · have hnm : n ∈ ([1, 3] : List Nat) := by
      rcases oPass_r ho with ⟨n', e1, e2⟩ | hv
      · have e3 : n = n' := by
          have e4 : some (vR 100 n 0) = some (vR 100 n' 0) := hn.symm.trans e1
          injection e4 with e4
          injection e4 with e4
          injection e4 with e4 e5
          injection e5 with e5
        rw [e3]; exact e2
      · obtain ⟨x, e1⟩ := hv
        rw [e1] at hn
        injection hn with hn
        cases hn
    subst hn
    simp only [List.mem_cons, List.not_mem_nil, or_false] at hnm
    rcases hnm with rfl | rfl
    · refine ⟨[], ⟨0, 9, 12, 15⟩, [⟨0, 9, 15, 37⟩], gt_pass, (fun z hz => absurd hz List.not_mem_nil), by decide, by decide, clL_15, mN 363 (by decide +kernel) (by decide +kernel), fun a => ?_⟩
      refine g_astoreV_n (pc' := 13) dL_pass_12 rfl (Nat.le_of_ble_eq_true rfl) rfl ?_
      refine g_iconst (pc' := 14) (v := 1) dL_pass_13 rfl rfl ?_
      refine g_iret dL_pass_14 rfl rfl (Nat.le_of_ble_eq_true rfl) (Nat.le_of_ble_eq_true rfl) ?_
      exact hQ _ _ _ _ ho (Or.inr ⟨1, 0, rfl, by decide, rfl, rfl, rfl⟩)
    · refine ⟨[⟨0, 9, 12, 15⟩], ⟨0, 9, 15, 37⟩, [], gt_pass, (fun z hz => by
      simp only [List.mem_cons, List.not_mem_nil, or_false] at hz
      rcases hz with rfl
      · exact ⟨by decide, _, clL_15, by decide +kernel⟩), by decide, by decide, clL_37, mN 587 (by decide +kernel) (by decide +kernel), fun a => ?_⟩
      refine g_astoreV_n (pc' := 16) dL_pass_15 rfl (Nat.le_of_ble_eq_true rfl) rfl ?_
      refine g_iconst (pc' := 17) (v := 2) dL_pass_16 rfl rfl ?_
      refine g_iret dL_pass_17 rfl rfl (Nat.le_of_ble_eq_true rfl) (Nat.le_of_ble_eq_true rfl) ?_
      exact hQ _ _ _ _ ho (Or.inr ⟨3, 1, rfl, by decide, rfl, rfl, rfl⟩)
  · have hv : ∃ x : Int32, r = some (vI x) := by
      rcases oPass_r ho with ⟨n', e1, -⟩ | hv
      · exact absurd e1 (hn n')
      · exact hv
    obtain ⟨x, rfl⟩ := hv
    refine g_i2l (pc' := 8) dL_pass_7 rfl ?_
    refine g_last (pc' := 9) (n := 0) dL_pass_8 rfl (by decide) rfl rfl (by decide) (hL _ _ ho) ?_
    refine g_goto dL_pass_9 (pc' := 18) (by decide) ?_
    refine g_iconst (pc' := 19) (v := 0) dL_pass_18 rfl rfl ?_
    refine g_iret dL_pass_19 rfl rfl (Nat.le_of_ble_eq_true rfl) (Nat.le_of_ble_eq_true rfl) ?_
    exact hQ _ _ _ _ ho (Or.inl ⟨x, rfl, rfl, rfl⟩)

abbrev mL_set : gM := (⟨"TimedRunsLaw", "set", "(LTimedRuns;I)I"⟩, cL_set, 3, some .int)
theorem cdL_set : Cond.codeWith mL_set.1 mL_set.2.1 mL_set.2.2.1 mL_set.2.2.2 (gTab mL_set.1.name) ∈ lwG := mG 650 (by decide +kernel) (by decide +kernel)
theorem gt_set : tableOf (gTab mL_set.1.name) = [⟨0, 5, 8, 37⟩, ⟨0, 5, 11, 15⟩] := by decide +kernel
theorem oSet_r {S C1 : gS} {m : Int32} {r : Option gV} (h : oSet S m r C1) : (∃ n, r = thr n ∧ n ∈ ([3, 1] : List Nat)) ∨ (r = none) := by
  rcases h with ⟨-, rfl, -⟩ | ⟨-, ⟨-, rfl, -⟩ | ⟨-, rfl, -⟩⟩
  · exact Or.inl ⟨3, rfl, by decide⟩
  · exact Or.inl ⟨1, rfl, by decide⟩
  · exact Or.inr rfl
set_option maxRecDepth 100000 in
set_option maxHeartbeats 2000000 in
theorem kL_set {E : gE} {S : gS} {m : Int32} {Q : Option gV → gS → Prop} (hD : DeskOk S) (hQ : ∀ r C1 code S', oSet S m r C1 → aW0 [3, 1] r C1 code S' → Q (some (vI code)) S') : gRunW E mL_set 8 1 6 [vR 7 0 0, vI m] S [] Q := by
  refine gRunW_of (ls := [some (vR 7 0 0), some (vI m), none]) rfl (Nat.le_of_ble_eq_true rfl) rfl (fun ad => ?_)
  refine g_aload_n (pc' := 1) dL_set_0 rfl rfl ?_
  refine g_iload_n (pc' := 2) dL_set_1 rfl rfl ?_
  refine g_callT (My := mX7_set) (d := 7) (mc := 1) (ms := 6) (as := [vI m]) (q := (7, 0, 0)) (Nw := []) (pc' := 5) cwL_39 cf7 dL_set_2 rfl rfl rfl hD.1.1 (Nat.le_of_ble_eq_true rfl) (Nat.le_of_ble_eq_true rfl) (Nat.le_of_ble_eq_true rfl) (by simp [gNo]) (by simp [gNo]) (by simp [bN, gBoW]) (Nat.le_of_ble_eq_true rfl) (Nat.le_of_ble_eq_true rfl) rfl (kX7_set hD ?_)
  intro r C1 ho
  refine ⟨fun n hn => ?_, fun hn => ?_⟩
  · have hnm : n ∈ ([3, 1] : List Nat) := by
      rcases oSet_r ho with ⟨n', e1, e2⟩ | hv
      · have e3 : n = n' := by
          have e4 : some (vR 100 n 0) = some (vR 100 n' 0) := hn.symm.trans e1
          injection e4 with e4
          injection e4 with e4
          injection e4 with e4 e5
          injection e5 with e5
        rw [e3]; exact e2
      · rw [hv] at hn; cases hn
    subst hn
    simp only [List.mem_cons, List.not_mem_nil, or_false] at hnm
    rcases hnm with rfl | rfl
    · refine ⟨[], ⟨0, 5, 8, 37⟩, [⟨0, 5, 11, 15⟩], gt_set, (fun z hz => absurd hz List.not_mem_nil), by decide, by decide, clL_37, mN 587 (by decide +kernel) (by decide +kernel), fun a => ?_⟩
      refine g_astoreV_n (pc' := 9) dL_set_8 rfl (Nat.le_of_ble_eq_true rfl) rfl ?_
      refine g_iconst (pc' := 10) (v := 1) dL_set_9 rfl rfl ?_
      refine g_iret dL_set_10 rfl rfl (Nat.le_of_ble_eq_true rfl) (Nat.le_of_ble_eq_true rfl) ?_
      exact hQ _ _ _ _ ho (Or.inr ⟨3, 0, rfl, by decide, rfl, rfl, rfl⟩)
    · refine ⟨[⟨0, 5, 8, 37⟩], ⟨0, 5, 11, 15⟩, [], gt_set, (fun z hz => by
      simp only [List.mem_cons, List.not_mem_nil, or_false] at hz
      rcases hz with rfl
      · exact ⟨by decide, _, clL_37, by decide +kernel⟩), by decide, by decide, clL_15, mN 363 (by decide +kernel) (by decide +kernel), fun a => ?_⟩
      refine g_astoreV_n (pc' := 12) dL_set_11 rfl (Nat.le_of_ble_eq_true rfl) rfl ?_
      refine g_iconst (pc' := 13) (v := 2) dL_set_12 rfl rfl ?_
      refine g_iret dL_set_13 rfl rfl (Nat.le_of_ble_eq_true rfl) (Nat.le_of_ble_eq_true rfl) ?_
      exact hQ _ _ _ _ ho (Or.inr ⟨1, 1, rfl, by decide, rfl, rfl, rfl⟩)
  · have hv : r = none := by
      rcases oSet_r ho with ⟨n', e1, -⟩ | hv
      · exact absurd e1 (hn n')
      · exact hv
    subst hv
    refine g_goto dL_set_5 (pc' := 14) (by decide) ?_
    refine g_iconst (pc' := 15) (v := 0) dL_set_14 rfl rfl ?_
    refine g_iret dL_set_15 rfl rfl (Nat.le_of_ble_eq_true rfl) (Nat.le_of_ble_eq_true rfl) ?_
    exact hQ _ _ _ _ ho (Or.inl ⟨rfl, rfl, rfl⟩)

abbrev mL_end : gM := (⟨"TimedRunsLaw", "end", "(LTimedRuns;IIZ[J)I"⟩, cL_end, 6, some .int)
theorem cdL_end : Cond.codeWith mL_end.1 mL_end.2.1 mL_end.2.2.1 mL_end.2.2.2 (gTab mL_end.1.name) ∈ lwG := mG 661 (by decide +kernel) (by decide +kernel)
theorem gt_end : tableOf (gTab mL_end.1.name) = [⟨0, 12, 15, 21⟩, ⟨0, 12, 19, 37⟩] := by decide +kernel
theorem oEnd_r {S C1 : gS} {j t w : Int32} {r : Option gV} (h : oEnd S j t w r C1) : (∃ n, r = thr n ∧ n ∈ ([2, 3] : List Nat)) ∨ (∃ x : Int32, r = some (vI x)) := by
  rcases h with ⟨-, rfl, -⟩ | ⟨k, n, -, -, -, -, ⟨-, rfl, -⟩ | ⟨-, rfl, -⟩⟩
  · exact Or.inl ⟨2, rfl, by decide⟩
  · exact Or.inl ⟨3, rfl, by decide⟩
  · exact Or.inr ⟨_, rfl⟩
set_option maxRecDepth 100000 in
set_option maxHeartbeats 2000000 in
theorem kL_end {E : gE} {S : gS} {j t w : Int32} {x : Nat} {Q : Option gV → gS → Prop} (hD : DeskOk S) (hx : fI S 97 0 0 = nI x) (hb : x + 8 < 2 ^ 30) (hL : ∀ r C1, oEnd S j t w r C1 → lv C1 16 0 0) (hQ : ∀ r C1 code S', oEnd S j t w r C1 → aW [2, 3] r C1 code S' → Q (some (vI code)) S') : gRunW E mL_end 8 1 6 [vR 7 0 0, vI j, vI t, vI w, vR 16 0 0] S [] Q := by
  refine gRunW_of (ls := [some (vR 7 0 0), some (vI j), some (vI t), some (vI w), some (vR 16 0 0), none]) rfl (Nat.le_of_ble_eq_true rfl) rfl (fun ad => ?_)
  refine g_aload (pc' := 2) dL_end_0 rfl rfl ?_
  refine g_iconst (pc' := 3) (v := 0) dL_end_2 rfl rfl ?_
  refine g_aload_n (pc' := 4) dL_end_3 rfl rfl ?_
  refine g_iload_n (pc' := 5) dL_end_4 rfl rfl ?_
  refine g_iload_n (pc' := 6) dL_end_5 rfl rfl ?_
  refine g_iload_n (pc' := 7) dL_end_6 rfl rfl ?_
  refine g_callT (My := mX7_end) (d := 7) (mc := 1) (ms := 6) (as := [vI j, vI t, vI w]) (q := (7, 0, 0)) (Nw := []) (pc' := 10) cwL_43 cf7 dL_end_7 rfl rfl rfl hD.1.1 (Nat.le_of_ble_eq_true rfl) (Nat.le_of_ble_eq_true rfl) (Nat.le_of_ble_eq_true rfl) (by simp [gNo]) (by simp [gNo]) (by simp [bN, gBoW]) (Nat.le_of_ble_eq_true rfl) (Nat.le_of_ble_eq_true rfl) rfl (kX7_end hD hx hb ?_)
  intro r C1 ho
  refine ⟨fun n hn => ?_, fun hn => ?_⟩
  · have hnm : n ∈ ([2, 3] : List Nat) := by
      rcases oEnd_r ho with ⟨n', e1, e2⟩ | hv
      · have e3 : n = n' := by
          have e4 : some (vR 100 n 0) = some (vR 100 n' 0) := hn.symm.trans e1
          injection e4 with e4
          injection e4 with e4
          injection e4 with e4 e5
          injection e5 with e5
        rw [e3]; exact e2
      · obtain ⟨x, e1⟩ := hv
        rw [e1] at hn
        injection hn with hn
        cases hn
    subst hn
    simp only [List.mem_cons, List.not_mem_nil, or_false] at hnm
    rcases hnm with rfl | rfl
    · refine ⟨[], ⟨0, 12, 15, 21⟩, [⟨0, 12, 19, 37⟩], gt_end, (fun z hz => absurd hz List.not_mem_nil), by decide, by decide, clL_21, mN 446 (by decide +kernel) (by decide +kernel), fun a => ?_⟩
      refine g_astoreV (pc' := 17) dL_end_15 rfl (Nat.le_of_ble_eq_true rfl) rfl ?_
      refine g_iconst (pc' := 18) (v := 1) dL_end_17 rfl rfl ?_
      refine g_iret dL_end_18 rfl rfl (Nat.le_of_ble_eq_true rfl) (Nat.le_of_ble_eq_true rfl) ?_
      exact hQ _ _ _ _ ho (Or.inr ⟨2, 0, rfl, by decide, rfl, rfl, rfl⟩)
    · refine ⟨[⟨0, 12, 15, 21⟩], ⟨0, 12, 19, 37⟩, [], gt_end, (fun z hz => by
      simp only [List.mem_cons, List.not_mem_nil, or_false] at hz
      rcases hz with rfl
      · exact ⟨by decide, _, clL_21, by decide +kernel⟩), by decide, by decide, clL_37, mN 587 (by decide +kernel) (by decide +kernel), fun a => ?_⟩
      refine g_astoreV (pc' := 21) dL_end_19 rfl (Nat.le_of_ble_eq_true rfl) rfl ?_
      refine g_iconst (pc' := 22) (v := 2) dL_end_21 rfl rfl ?_
      refine g_iret dL_end_22 rfl rfl (Nat.le_of_ble_eq_true rfl) (Nat.le_of_ble_eq_true rfl) ?_
      exact hQ _ _ _ _ ho (Or.inr ⟨3, 1, rfl, by decide, rfl, rfl, rfl⟩)
  · have hv : ∃ x : Int32, r = some (vI x) := by
      rcases oEnd_r ho with ⟨n', e1, -⟩ | hv
      · exact absurd e1 (hn n')
      · exact hv
    obtain ⟨x, rfl⟩ := hv
    refine g_i2l (pc' := 11) dL_end_10 rfl ?_
    refine g_last (pc' := 12) (n := 0) dL_end_11 rfl (by decide) rfl rfl (by decide) (hL _ _ ho) ?_
    refine g_goto dL_end_12 (pc' := 23) (by decide) ?_
    refine g_iconst (pc' := 24) (v := 0) dL_end_23 rfl rfl ?_
    refine g_iret dL_end_24 rfl rfl (Nat.le_of_ble_eq_true rfl) (Nat.le_of_ble_eq_true rfl) ?_
    exact hQ _ _ _ _ ho (Or.inl ⟨x, rfl, rfl, rfl⟩)

abbrev mL_down : gM := (⟨"TimedRunsLaw", "down", "(LTimedRuns;Z[J)I"⟩, cL_down, 4, some .int)
theorem cdL_down : Cond.codeWith mL_down.1 mL_down.2.1 mL_down.2.2.1 mL_down.2.2.2 (gTab mL_down.1.name) ∈ lwG := mG 680 (by decide +kernel) (by decide +kernel)
theorem gt_down : tableOf (gTab mL_down.1.name) = [⟨0, 9, 12, 37⟩] := by decide +kernel
theorem oDown_r {S C1 : gS} {d : Int32} {b m : Nat} {r : Option gV} (h : oDown S d b m r C1) : (∃ n, r = thr n ∧ n ∈ ([3] : List Nat)) ∨ (∃ x : Int32, r = some (vI x)) := by
  rcases h with ⟨-, rfl, -⟩ | ⟨-, -, rfl, -⟩ | ⟨-, -, T, -, rfl, -⟩
  · exact Or.inl ⟨3, rfl, by decide⟩
  · exact Or.inr ⟨_, rfl⟩
  · exact Or.inr ⟨_, rfl⟩
set_option maxRecDepth 100000 in
set_option maxHeartbeats 2000000 in
theorem kL_down {E : gE} {S : gS} {d : Int32} {b m x : Nat} {Q : Option gV → gS → Prop} (hD : DeskOk S) (hG : GoodD S x m) (hd1 : d = 0 ∨ d = 1) (hbs : fI S 233 0 0 = nI b) (hbm : b ≤ m) (hm2 : m < 20000000) (hb : x + 306 < 2 ^ 30) (hL : ∀ r C1, oDown S d b m r C1 → lv C1 16 0 0) (hQ : ∀ r C1 code S', oDown S d b m r C1 → aW [3] r C1 code S' → Q (some (vI code)) S') : gRunW E mL_down 8 1 6 [vR 7 0 0, vI d, vR 16 0 0] S [] Q := by
  refine gRunW_of (ls := [some (vR 7 0 0), some (vI d), some (vR 16 0 0), none]) rfl (Nat.le_of_ble_eq_true rfl) rfl (fun ad => ?_)
  refine g_aload_n (pc' := 1) dL_down_0 rfl rfl ?_
  refine g_iconst (pc' := 2) (v := 0) dL_down_1 rfl rfl ?_
  refine g_aload_n (pc' := 3) dL_down_2 rfl rfl ?_
  refine g_iload_n (pc' := 4) dL_down_3 rfl rfl ?_
  refine g_callT (My := mX7_down) (d := 7) (mc := 1) (ms := 6) (as := [vI d]) (q := (7, 0, 0)) (Nw := []) (pc' := 7) cwL_47 cf7 dL_down_4 rfl rfl rfl hD.1.1 (Nat.le_of_ble_eq_true rfl) (Nat.le_of_ble_eq_true rfl) (Nat.le_of_ble_eq_true rfl) (by simp [gNo]) (by simp [gNo]) (by simp [bN, gBoW]) (Nat.le_of_ble_eq_true rfl) (Nat.le_of_ble_eq_true rfl) rfl (kX7_down hG hd1 hbs hbm hm2 hb ?_)
  intro r C1 ho
  refine ⟨fun n hn => ?_, fun hn => ?_⟩
  · have hnm : n ∈ ([3] : List Nat) := by
      rcases oDown_r ho with ⟨n', e1, e2⟩ | hv
      · have e3 : n = n' := by
          have e4 : some (vR 100 n 0) = some (vR 100 n' 0) := hn.symm.trans e1
          injection e4 with e4
          injection e4 with e4
          injection e4 with e4 e5
          injection e5 with e5
        rw [e3]; exact e2
      · obtain ⟨x, e1⟩ := hv
        rw [e1] at hn
        injection hn with hn
        cases hn
    subst hn
    simp only [List.mem_cons, List.not_mem_nil, or_false] at hnm
    rcases hnm with rfl
    · refine ⟨[], ⟨0, 9, 12, 37⟩, [], gt_down, (fun z hz => absurd hz List.not_mem_nil), by decide, by decide, clL_37, mN 587 (by decide +kernel) (by decide +kernel), fun a => ?_⟩
      refine g_astoreV_n (pc' := 13) dL_down_12 rfl (Nat.le_of_ble_eq_true rfl) rfl ?_
      refine g_iconst (pc' := 14) (v := 1) dL_down_13 rfl rfl ?_
      refine g_iret dL_down_14 rfl rfl (Nat.le_of_ble_eq_true rfl) (Nat.le_of_ble_eq_true rfl) ?_
      exact hQ _ _ _ _ ho (Or.inr ⟨3, 0, rfl, by decide, rfl, rfl, rfl⟩)
  · have hv : ∃ x : Int32, r = some (vI x) := by
      rcases oDown_r ho with ⟨n', e1, -⟩ | hv
      · exact absurd e1 (hn n')
      · exact hv
    obtain ⟨x, rfl⟩ := hv
    refine g_i2l (pc' := 8) dL_down_7 rfl ?_
    refine g_last (pc' := 9) (n := 0) dL_down_8 rfl (by decide) rfl rfl (by decide) (hL _ _ ho) ?_
    refine g_goto dL_down_9 (pc' := 15) (by decide) ?_
    refine g_iconst (pc' := 16) (v := 0) dL_down_15 rfl rfl ?_
    refine g_iret dL_down_16 rfl rfl (Nat.le_of_ble_eq_true rfl) (Nat.le_of_ble_eq_true rfl) ?_
    exact hQ _ _ _ _ ho (Or.inl ⟨x, rfl, rfl, rfl⟩)

abbrev mL_entry : gM := (⟨"TimedRunsLaw", "entry", "(LTimedRuns;II[J)I"⟩, cL_entry, 5, some .int)
theorem cdL_entry : Cond.codeWith mL_entry.1 mL_entry.2.1 mL_entry.2.2.1 mL_entry.2.2.2 (gTab mL_entry.1.name) ∈ lwG := mG 691 (by decide +kernel) (by decide +kernel)
theorem gt_entry : tableOf (gTab mL_entry.1.name) = [⟨0, 10, 13, 21⟩] := by decide +kernel
theorem oEntry_r {S C1 : gS} {b p : Int32} {r : Option gV} (h : oEntry S b p r C1) : (∃ n, r = thr n ∧ n ∈ ([2] : List Nat)) ∨ (∃ x : Int32, r = some (vI x)) := by
  rcases h with ⟨-, rfl, -⟩ | ⟨n, k, q, -, -, -, -, -, -, -, rfl, -⟩
  · exact Or.inl ⟨2, rfl, by decide⟩
  · exact Or.inr ⟨_, rfl⟩
set_option maxRecDepth 100000 in
set_option maxHeartbeats 2000000 in
theorem kL_entry {E : gE} {S : gS} {b p : Int32} {x : Nat} {Q : Option gV → gS → Prop} (hD : DeskOk S) (hx : fI S 97 0 0 = nI x) (hb : x < 2 ^ 30) (hL : ∀ r C1, oEntry S b p r C1 → lv C1 16 0 0) (hQ : ∀ r C1 code S', oEntry S b p r C1 → aW [2] r C1 code S' → Q (some (vI code)) S') : gRunW E mL_entry 8 1 6 [vR 7 0 0, vI b, vI p, vR 16 0 0] S [] Q := by
  refine gRunW_of (ls := [some (vR 7 0 0), some (vI b), some (vI p), some (vR 16 0 0), none]) rfl (Nat.le_of_ble_eq_true rfl) rfl (fun ad => ?_)
  refine g_aload_n (pc' := 1) dL_entry_0 rfl rfl ?_
  refine g_iconst (pc' := 2) (v := 0) dL_entry_1 rfl rfl ?_
  refine g_aload_n (pc' := 3) dL_entry_2 rfl rfl ?_
  refine g_iload_n (pc' := 4) dL_entry_3 rfl rfl ?_
  refine g_iload_n (pc' := 5) dL_entry_4 rfl rfl ?_
  refine g_callT (My := mX7_entry) (d := 7) (mc := 1) (ms := 6) (as := [vI b, vI p]) (q := (7, 0, 0)) (Nw := []) (pc' := 8) cwL_51 cf7 dL_entry_5 rfl rfl rfl hD.1.1 (Nat.le_of_ble_eq_true rfl) (Nat.le_of_ble_eq_true rfl) (Nat.le_of_ble_eq_true rfl) (by simp [gNo]) (by simp [gNo]) (by simp [bN, gBoW]) (Nat.le_of_ble_eq_true rfl) (Nat.le_of_ble_eq_true rfl) rfl (kX7_entry hD hx hb ?_)
  intro r C1 ho
  refine ⟨fun n hn => ?_, fun hn => ?_⟩
  · have hnm : n ∈ ([2] : List Nat) := by
      rcases oEntry_r ho with ⟨n', e1, e2⟩ | hv
      · have e3 : n = n' := by
          have e4 : some (vR 100 n 0) = some (vR 100 n' 0) := hn.symm.trans e1
          injection e4 with e4
          injection e4 with e4
          injection e4 with e4 e5
          injection e5 with e5
        rw [e3]; exact e2
      · obtain ⟨x, e1⟩ := hv
        rw [e1] at hn
        injection hn with hn
        cases hn
    subst hn
    simp only [List.mem_cons, List.not_mem_nil, or_false] at hnm
    rcases hnm with rfl
    · refine ⟨[], ⟨0, 10, 13, 21⟩, [], gt_entry, (fun z hz => absurd hz List.not_mem_nil), by decide, by decide, clL_21, mN 446 (by decide +kernel) (by decide +kernel), fun a => ?_⟩
      refine g_astoreV (pc' := 15) dL_entry_13 rfl (Nat.le_of_ble_eq_true rfl) rfl ?_
      refine g_iconst (pc' := 16) (v := 1) dL_entry_15 rfl rfl ?_
      refine g_iret dL_entry_16 rfl rfl (Nat.le_of_ble_eq_true rfl) (Nat.le_of_ble_eq_true rfl) ?_
      exact hQ _ _ _ _ ho (Or.inr ⟨2, 0, rfl, by decide, rfl, rfl, rfl⟩)
  · have hv : ∃ x : Int32, r = some (vI x) := by
      rcases oEntry_r ho with ⟨n', e1, -⟩ | hv
      · exact absurd e1 (hn n')
      · exact hv
    obtain ⟨x, rfl⟩ := hv
    refine g_i2l (pc' := 9) dL_entry_8 rfl ?_
    refine g_last (pc' := 10) (n := 0) dL_entry_9 rfl (by decide) rfl rfl (by decide) (hL _ _ ho) ?_
    refine g_goto dL_entry_10 (pc' := 17) (by decide) ?_
    refine g_iconst (pc' := 18) (v := 0) dL_entry_17 rfl rfl ?_
    refine g_iret dL_entry_18 rfl rfl (Nat.le_of_ble_eq_true rfl) (Nat.le_of_ble_eq_true rfl) ?_
    exact hQ _ _ _ _ ho (Or.inl ⟨x, rfl, rfl, rfl⟩)

