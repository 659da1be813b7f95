/-! THE LAW (10): from its first instruction -/
theorem LN_0 : ∀ q ∈ [(4, 0, 0), (6, 0, 0), (10, 0, 0), (11, 0, 0), (0, 0, 0), (3, 0, 0), (13, 0, 0), (14, 0, 0)], q ∈ LN := fun q hq => List.mem_append_left _ (List.mem_cons_of_mem _ (List.mem_cons_of_mem _ (List.mem_cons_of_mem _ hq)))
theorem LN_1 : ∀ q ∈ [((20 : Nat), 0, 0), (21, 0, 0), (22, 0, 0), (23, 0, 0), (24, 0, 0), (25, 0, 0), (26, 0, 0), (27, 0, 0), (28, 0, 0), (29, 0, 0), (30, 0, 0), (31, 0, 0), (32, 0, 0), (33, 0, 0), (34, 0, 0), (35, 0, 0)], q ∈ LN := fun q hq => List.mem_append_right _ (List.mem_append_left _ hq)
theorem LN_7 : (7, 0, 0) ∈ LN := List.mem_append_left _ List.mem_cons_self
theorem LN_8 : (8, 0, 0) ∈ LN := List.mem_append_left _ (List.mem_cons_of_mem _ List.mem_cons_self)
theorem LN_16 : (16, 0, 0) ∈ LN := List.mem_append_left _ (List.mem_cons_of_mem _ (List.mem_cons_of_mem _ List.mem_cons_self))
set_option maxRecDepth 100000 in
set_option maxHeartbeats 2000000 in
theorem L_i0 {E : gE} {ad : gAd} {S : gS} (hf : gL S = []) (K : gG E mL_law (lwB ad) 8 [some (.inl (.ref (eA E 10))), some (vR 7 0 0), none, none, none, none, none] [] (tDk0 (snew S 7 0 0)) 9 351) : gG E mL_law (lwB ad) 0 [some (.inl (.ref (eA E 10))), none, none, none, none, none, none] [] S 0 0 := by
  refine g_new (pc' := 3) (k := 7) (j := 0) (t := 0) cf7 clL_8 ia7 inX7 dL_law_0 rfl (by rw [hf]; decide) LN_7 (by simp [gNo]) (by simp [gNo]) (Nat.le_of_ble_eq_true rfl) (Nat.le_of_ble_eq_true rfl) ?_
  have hL : gL (snew S 7 0 0) = [(7, 0, 0)] := by rw [gL_new, hf]; rfl
  refine g_dup (pc' := 4) dL_law_3 rfl rfl ?_
  refine g_callI (as := []) (q := (7, 0, 0)) (mc := 8) (ms := 341) (Nw := [(4, 0, 0), (6, 0, 0), (10, 0, 0), (11, 0, 0), (0, 0, 0), (3, 0, 0), (13, 0, 0), (14, 0, 0)]) (pc' := 7) cwL_54 dL_law_4 rfl rfl rfl (Nat.le_of_ble_eq_true rfl) (Nat.le_of_ble_eq_true rfl) (Nat.le_of_ble_eq_true rfl) (by simp [gNo]) (by simp [gNo]) LN_0 (Nat.le_of_ble_eq_true rfl) (Nat.le_of_ble_eq_true rfl) (kX7_init lv_new (by rw [hL]; decide) (by rw [hL]; decide) (by rw [hL]; decide) (by rw [hL]; decide) (by rw [hL]; decide) (by rw [hL]; decide) (by rw [hL]; decide) (by rw [hL]; decide) ?_)
  refine gastore_n1 (pc' := 8) dL_law_7 rfl (Nat.le_of_ble_eq_true rfl) rfl ?_
  exact K
set_option maxRecDepth 100000 in
set_option maxHeartbeats 2000000 in
theorem L_i1 {E : gE} {ad : gAd} {S : gS} (hf : gL S = [(7, 0, 0), (4, 0, 0), (6, 0, 0), (10, 0, 0), (11, 0, 0), (0, 0, 0), (3, 0, 0), (13, 0, 0), (14, 0, 0)]) (K : gG E mL_law (lwB ad) 16 [some (.inl (.ref (eA E 10))), some (vR 7 0 0), some (vR 8 0 0), none, none, none, none] [] (m35S (snew S 8 0 0)) 26 1343) : gG E mL_law (lwB ad) 8 [some (.inl (.ref (eA E 10))), some (vR 7 0 0), none, none, none, none, none] [] S 9 351 := by
  refine g_new (pc' := 11) (k := 8) (j := 0) (t := 0) cf8 clL_55 ia8 inX8 dL_law_8 rfl (by rw [hf]; decide) LN_8 (by simp [gNo]) (by simp [gNo]) (Nat.le_of_ble_eq_true rfl) (Nat.le_of_ble_eq_true rfl) ?_
  have hL : gL (snew S 8 0 0) = [(7, 0, 0), (4, 0, 0), (6, 0, 0), (10, 0, 0), (11, 0, 0), (0, 0, 0), (3, 0, 0), (13, 0, 0), (14, 0, 0), (8, 0, 0)] := by rw [gL_new, hf]; rfl
  refine g_dup (pc' := 12) dL_law_11 rfl rfl ?_
  refine g_callI (as := []) (q := (8, 0, 0)) (mc := 16) (ms := 964) (Nw := [(20, 0, 0), (21, 0, 0), (22, 0, 0), (23, 0, 0), (24, 0, 0), (25, 0, 0), (26, 0, 0), (27, 0, 0), (28, 0, 0), (29, 0, 0), (30, 0, 0), (31, 0, 0), (32, 0, 0), (33, 0, 0), (34, 0, 0), (35, 0, 0)]) (pc' := 15) cwL_57 dL_law_12 rfl rfl rfl (Nat.le_of_ble_eq_true rfl) (Nat.le_of_ble_eq_true rfl) (Nat.le_of_ble_eq_true rfl) (by simp [gNo]) (by simp [gNo]) LN_1 (Nat.le_of_ble_eq_true rfl) (Nat.le_of_ble_eq_true rfl) (kX8_init lv_new (fun q h1 h2 z => by
    rw [hL] at z
    simp only [List.mem_cons, List.not_mem_nil, or_false, Prod.mk.injEq] at z
    omega) ?_)
  refine gastore_n2 (pc' := 16) dL_law_15 rfl (Nat.le_of_ble_eq_true rfl) rfl ?_
  exact K
set_option maxRecDepth 100000 in
set_option maxHeartbeats 2000000 in
theorem L_i2 {E : gE} {ad : gAd} {S : gS} (hf : (16, 0, 0) ∉ gL S) (K : gG E mL_law (lwB ad) 23 [some (.inl (.ref (eA E 10))), some (vR 7 0 0), some (vR 8 0 0), some (vR 16 0 0), some (vI (nI 0)), none, none] [] (snew S 16 0 0) 27 1344) : gG E mL_law (lwB ad) 16 [some (.inl (.ref (eA E 10))), some (vR 7 0 0), some (vR 8 0 0), none, none, none, none] [] S 26 1343 := by
  refine g_iconst (pc' := 17) (v := 1) dL_law_16 rfl rfl ?_
  refine g_newaJ (pc' := 19) (k := 16) (j := 0) ac_long dL_law_17 rfl (by decide) rfl (by decide) rfl (by decide) hf LN_16 (by simp [gNo]) (by simp [gNo]) (Nat.le_of_ble_eq_true rfl) (Nat.le_of_ble_eq_true rfl) ?_
  refine gastore_n3 (pc' := 20) dL_law_19 rfl (Nat.le_of_ble_eq_true rfl) rfl ?_
  refine g_iconst (pc' := 21) (v := 0) dL_law_20 rfl rfl ?_
  refine gistore4 (pc' := 23) dL_law_21 rfl (Nat.le_of_ble_eq_true rfl) rfl ?_
  exact K
theorem L_start {E : gE} {ad : gAd} (hL : eA E 11 ≤ 240) : gG E mL_law (lwB ad) 0 [some (.inl (.ref (eA E 10))), none, none, none, none, none, none] [] s0 0 0 := by
  refine L_i0 s0_L ?_
  show gG E mL_law (lwB ad) 8 [some (.inl (.ref (eA E 10))), some (vR 7 0 0), none, none, none, none, none] [] s1 9 351
  refine L_i1 s1_L ?_
  show gG E mL_law (lwB ad) 16 [some (.inl (.ref (eA E 10))), some (vR 7 0 0), some (vR 8 0 0), none, none, none, none] [] s2 26 1343
  refine L_i2 (by rw [s2_L]; decide) ?_
  show gG E mL_law (lwB ad) 23 [some (.inl (.ref (eA E 10))), some (vR 7 0 0), some (vR 8 0 0), some (vR 16 0 0), some (vI (nI 0)), none, none] [] s3 27 1344
  exact L_loop hL 60 0 0 27 1344 s3 rfl (by omega) (by omega) (by omega) (by omega) s3_WI
