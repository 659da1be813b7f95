/-! THE MODEL (17): what is made anew -/
def mA (S : gS) (k g : Nat) : gS := sfR (snew S k 0 0) g 0 0 (some (k, 0, 0))
theorem mA_L (S : gS) (k g : Nat) : gL (mA S k g) = gL S ++ [(k, 0, 0)] := rfl
set_option maxRecDepth 100000 in
set_option maxHeartbeats 2000000 in
theorem kX8_i20 {E : gE} {S : gS} {ad : gAd} {Q : Option gV → gS → Prop} (l8 : lv S 8 0 0) (hf : (20, 0, 0) ∉ gL S) (K : gG E mX8_init (gBof 2 16 964 ad [(20, 0, 0), (21, 0, 0), (22, 0, 0), (23, 0, 0), (24, 0, 0), (25, 0, 0), (26, 0, 0), (27, 0, 0), (28, 0, 0), (29, 0, 0), (30, 0, 0), (31, 0, 0), (32, 0, 0), (33, 0, 0), (34, 0, 0), (35, 0, 0)] Q) 17 [some (vR 8 0 0)] [] (mA S 20 262) 1 60) : gG E mX8_init (gBof 2 16 964 ad [(20, 0, 0), (21, 0, 0), (22, 0, 0), (23, 0, 0), (24, 0, 0), (25, 0, 0), (26, 0, 0), (27, 0, 0), (28, 0, 0), (29, 0, 0), (30, 0, 0), (31, 0, 0), (32, 0, 0), (33, 0, 0), (34, 0, 0), (35, 0, 0)] Q) 9 [some (vR 8 0 0)] [] S 0 0 := by
  refine g_aload_n (pc' := 10) dX8_init_9 rfl rfl ?_
  refine g_bipush (pc' := 12) (v := 60) dX8_init_10 rfl rfl ?_
  refine g_newaI (pc' := 14) (k := 20) (j := 0) ac_int dX8_init_12 rfl (by decide) rfl (by decide) rfl (by decide) hf (by simp [bN, gBof]) (by simp [gNo]) (by simp [gNo]) (Nat.le_of_ble_eq_true rfl) (Nat.le_of_ble_eq_true rfl) ?_
  have l8 : lv (snew S 20 0 0) 8 0 0 := List.mem_append_left _ l8
  refine gpX8_13 (pc' := 17) rfl rfl dX8_init_14 rfl l8 lv_new ?_
  exact K

set_option maxRecDepth 100000 in
set_option maxHeartbeats 2000000 in
theorem kX8_i21 {E : gE} {S : gS} {ad : gAd} {Q : Option gV → gS → Prop} (l8 : lv S 8 0 0) (hf : (21, 0, 0) ∉ gL S) (K : gG E mX8_init (gBof 2 16 964 ad [(20, 0, 0), (21, 0, 0), (22, 0, 0), (23, 0, 0), (24, 0, 0), (25, 0, 0), (26, 0, 0), (27, 0, 0), (28, 0, 0), (29, 0, 0), (30, 0, 0), (31, 0, 0), (32, 0, 0), (33, 0, 0), (34, 0, 0), (35, 0, 0)] Q) 31 [some (vR 8 0 0)] [] (mA S 21 265) 2 426) : gG E mX8_init (gBof 2 16 964 ad [(20, 0, 0), (21, 0, 0), (22, 0, 0), (23, 0, 0), (24, 0, 0), (25, 0, 0), (26, 0, 0), (27, 0, 0), (28, 0, 0), (29, 0, 0), (30, 0, 0), (31, 0, 0), (32, 0, 0), (33, 0, 0), (34, 0, 0), (35, 0, 0)] Q) 22 [some (vR 8 0 0)] [] S 1 60 := by
  refine g_aload_n (pc' := 23) dX8_init_22 rfl rfl ?_
  refine g_sipush (pc' := 26) (v := 366) dX8_init_23 rfl rfl ?_
  refine g_newaI (pc' := 28) (k := 21) (j := 0) ac_int dX8_init_26 rfl (by decide) rfl (by decide) rfl (by decide) hf (by simp [bN, gBof]) (by simp [gNo]) (by simp [gNo]) (Nat.le_of_ble_eq_true rfl) (Nat.le_of_ble_eq_true rfl) ?_
  have l8 : lv (snew S 21 0 0) 8 0 0 := List.mem_append_left _ l8
  refine gpX8_20 (pc' := 31) rfl rfl dX8_init_28 rfl l8 lv_new ?_
  exact K

set_option maxRecDepth 100000 in
set_option maxHeartbeats 2000000 in
theorem kX8_i22 {E : gE} {S : gS} {ad : gAd} {Q : Option gV → gS → Prop} (l8 : lv S 8 0 0) (hf : (22, 0, 0) ∉ gL S) (K : gG E mX8_init (gBof 2 16 964 ad [(20, 0, 0), (21, 0, 0), (22, 0, 0), (23, 0, 0), (24, 0, 0), (25, 0, 0), (26, 0, 0), (27, 0, 0), (28, 0, 0), (29, 0, 0), (30, 0, 0), (31, 0, 0), (32, 0, 0), (33, 0, 0), (34, 0, 0), (35, 0, 0)] Q) 39 [some (vR 8 0 0)] [] (mA S 22 266) 3 456) : gG E mX8_init (gBof 2 16 964 ad [(20, 0, 0), (21, 0, 0), (22, 0, 0), (23, 0, 0), (24, 0, 0), (25, 0, 0), (26, 0, 0), (27, 0, 0), (28, 0, 0), (29, 0, 0), (30, 0, 0), (31, 0, 0), (32, 0, 0), (33, 0, 0), (34, 0, 0), (35, 0, 0)] Q) 31 [some (vR 8 0 0)] [] S 2 426 := by
  refine g_aload_n (pc' := 32) dX8_init_31 rfl rfl ?_
  refine g_bipush (pc' := 34) (v := 30) dX8_init_32 rfl rfl ?_
  refine g_newaI (pc' := 36) (k := 22) (j := 0) ac_int dX8_init_34 rfl (by decide) rfl (by decide) rfl (by decide) hf (by simp [bN, gBof]) (by simp [gNo]) (by simp [gNo]) (Nat.le_of_ble_eq_true rfl) (Nat.le_of_ble_eq_true rfl) ?_
  have l8 : lv (snew S 22 0 0) 8 0 0 := List.mem_append_left _ l8
  refine gpX8_23 (pc' := 39) rfl rfl dX8_init_36 rfl l8 lv_new ?_
  exact K

set_option maxRecDepth 100000 in
set_option maxHeartbeats 2000000 in
theorem kX8_i23 {E : gE} {S : gS} {ad : gAd} {Q : Option gV → gS → Prop} (l8 : lv S 8 0 0) (hf : (23, 0, 0) ∉ gL S) (K : gG E mX8_init (gBof 2 16 964 ad [(20, 0, 0), (21, 0, 0), (22, 0, 0), (23, 0, 0), (24, 0, 0), (25, 0, 0), (26, 0, 0), (27, 0, 0), (28, 0, 0), (29, 0, 0), (30, 0, 0), (31, 0, 0), (32, 0, 0), (33, 0, 0), (34, 0, 0), (35, 0, 0)] Q) 47 [some (vR 8 0 0)] [] (mA S 23 267) 4 462) : gG E mX8_init (gBof 2 16 964 ad [(20, 0, 0), (21, 0, 0), (22, 0, 0), (23, 0, 0), (24, 0, 0), (25, 0, 0), (26, 0, 0), (27, 0, 0), (28, 0, 0), (29, 0, 0), (30, 0, 0), (31, 0, 0), (32, 0, 0), (33, 0, 0), (34, 0, 0), (35, 0, 0)] Q) 39 [some (vR 8 0 0)] [] S 3 456 := by
  refine g_aload_n (pc' := 40) dX8_init_39 rfl rfl ?_
  refine g_bipush (pc' := 42) (v := 6) dX8_init_40 rfl rfl ?_
  refine g_newaI (pc' := 44) (k := 23) (j := 0) ac_int dX8_init_42 rfl (by decide) rfl (by decide) rfl (by decide) hf (by simp [bN, gBof]) (by simp [gNo]) (by simp [gNo]) (Nat.le_of_ble_eq_true rfl) (Nat.le_of_ble_eq_true rfl) ?_
  have l8 : lv (snew S 23 0 0) 8 0 0 := List.mem_append_left _ l8
  refine gpX8_26 (pc' := 47) rfl rfl dX8_init_44 rfl l8 lv_new ?_
  exact K

set_option maxRecDepth 100000 in
set_option maxHeartbeats 2000000 in
theorem kX8_i24 {E : gE} {S : gS} {ad : gAd} {Q : Option gV → gS → Prop} (l8 : lv S 8 0 0) (hf : (24, 0, 0) ∉ gL S) (K : gG E mX8_init (gBof 2 16 964 ad [(20, 0, 0), (21, 0, 0), (22, 0, 0), (23, 0, 0), (24, 0, 0), (25, 0, 0), (26, 0, 0), (27, 0, 0), (28, 0, 0), (29, 0, 0), (30, 0, 0), (31, 0, 0), (32, 0, 0), (33, 0, 0), (34, 0, 0), (35, 0, 0)] Q) 55 [some (vR 8 0 0)] [] (mA S 24 268) 5 468) : gG E mX8_init (gBof 2 16 964 ad [(20, 0, 0), (21, 0, 0), (22, 0, 0), (23, 0, 0), (24, 0, 0), (25, 0, 0), (26, 0, 0), (27, 0, 0), (28, 0, 0), (29, 0, 0), (30, 0, 0), (31, 0, 0), (32, 0, 0), (33, 0, 0), (34, 0, 0), (35, 0, 0)] Q) 47 [some (vR 8 0 0)] [] S 4 462 := by
  refine g_aload_n (pc' := 48) dX8_init_47 rfl rfl ?_
  refine g_bipush (pc' := 50) (v := 6) dX8_init_48 rfl rfl ?_
  refine g_newaI (pc' := 52) (k := 24) (j := 0) ac_int dX8_init_50 rfl (by decide) rfl (by decide) rfl (by decide) hf (by simp [bN, gBof]) (by simp [gNo]) (by simp [gNo]) (Nat.le_of_ble_eq_true rfl) (Nat.le_of_ble_eq_true rfl) ?_
  have l8 : lv (snew S 24 0 0) 8 0 0 := List.mem_append_left _ l8
  refine gpX8_29 (pc' := 55) rfl rfl dX8_init_52 rfl l8 lv_new ?_
  exact K

set_option maxRecDepth 100000 in
set_option maxHeartbeats 2000000 in
theorem kX8_i25 {E : gE} {S : gS} {ad : gAd} {Q : Option gV → gS → Prop} (l8 : lv S 8 0 0) (hf : (25, 0, 0) ∉ gL S) (K : gG E mX8_init (gBof 2 16 964 ad [(20, 0, 0), (21, 0, 0), (22, 0, 0), (23, 0, 0), (24, 0, 0), (25, 0, 0), (26, 0, 0), (27, 0, 0), (28, 0, 0), (29, 0, 0), (30, 0, 0), (31, 0, 0), (32, 0, 0), (33, 0, 0), (34, 0, 0), (35, 0, 0)] Q) 63 [some (vR 8 0 0)] [] (mA S 25 269) 6 474) : gG E mX8_init (gBof 2 16 964 ad [(20, 0, 0), (21, 0, 0), (22, 0, 0), (23, 0, 0), (24, 0, 0), (25, 0, 0), (26, 0, 0), (27, 0, 0), (28, 0, 0), (29, 0, 0), (30, 0, 0), (31, 0, 0), (32, 0, 0), (33, 0, 0), (34, 0, 0), (35, 0, 0)] Q) 55 [some (vR 8 0 0)] [] S 5 468 := by
  refine g_aload_n (pc' := 56) dX8_init_55 rfl rfl ?_
  refine g_bipush (pc' := 58) (v := 6) dX8_init_56 rfl rfl ?_
  refine g_newaZ (pc' := 60) (k := 25) (j := 0) ac_boolean dX8_init_58 rfl (by decide) rfl (by decide) rfl (by decide) hf (by simp [bN, gBof]) (by simp [gNo]) (by simp [gNo]) (Nat.le_of_ble_eq_true rfl) (Nat.le_of_ble_eq_true rfl) ?_
  have l8 : lv (snew S 25 0 0) 8 0 0 := List.mem_append_left _ l8
  refine gpX8_32 (pc' := 63) rfl rfl dX8_init_60 rfl l8 lv_new ?_
  exact K

set_option maxRecDepth 100000 in
set_option maxHeartbeats 2000000 in
theorem kX8_i26 {E : gE} {S : gS} {ad : gAd} {Q : Option gV → gS → Prop} (l8 : lv S 8 0 0) (hf : (26, 0, 0) ∉ gL S) (K : gG E mX8_init (gBof 2 16 964 ad [(20, 0, 0), (21, 0, 0), (22, 0, 0), (23, 0, 0), (24, 0, 0), (25, 0, 0), (26, 0, 0), (27, 0, 0), (28, 0, 0), (29, 0, 0), (30, 0, 0), (31, 0, 0), (32, 0, 0), (33, 0, 0), (34, 0, 0), (35, 0, 0)] Q) 71 [some (vR 8 0 0)] [] (mA S 26 270) 7 480) : gG E mX8_init (gBof 2 16 964 ad [(20, 0, 0), (21, 0, 0), (22, 0, 0), (23, 0, 0), (24, 0, 0), (25, 0, 0), (26, 0, 0), (27, 0, 0), (28, 0, 0), (29, 0, 0), (30, 0, 0), (31, 0, 0), (32, 0, 0), (33, 0, 0), (34, 0, 0), (35, 0, 0)] Q) 63 [some (vR 8 0 0)] [] S 6 474 := by
  refine g_aload_n (pc' := 64) dX8_init_63 rfl rfl ?_
  refine g_bipush (pc' := 66) (v := 6) dX8_init_64 rfl rfl ?_
  refine g_newaI (pc' := 68) (k := 26) (j := 0) ac_int dX8_init_66 rfl (by decide) rfl (by decide) rfl (by decide) hf (by simp [bN, gBof]) (by simp [gNo]) (by simp [gNo]) (Nat.le_of_ble_eq_true rfl) (Nat.le_of_ble_eq_true rfl) ?_
  have l8 : lv (snew S 26 0 0) 8 0 0 := List.mem_append_left _ l8
  refine gpX8_36 (pc' := 71) rfl rfl dX8_init_68 rfl l8 lv_new ?_
  exact K

set_option maxRecDepth 100000 in
set_option maxHeartbeats 2000000 in
theorem kX8_i27 {E : gE} {S : gS} {ad : gAd} {Q : Option gV → gS → Prop} (l8 : lv S 8 0 0) (hf : (27, 0, 0) ∉ gL S) (K : gG E mX8_init (gBof 2 16 964 ad [(20, 0, 0), (21, 0, 0), (22, 0, 0), (23, 0, 0), (24, 0, 0), (25, 0, 0), (26, 0, 0), (27, 0, 0), (28, 0, 0), (29, 0, 0), (30, 0, 0), (31, 0, 0), (32, 0, 0), (33, 0, 0), (34, 0, 0), (35, 0, 0)] Q) 79 [some (vR 8 0 0)] [] (mA S 27 271) 8 486) : gG E mX8_init (gBof 2 16 964 ad [(20, 0, 0), (21, 0, 0), (22, 0, 0), (23, 0, 0), (24, 0, 0), (25, 0, 0), (26, 0, 0), (27, 0, 0), (28, 0, 0), (29, 0, 0), (30, 0, 0), (31, 0, 0), (32, 0, 0), (33, 0, 0), (34, 0, 0), (35, 0, 0)] Q) 71 [some (vR 8 0 0)] [] S 7 480 := by
  refine g_aload_n (pc' := 72) dX8_init_71 rfl rfl ?_
  refine g_bipush (pc' := 74) (v := 6) dX8_init_72 rfl rfl ?_
  refine g_newaI (pc' := 76) (k := 27) (j := 0) ac_int dX8_init_74 rfl (by decide) rfl (by decide) rfl (by decide) hf (by simp [bN, gBof]) (by simp [gNo]) (by simp [gNo]) (Nat.le_of_ble_eq_true rfl) (Nat.le_of_ble_eq_true rfl) ?_
  have l8 : lv (snew S 27 0 0) 8 0 0 := List.mem_append_left _ l8
  refine gpX8_39 (pc' := 79) rfl rfl dX8_init_76 rfl l8 lv_new ?_
  exact K

set_option maxRecDepth 100000 in
set_option maxHeartbeats 2000000 in
theorem kX8_i28 {E : gE} {S : gS} {ad : gAd} {Q : Option gV → gS → Prop} (l8 : lv S 8 0 0) (hf : (28, 0, 0) ∉ gL S) (K : gG E mX8_init (gBof 2 16 964 ad [(20, 0, 0), (21, 0, 0), (22, 0, 0), (23, 0, 0), (24, 0, 0), (25, 0, 0), (26, 0, 0), (27, 0, 0), (28, 0, 0), (29, 0, 0), (30, 0, 0), (31, 0, 0), (32, 0, 0), (33, 0, 0), (34, 0, 0), (35, 0, 0)] Q) 87 [some (vR 8 0 0)] [] (mA S 28 272) 9 492) : gG E mX8_init (gBof 2 16 964 ad [(20, 0, 0), (21, 0, 0), (22, 0, 0), (23, 0, 0), (24, 0, 0), (25, 0, 0), (26, 0, 0), (27, 0, 0), (28, 0, 0), (29, 0, 0), (30, 0, 0), (31, 0, 0), (32, 0, 0), (33, 0, 0), (34, 0, 0), (35, 0, 0)] Q) 79 [some (vR 8 0 0)] [] S 8 486 := by
  refine g_aload_n (pc' := 80) dX8_init_79 rfl rfl ?_
  refine g_bipush (pc' := 82) (v := 6) dX8_init_80 rfl rfl ?_
  refine g_newaZ (pc' := 84) (k := 28) (j := 0) ac_boolean dX8_init_82 rfl (by decide) rfl (by decide) rfl (by decide) hf (by simp [bN, gBof]) (by simp [gNo]) (by simp [gNo]) (Nat.le_of_ble_eq_true rfl) (Nat.le_of_ble_eq_true rfl) ?_
  have l8 : lv (snew S 28 0 0) 8 0 0 := List.mem_append_left _ l8
  refine gpX8_42 (pc' := 87) rfl rfl dX8_init_84 rfl l8 lv_new ?_
  exact K

set_option maxRecDepth 100000 in
set_option maxHeartbeats 2000000 in
theorem kX8_i29 {E : gE} {S : gS} {ad : gAd} {Q : Option gV → gS → Prop} (l8 : lv S 8 0 0) (hf : (29, 0, 0) ∉ gL S) (K : gG E mX8_init (gBof 2 16 964 ad [(20, 0, 0), (21, 0, 0), (22, 0, 0), (23, 0, 0), (24, 0, 0), (25, 0, 0), (26, 0, 0), (27, 0, 0), (28, 0, 0), (29, 0, 0), (30, 0, 0), (31, 0, 0), (32, 0, 0), (33, 0, 0), (34, 0, 0), (35, 0, 0)] Q) 95 [some (vR 8 0 0)] [] (mA S 29 273) 10 528) : gG E mX8_init (gBof 2 16 964 ad [(20, 0, 0), (21, 0, 0), (22, 0, 0), (23, 0, 0), (24, 0, 0), (25, 0, 0), (26, 0, 0), (27, 0, 0), (28, 0, 0), (29, 0, 0), (30, 0, 0), (31, 0, 0), (32, 0, 0), (33, 0, 0), (34, 0, 0), (35, 0, 0)] Q) 87 [some (vR 8 0 0)] [] S 9 492 := by
  refine g_aload_n (pc' := 88) dX8_init_87 rfl rfl ?_
  refine g_bipush (pc' := 90) (v := 36) dX8_init_88 rfl rfl ?_
  refine g_newaI (pc' := 92) (k := 29) (j := 0) ac_int dX8_init_90 rfl (by decide) rfl (by decide) rfl (by decide) hf (by simp [bN, gBof]) (by simp [gNo]) (by simp [gNo]) (Nat.le_of_ble_eq_true rfl) (Nat.le_of_ble_eq_true rfl) ?_
  have l8 : lv (snew S 29 0 0) 8 0 0 := List.mem_append_left _ l8
  refine gpX8_45 (pc' := 95) rfl rfl dX8_init_92 rfl l8 lv_new ?_
  exact K

set_option maxRecDepth 100000 in
set_option maxHeartbeats 2000000 in
theorem kX8_i30 {E : gE} {S : gS} {ad : gAd} {Q : Option gV → gS → Prop} (l8 : lv S 8 0 0) (hf : (30, 0, 0) ∉ gL S) (K : gG E mX8_init (gBof 2 16 964 ad [(20, 0, 0), (21, 0, 0), (22, 0, 0), (23, 0, 0), (24, 0, 0), (25, 0, 0), (26, 0, 0), (27, 0, 0), (28, 0, 0), (29, 0, 0), (30, 0, 0), (31, 0, 0), (32, 0, 0), (33, 0, 0), (34, 0, 0), (35, 0, 0)] Q) 103 [some (vR 8 0 0)] [] (mA S 30 274) 11 564) : gG E mX8_init (gBof 2 16 964 ad [(20, 0, 0), (21, 0, 0), (22, 0, 0), (23, 0, 0), (24, 0, 0), (25, 0, 0), (26, 0, 0), (27, 0, 0), (28, 0, 0), (29, 0, 0), (30, 0, 0), (31, 0, 0), (32, 0, 0), (33, 0, 0), (34, 0, 0), (35, 0, 0)] Q) 95 [some (vR 8 0 0)] [] S 10 528 := by
  refine g_aload_n (pc' := 96) dX8_init_95 rfl rfl ?_
  refine g_bipush (pc' := 98) (v := 36) dX8_init_96 rfl rfl ?_
  refine g_newaI (pc' := 100) (k := 30) (j := 0) ac_int dX8_init_98 rfl (by decide) rfl (by decide) rfl (by decide) hf (by simp [bN, gBof]) (by simp [gNo]) (by simp [gNo]) (Nat.le_of_ble_eq_true rfl) (Nat.le_of_ble_eq_true rfl) ?_
  have l8 : lv (snew S 30 0 0) 8 0 0 := List.mem_append_left _ l8
  refine gpX8_48 (pc' := 103) rfl rfl dX8_init_100 rfl l8 lv_new ?_
  exact K

set_option maxRecDepth 100000 in
set_option maxHeartbeats 2000000 in
theorem kX8_i31 {E : gE} {S : gS} {ad : gAd} {Q : Option gV → gS → Prop} (l8 : lv S 8 0 0) (hf : (31, 0, 0) ∉ gL S) (K : gG E mX8_init (gBof 2 16 964 ad [(20, 0, 0), (21, 0, 0), (22, 0, 0), (23, 0, 0), (24, 0, 0), (25, 0, 0), (26, 0, 0), (27, 0, 0), (28, 0, 0), (29, 0, 0), (30, 0, 0), (31, 0, 0), (32, 0, 0), (33, 0, 0), (34, 0, 0), (35, 0, 0)] Q) 111 [some (vR 8 0 0)] [] (mA S 31 275) 12 600) : gG E mX8_init (gBof 2 16 964 ad [(20, 0, 0), (21, 0, 0), (22, 0, 0), (23, 0, 0), (24, 0, 0), (25, 0, 0), (26, 0, 0), (27, 0, 0), (28, 0, 0), (29, 0, 0), (30, 0, 0), (31, 0, 0), (32, 0, 0), (33, 0, 0), (34, 0, 0), (35, 0, 0)] Q) 103 [some (vR 8 0 0)] [] S 11 564 := by
  refine g_aload_n (pc' := 104) dX8_init_103 rfl rfl ?_
  refine g_bipush (pc' := 106) (v := 36) dX8_init_104 rfl rfl ?_
  refine g_newaI (pc' := 108) (k := 31) (j := 0) ac_int dX8_init_106 rfl (by decide) rfl (by decide) rfl (by decide) hf (by simp [bN, gBof]) (by simp [gNo]) (by simp [gNo]) (Nat.le_of_ble_eq_true rfl) (Nat.le_of_ble_eq_true rfl) ?_
  have l8 : lv (snew S 31 0 0) 8 0 0 := List.mem_append_left _ l8
  refine gpX8_51 (pc' := 111) rfl rfl dX8_init_108 rfl l8 lv_new ?_
  exact K

set_option maxRecDepth 100000 in
set_option maxHeartbeats 2000000 in
theorem kX8_i32 {E : gE} {S : gS} {ad : gAd} {Q : Option gV → gS → Prop} (l8 : lv S 8 0 0) (hf : (32, 0, 0) ∉ gL S) (K : gG E mX8_init (gBof 2 16 964 ad [(20, 0, 0), (21, 0, 0), (22, 0, 0), (23, 0, 0), (24, 0, 0), (25, 0, 0), (26, 0, 0), (27, 0, 0), (28, 0, 0), (29, 0, 0), (30, 0, 0), (31, 0, 0), (32, 0, 0), (33, 0, 0), (34, 0, 0), (35, 0, 0)] Q) 119 [some (vR 8 0 0)] [] (mA S 32 276) 13 636) : gG E mX8_init (gBof 2 16 964 ad [(20, 0, 0), (21, 0, 0), (22, 0, 0), (23, 0, 0), (24, 0, 0), (25, 0, 0), (26, 0, 0), (27, 0, 0), (28, 0, 0), (29, 0, 0), (30, 0, 0), (31, 0, 0), (32, 0, 0), (33, 0, 0), (34, 0, 0), (35, 0, 0)] Q) 111 [some (vR 8 0 0)] [] S 12 600 := by
  refine g_aload_n (pc' := 112) dX8_init_111 rfl rfl ?_
  refine g_bipush (pc' := 114) (v := 36) dX8_init_112 rfl rfl ?_
  refine g_newaI (pc' := 116) (k := 32) (j := 0) ac_int dX8_init_114 rfl (by decide) rfl (by decide) rfl (by decide) hf (by simp [bN, gBof]) (by simp [gNo]) (by simp [gNo]) (Nat.le_of_ble_eq_true rfl) (Nat.le_of_ble_eq_true rfl) ?_
  have l8 : lv (snew S 32 0 0) 8 0 0 := List.mem_append_left _ l8
  refine gpX8_54 (pc' := 119) rfl rfl dX8_init_116 rfl l8 lv_new ?_
  exact K

set_option maxRecDepth 100000 in
set_option maxHeartbeats 2000000 in
theorem kX8_i33 {E : gE} {S : gS} {ad : gAd} {Q : Option gV → gS → Prop} (l8 : lv S 8 0 0) (hf : (33, 0, 0) ∉ gL S) (K : gG E mX8_init (gBof 2 16 964 ad [(20, 0, 0), (21, 0, 0), (22, 0, 0), (23, 0, 0), (24, 0, 0), (25, 0, 0), (26, 0, 0), (27, 0, 0), (28, 0, 0), (29, 0, 0), (30, 0, 0), (31, 0, 0), (32, 0, 0), (33, 0, 0), (34, 0, 0), (35, 0, 0)] Q) 127 [some (vR 8 0 0)] [] (mA S 33 277) 14 672) : gG E mX8_init (gBof 2 16 964 ad [(20, 0, 0), (21, 0, 0), (22, 0, 0), (23, 0, 0), (24, 0, 0), (25, 0, 0), (26, 0, 0), (27, 0, 0), (28, 0, 0), (29, 0, 0), (30, 0, 0), (31, 0, 0), (32, 0, 0), (33, 0, 0), (34, 0, 0), (35, 0, 0)] Q) 119 [some (vR 8 0 0)] [] S 13 636 := by
  refine g_aload_n (pc' := 120) dX8_init_119 rfl rfl ?_
  refine g_bipush (pc' := 122) (v := 36) dX8_init_120 rfl rfl ?_
  refine g_newaI (pc' := 124) (k := 33) (j := 0) ac_int dX8_init_122 rfl (by decide) rfl (by decide) rfl (by decide) hf (by simp [bN, gBof]) (by simp [gNo]) (by simp [gNo]) (Nat.le_of_ble_eq_true rfl) (Nat.le_of_ble_eq_true rfl) ?_
  have l8 : lv (snew S 33 0 0) 8 0 0 := List.mem_append_left _ l8
  refine gpX8_57 (pc' := 127) rfl rfl dX8_init_124 rfl l8 lv_new ?_
  exact K

set_option maxRecDepth 100000 in
set_option maxHeartbeats 2000000 in
theorem kX8_i34 {E : gE} {S : gS} {ad : gAd} {Q : Option gV → gS → Prop} (l8 : lv S 8 0 0) (hf : (34, 0, 0) ∉ gL S) (K : gG E mX8_init (gBof 2 16 964 ad [(20, 0, 0), (21, 0, 0), (22, 0, 0), (23, 0, 0), (24, 0, 0), (25, 0, 0), (26, 0, 0), (27, 0, 0), (28, 0, 0), (29, 0, 0), (30, 0, 0), (31, 0, 0), (32, 0, 0), (33, 0, 0), (34, 0, 0), (35, 0, 0)] Q) 135 [some (vR 8 0 0)] [] (mA S 34 278) 15 708) : gG E mX8_init (gBof 2 16 964 ad [(20, 0, 0), (21, 0, 0), (22, 0, 0), (23, 0, 0), (24, 0, 0), (25, 0, 0), (26, 0, 0), (27, 0, 0), (28, 0, 0), (29, 0, 0), (30, 0, 0), (31, 0, 0), (32, 0, 0), (33, 0, 0), (34, 0, 0), (35, 0, 0)] Q) 127 [some (vR 8 0 0)] [] S 14 672 := by
  refine g_aload_n (pc' := 128) dX8_init_127 rfl rfl ?_
  refine g_bipush (pc' := 130) (v := 36) dX8_init_128 rfl rfl ?_
  refine g_newaI (pc' := 132) (k := 34) (j := 0) ac_int dX8_init_130 rfl (by decide) rfl (by decide) rfl (by decide) hf (by simp [bN, gBof]) (by simp [gNo]) (by simp [gNo]) (Nat.le_of_ble_eq_true rfl) (Nat.le_of_ble_eq_true rfl) ?_
  have l8 : lv (snew S 34 0 0) 8 0 0 := List.mem_append_left _ l8
  refine gpX8_60 (pc' := 135) rfl rfl dX8_init_132 rfl l8 lv_new ?_
  exact K

set_option maxRecDepth 100000 in
set_option maxHeartbeats 2000000 in
theorem kX8_i35 {E : gE} {S : gS} {ad : gAd} {Q : Option gV → gS → Prop} (l8 : lv S 8 0 0) (hf : (35, 0, 0) ∉ gL S) (K : gG E mX8_init (gBof 2 16 964 ad [(20, 0, 0), (21, 0, 0), (22, 0, 0), (23, 0, 0), (24, 0, 0), (25, 0, 0), (26, 0, 0), (27, 0, 0), (28, 0, 0), (29, 0, 0), (30, 0, 0), (31, 0, 0), (32, 0, 0), (33, 0, 0), (34, 0, 0), (35, 0, 0)] Q) 144 [some (vR 8 0 0)] [] (mA S 35 280) 16 964) : gG E mX8_init (gBof 2 16 964 ad [(20, 0, 0), (21, 0, 0), (22, 0, 0), (23, 0, 0), (24, 0, 0), (25, 0, 0), (26, 0, 0), (27, 0, 0), (28, 0, 0), (29, 0, 0), (30, 0, 0), (31, 0, 0), (32, 0, 0), (33, 0, 0), (34, 0, 0), (35, 0, 0)] Q) 135 [some (vR 8 0 0)] [] S 15 708 := by
  refine g_aload_n (pc' := 136) dX8_init_135 rfl rfl ?_
  refine g_sipush (pc' := 139) (v := 256) dX8_init_136 rfl rfl ?_
  refine g_newaI (pc' := 141) (k := 35) (j := 0) ac_int dX8_init_139 rfl (by decide) rfl (by decide) rfl (by decide) hf (by simp [bN, gBof]) (by simp [gNo]) (by simp [gNo]) (Nat.le_of_ble_eq_true rfl) (Nat.le_of_ble_eq_true rfl) ?_
  have l8 : lv (snew S 35 0 0) 8 0 0 := List.mem_append_left _ l8
  refine gpX8_63 (pc' := 144) rfl rfl dX8_init_141 rfl l8 lv_new ?_
  exact K

def mS0 (S : gS) : gS := sfI S 258 0 0 2
def m20S (S : gS) : gS := mA (mS0 S) 20 262
def m20T (S : gS) : gS := sfI (m20S S) 263 0 0 (-1)
def m21S (S : gS) : gS := mA (m20T S) 21 265
def m22S (S : gS) : gS := mA (m21S S) 22 266
def m23S (S : gS) : gS := mA (m22S S) 23 267
def m24S (S : gS) : gS := mA (m23S S) 24 268
def m25S (S : gS) : gS := mA (m24S S) 25 269
def m26S (S : gS) : gS := mA (m25S S) 26 270
def m27S (S : gS) : gS := mA (m26S S) 27 271
def m28S (S : gS) : gS := mA (m27S S) 28 272
def m29S (S : gS) : gS := mA (m28S S) 29 273
def m30S (S : gS) : gS := mA (m29S S) 30 274
def m31S (S : gS) : gS := mA (m30S S) 31 275
def m32S (S : gS) : gS := mA (m31S S) 32 276
def m33S (S : gS) : gS := mA (m32S S) 33 277
def m34S (S : gS) : gS := mA (m33S S) 34 278
def m35S (S : gS) : gS := mA (m34S S) 35 280
theorem m20L (S : gS) : gL (m20S S) = gL (mS0 S) ++ [(20, 0, 0)] := mA_L _ _ _
theorem m20TL (S : gS) : gL (m20T S) = gL (m20S S) := rfl
theorem m21L (S : gS) : gL (m21S S) = gL (m20T S) ++ [(21, 0, 0)] := mA_L _ _ _
theorem m22L (S : gS) : gL (m22S S) = gL (m21S S) ++ [(22, 0, 0)] := mA_L _ _ _
theorem m23L (S : gS) : gL (m23S S) = gL (m22S S) ++ [(23, 0, 0)] := mA_L _ _ _
theorem m24L (S : gS) : gL (m24S S) = gL (m23S S) ++ [(24, 0, 0)] := mA_L _ _ _
theorem m25L (S : gS) : gL (m25S S) = gL (m24S S) ++ [(25, 0, 0)] := mA_L _ _ _
theorem m26L (S : gS) : gL (m26S S) = gL (m25S S) ++ [(26, 0, 0)] := mA_L _ _ _
theorem m27L (S : gS) : gL (m27S S) = gL (m26S S) ++ [(27, 0, 0)] := mA_L _ _ _
theorem m28L (S : gS) : gL (m28S S) = gL (m27S S) ++ [(28, 0, 0)] := mA_L _ _ _
theorem m29L (S : gS) : gL (m29S S) = gL (m28S S) ++ [(29, 0, 0)] := mA_L _ _ _
theorem m30L (S : gS) : gL (m30S S) = gL (m29S S) ++ [(30, 0, 0)] := mA_L _ _ _
theorem m31L (S : gS) : gL (m31S S) = gL (m30S S) ++ [(31, 0, 0)] := mA_L _ _ _
theorem m32L (S : gS) : gL (m32S S) = gL (m31S S) ++ [(32, 0, 0)] := mA_L _ _ _
theorem m33L (S : gS) : gL (m33S S) = gL (m32S S) ++ [(33, 0, 0)] := mA_L _ _ _
theorem m34L (S : gS) : gL (m34S S) = gL (m33S S) ++ [(34, 0, 0)] := mA_L _ _ _
theorem m35L (S : gS) : gL (m35S S) = gL (m34S S) ++ [(35, 0, 0)] := mA_L _ _ _
theorem m_up {S S' : gS} {k : Nat} (h : lv S 8 0 0) (e : gL S' = gL S ++ [(k, 0, 0)]) : lv S' 8 0 0 := lv_up h e
theorem m_fr {S S' : gS} {k : Nat} (h : ∀ q, 20 ≤ q → q < 36 → (q, 0, 0) ∉ gL S) (N : Nat) (e : gL S' = gL S ++ [(N, 0, 0)]) (hN : N < k) : ∀ q, k ≤ q → 20 ≤ q → q < 36 → (q, 0, 0) ∉ gL S' := fun q h1 h2 h3 => by
  rw [e]
  refine gfr (h q h2 h3) (fun z => ?_)
  have z2 := List.mem_singleton.mp z
  have z3 : q = N := congrArg Prod.fst z2
  omega
theorem m_fs {S S' : gS} {k N : Nat} (h : ∀ q, k ≤ q → 20 ≤ q → q < 36 → (q, 0, 0) ∉ gL S) (e : gL S' = gL S ++ [(N, 0, 0)]) (hN : N = k) : ∀ q, k + 1 ≤ q → 20 ≤ q → q < 36 → (q, 0, 0) ∉ gL S' := fun q h1 h2 h3 => by
  rw [e]
  refine gfr (h q (by omega) h2 h3) (fun z => ?_)
  have z2 := List.mem_singleton.mp z
  have z3 : q = N := congrArg Prod.fst z2
  omega
set_option maxRecDepth 100000 in
set_option maxHeartbeats 2000000 in
theorem kX8_p21 {E : gE} {S : gS} {ad : gAd} {Q : Option gV → gS → Prop} (l8 : lv S 8 0 0) (K : gG E mX8_init (gBof 2 16 964 ad [(20, 0, 0), (21, 0, 0), (22, 0, 0), (23, 0, 0), (24, 0, 0), (25, 0, 0), (26, 0, 0), (27, 0, 0), (28, 0, 0), (29, 0, 0), (30, 0, 0), (31, 0, 0), (32, 0, 0), (33, 0, 0), (34, 0, 0), (35, 0, 0)] Q) 22 [some (vR 8 0 0)] [] (sfI S 263 0 0 (-1)) 1 60) : gG E mX8_init (gBof 2 16 964 ad [(20, 0, 0), (21, 0, 0), (22, 0, 0), (23, 0, 0), (24, 0, 0), (25, 0, 0), (26, 0, 0), (27, 0, 0), (28, 0, 0), (29, 0, 0), (30, 0, 0), (31, 0, 0), (32, 0, 0), (33, 0, 0), (34, 0, 0), (35, 0, 0)] Q) 17 [some (vR 8 0 0)] [] S 1 60 := by
  refine g_aload_n (pc' := 18) dX8_init_17 rfl rfl ?_
  refine g_iconst (pc' := 19) (v := (-1)) dX8_init_18 rfl rfl ?_
  refine gpX8_17 (pc' := 22) rfl dX8_init_19 rfl l8 ?_
  exact K

set_option maxRecDepth 100000 in
set_option maxHeartbeats 2000000 in
theorem kX8_init {E : gE} {S : gS} {Q : Option gV → gS → Prop} (l8 : lv S 8 0 0) (hf : ∀ q, 20 ≤ q → q < 36 → (q, 0, 0) ∉ gL S) (hQ : Q none (m35S S)) : gRun E mX8_init 2 16 964 [vR 8 0 0] S [(20, 0, 0), (21, 0, 0), (22, 0, 0), (23, 0, 0), (24, 0, 0), (25, 0, 0), (26, 0, 0), (27, 0, 0), (28, 0, 0), (29, 0, 0), (30, 0, 0), (31, 0, 0), (32, 0, 0), (33, 0, 0), (34, 0, 0), (35, 0, 0)] Q := by
  refine gRun_of (ls := [some (vR 8 0 0)]) rfl (Nat.le_of_ble_eq_true rfl) rfl (fun ad => ?_)
  refine g_aload_n (pc' := 1) dX8_init_0 rfl rfl ?_
  refine g_objInit (pc' := 4) oiX8 oi1 oi2 dX8_init_1 rfl (Nat.le_of_ble_eq_true rfl) (Nat.le_of_ble_eq_true rfl) ?_
  refine g_aload_n (pc' := 5) dX8_init_4 rfl rfl ?_
  refine g_iconst (pc' := 6) (v := 2) dX8_init_5 rfl rfl ?_
  refine gpX8_7 (pc' := 9) rfl dX8_init_6 rfl l8 ?_
  have f20 : ∀ q, 20 ≤ q → 20 ≤ q → q < 36 → (q, 0, 0) ∉ gL (mS0 S) := fun q _ h1 h2 => hf q h1 h2
  have a19 : lv (mS0 S) 8 0 0 := l8
  refine kX8_i20 a19 (f20 20 (by decide) (by decide) (by decide)) ?_
  have a20 : lv (m20S S) 8 0 0 := m_up a19 (m20L S)
  have f21 := m_fs f20 (m20L S) rfl
  refine kX8_p21 a20 ?_
  have a20 : lv (m20T S) 8 0 0 := by rw [lv, m20TL]; exact a20
  have f21 : ∀ q, 21 ≤ q → 20 ≤ q → q < 36 → (q, 0, 0) ∉ gL (m20T S) := by rw [m20TL]; exact f21
  refine kX8_i21 a20 (f21 21 (by decide) (by decide) (by decide)) ?_
  have a21 : lv (m21S S) 8 0 0 := m_up a20 (m21L S)
  have f22 := m_fs f21 (m21L S) rfl
  refine kX8_i22 a21 (f22 22 (by decide) (by decide) (by decide)) ?_
  have a22 : lv (m22S S) 8 0 0 := m_up a21 (m22L S)
  have f23 := m_fs f22 (m22L S) rfl
  refine kX8_i23 a22 (f23 23 (by decide) (by decide) (by decide)) ?_
  have a23 : lv (m23S S) 8 0 0 := m_up a22 (m23L S)
  have f24 := m_fs f23 (m23L S) rfl
  refine kX8_i24 a23 (f24 24 (by decide) (by decide) (by decide)) ?_
  have a24 : lv (m24S S) 8 0 0 := m_up a23 (m24L S)
  have f25 := m_fs f24 (m24L S) rfl
  refine kX8_i25 a24 (f25 25 (by decide) (by decide) (by decide)) ?_
  have a25 : lv (m25S S) 8 0 0 := m_up a24 (m25L S)
  have f26 := m_fs f25 (m25L S) rfl
  refine kX8_i26 a25 (f26 26 (by decide) (by decide) (by decide)) ?_
  have a26 : lv (m26S S) 8 0 0 := m_up a25 (m26L S)
  have f27 := m_fs f26 (m26L S) rfl
  refine kX8_i27 a26 (f27 27 (by decide) (by decide) (by decide)) ?_
  have a27 : lv (m27S S) 8 0 0 := m_up a26 (m27L S)
  have f28 := m_fs f27 (m27L S) rfl
  refine kX8_i28 a27 (f28 28 (by decide) (by decide) (by decide)) ?_
  have a28 : lv (m28S S) 8 0 0 := m_up a27 (m28L S)
  have f29 := m_fs f28 (m28L S) rfl
  refine kX8_i29 a28 (f29 29 (by decide) (by decide) (by decide)) ?_
  have a29 : lv (m29S S) 8 0 0 := m_up a28 (m29L S)
  have f30 := m_fs f29 (m29L S) rfl
  refine kX8_i30 a29 (f30 30 (by decide) (by decide) (by decide)) ?_
  have a30 : lv (m30S S) 8 0 0 := m_up a29 (m30L S)
  have f31 := m_fs f30 (m30L S) rfl
  refine kX8_i31 a30 (f31 31 (by decide) (by decide) (by decide)) ?_
  have a31 : lv (m31S S) 8 0 0 := m_up a30 (m31L S)
  have f32 := m_fs f31 (m31L S) rfl
  refine kX8_i32 a31 (f32 32 (by decide) (by decide) (by decide)) ?_
  have a32 : lv (m32S S) 8 0 0 := m_up a31 (m32L S)
  have f33 := m_fs f32 (m32L S) rfl
  refine kX8_i33 a32 (f33 33 (by decide) (by decide) (by decide)) ?_
  have a33 : lv (m33S S) 8 0 0 := m_up a32 (m33L S)
  have f34 := m_fs f33 (m33L S) rfl
  refine kX8_i34 a33 (f34 34 (by decide) (by decide) (by decide)) ?_
  have a34 : lv (m34S S) 8 0 0 := m_up a33 (m34L S)
  have f35 := m_fs f34 (m34L S) rfl
  refine kX8_i35 a34 (f35 35 (by decide) (by decide) (by decide)) ?_
  have a35 : lv (m35S S) 8 0 0 := m_up a34 (m35L S)
  refine g_vret dX8_init_144 rfl (Nat.le_of_ble_eq_true rfl) (Nat.le_of_ble_eq_true rfl) ?_
  exact hQ

