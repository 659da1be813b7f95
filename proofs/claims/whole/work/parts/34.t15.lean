/-! THE CLASS (15): what is made anew -/
def tTx0 (S : gS) : gS := sfI (sfR (snew S 10 0 0) 192 0 0 (some (10, 0, 0))) 193 0 0 0
def tLg0 (S : gS) : gS := sfI (sfR (snew S 13 0 0) 96 0 0 (some (13, 0, 0))) 97 0 0 0
def tDy0 (S : gS) : gS := sfI (sfI (sfI (sfI S 0 0 0 0) 1 0 0 2000) 2 0 0 1) 3 0 0 1
def tRd1 (S : gS) : gS := sfR (tTx0 (snew S 6 0 0)) 128 0 0 (some (6, 0, 0))
def tRd0 (S : gS) : gS := sfI (sfI (sfI (sfI (sfR (snew (tRd1 S) 11 0 0) 129 0 0 (some (11, 0, 0))) 130 0 0 0) 131 0 0 0) 132 0 0 0) 133 0 0 (-1)
def tEx0 (S : gS) (j : Nat) (b : Int32) : gS := sfI (sfR (scl (snew S 1 j 0) 11 0 12 j) 32 j 0 (some (12, j, 0))) 33 j 0 b
def tJb0 (S : gS) (j : Nat) (rank : Int32) : gS := sfR (sfI (sfI (sfI (sfI (sfI (sfR (snew S 15 j 0) 66 j 0 (some (15, j, 0))) 67 j 0 0) 68 j 0 0) 69 j 0 0) 70 j 0 0) 64 j 0 rank) 65 j 0 (some (1, j, 0))
def tDk1 (S : gS) : gS := sfR (tRd0 (snew S 4 0 0)) 224 0 0 (some (4, 0, 0))
def tDk2 (S : gS) : gS := sfR (tDy0 (snew S 0 0 0)) 225 0 0 (some (0, 0, 0))
def tDk3 (S : gS) : gS := sfR (tLg0 (snew S 3 0 0)) 226 0 0 (some (3, 0, 0))
def tDk4 (S : gS) : gS := sfI (sfI (sfI (sfI (sfI (sfI (sfR (snew S 14 0 0) 227 0 0 (some (14, 0, 0))) 228 0 0 0) 229 0 0 (-1)) 230 0 0 2) 231 0 0 0) 232 0 0 0) 233 0 0 0
def tDk0 (S : gS) : gS := tDk4 (tDk3 (tDk2 (tDk1 S)))
theorem lv_new {S : gS} {k j t : Nat} : lv (snew S k j t) k j t := List.mem_append_right _ (List.mem_singleton.mpr rfl)
theorem lv_up {S S' : gS} {l : List gId} {k j t : Nat} (h : lv S k j t) (e : gL S' = gL S ++ l) : lv S' k j t := by
  rw [lv, e]
  exact List.mem_append_left _ h
theorem tTx0_L (S : gS) : gL (tTx0 S) = gL S ++ [(10, 0, 0)] := rfl
theorem tRd0_L (S : gS) : gL (tRd0 S) = gL S ++ [(6, 0, 0), (10, 0, 0), (11, 0, 0)] := by
  show ((gL S ++ [(6, 0, 0)]) ++ [(10, 0, 0)]) ++ [(11, 0, 0)] = _
  simp
theorem gI {E : gE} {M : gM} {d mc ms : Nat} {as : List gV} {S : gS} {Nw : List gId} {Q : Option gV → gS → Prop} (h : gRun E M d mc ms as S Nw Q) : gRun E M d mc ms as S Nw Q := h
set_option maxRecDepth 100000 in
set_option maxHeartbeats 2000000 in
theorem kX4_expression {E : gE} {S : gS} {j : Nat} {Q : Option gV → gS → Prop} (l4 : lv S 4 0 0) (l11 : lv S 11 0 0) (r129 : fR S 129 0 0 = some (11, 0, 0)) (hf1 : (1, j, 0) ∉ gL S) (hf12 : (12, j, 0) ∉ gL S) (hQ : Q (some (vR 1 j 0)) (tEx0 S j (bI (decide (¬ fI S 130 0 0 = 0 ∨ ¬ fI S 131 0 0 = 0))))) : gRun E mX4_expression 3 2 7 [vR 4 0 0] S [(1, j, 0), (12, j, 0)] Q := by
  refine gRun_of (ls := [some (vR 4 0 0)]) rfl (Nat.le_of_ble_eq_true rfl) rfl (fun ad => ?_)
  have hb1 : (¬ fI (snew S 1 j 0) 130 0 0 = 0 ∨ ¬ fI (snew S 1 j 0) 131 0 0 = 0) → Q (some (vR 1 j 0)) (tEx0 S j 1) := fun h => by
    have h2 : ¬ fI S 130 0 0 = 0 ∨ ¬ fI S 131 0 0 = 0 := h
    rw [bd_t h2] at hQ; exact hQ
  have hb0 : fI (snew S 1 j 0) 130 0 0 = 0 → fI (snew S 1 j 0) 131 0 0 = 0 → Q (some (vR 1 j 0)) (tEx0 S j 0) := fun h h1 => by
    have h2 : ¬ (¬ fI S 130 0 0 = 0 ∨ ¬ fI S 131 0 0 = 0) := fun z => by
      rcases z with z | z
      · exact z h
      · exact z h1
    rw [bd_f h2] at hQ; exact hQ
  have M27 : ∀ (b : Int32) (hb : b = 0 ∨ b = 1) (hQb : Q (some (vR 1 j 0)) (tEx0 S j b)), gG E mX4_expression (gBof 3 2 7 ad [(1, j, 0), (12, j, 0)] Q) 27 [some (vR 4 0 0)] [vI b, vR 11 0 0, vR 1 j 0, vR 1 j 0] (snew S 1 j 0) 1 2 := by
    intro b hb hQb
    refine g_callI (as := [vR 11 0 0, vI b]) (q := (1, j, 0)) (mc := 1) (ms := 5) (Nw := [(12, j, 0)]) (pc' := 30) cwX4_42 dX4_expression_27 rfl rfl rfl (Nat.le_of_ble_eq_true rfl) (Nat.le_of_ble_eq_true rfl) (Nat.le_of_ble_eq_true rfl) (by simp [gNo]) (by simp [gNo]) (by simp [bN, gBof]) (Nat.le_of_ble_eq_true rfl) (Nat.le_of_ble_eq_true rfl) (kX1_init (List.mem_append_right _ (List.mem_singleton.mpr rfl)) (List.mem_append_left _ l11) (by show ¬ (12, j, 0) ∈ gL S ++ [(1, j, 0)]; intro z; rcases List.mem_append.mp z with z | z; exact hf12 z; cases List.mem_singleton.mp z) hb ?_)
    refine g_aret dX4_expression_30 rfl (Nat.le_of_ble_eq_true rfl) (Nat.le_of_ble_eq_true rfl) ?_
    exact hQb
  refine g_new (pc' := 3) (k := 1) (j := j) (t := 0) cf1 clX4_40 ia1 inX1 dX4_expression_0 rfl hf1 (by simp [bN, gBof]) (by simp [gNo]) (by simp [gNo]) (Nat.le_of_ble_eq_true rfl) (Nat.le_of_ble_eq_true rfl) ?_
  have l4 : lv (snew S 1 j 0) 4 0 0 := List.mem_append_left _ l4
  refine g_dup (pc' := 4) dX4_expression_3 rfl rfl ?_
  refine g_aload_n (pc' := 5) dX4_expression_4 rfl rfl ?_
  refine ggX4_18 (pc' := 8) rfl dX4_expression_5 rfl l4 r129 ?_
  refine g_aload_n (pc' := 9) dX4_expression_8 rfl rfl ?_
  refine ggX4_22 (pc' := 12) rfl dX4_expression_9 rfl l4 ?_
  refine g_if_ne dX4_expression_12 (tg := 22) (pc' := 15) (by decide) rfl (fun h12 => ?_) (fun h12 => ?_)
  · refine g_iconst (pc' := 23) (v := 1) dX4_expression_22 rfl rfl ?_
    refine g_goto dX4_expression_23 (pc' := 27) (by decide) ?_
    exact M27 1 (Or.inr rfl) (hb1 (Or.inl h12))
  · refine g_aload_n (pc' := 16) dX4_expression_15 rfl rfl ?_
    refine ggX4_26 (pc' := 19) rfl dX4_expression_16 rfl l4 ?_
    refine g_if_eq dX4_expression_19 (tg := 26) (pc' := 22) (by decide) rfl (fun h19 => ?_) (fun h19 => ?_)
    · refine g_iconst (pc' := 27) (v := 0) dX4_expression_26 rfl rfl ?_
      exact M27 0 (Or.inl rfl) (hb0 h12 h19)
    · refine g_iconst (pc' := 23) (v := 1) dX4_expression_22 rfl rfl ?_
      refine g_goto dX4_expression_23 (pc' := 27) (by decide) ?_
      exact M27 1 (Or.inr rfl) (hb1 (Or.inr h19))

set_option maxRecDepth 100000 in
set_option maxHeartbeats 2000000 in
theorem kX4_init {E : gE} {S : gS} {Q : Option gV → gS → Prop} (l4 : lv S 4 0 0) (hf6 : (6, 0, 0) ∉ gL S) (hf10 : (10, 0, 0) ∉ gL S) (hf11 : (11, 0, 0) ∉ gL S) (hQ : Q none (tRd0 S)) : gRun E mX4_init 3 3 67 [vR 4 0 0] S [(6, 0, 0), (10, 0, 0), (11, 0, 0)] Q := by
  refine gRun_of (ls := [some (vR 4 0 0)]) rfl (Nat.le_of_ble_eq_true rfl) rfl (fun ad => ?_)
  refine g_aload_n (pc' := 1) dX4_init_0 rfl rfl ?_
  refine g_objInit (pc' := 4) oiX4 oi1 oi2 dX4_init_1 rfl (Nat.le_of_ble_eq_true rfl) (Nat.le_of_ble_eq_true rfl) ?_
  refine g_aload_n (pc' := 5) dX4_init_4 rfl rfl ?_
  refine g_new (pc' := 8) (k := 6) (j := 0) (t := 0) cf6 clX4_9 ia6 inX6 dX4_init_5 rfl hf6 (by simp [bN, gBof]) (by simp [gNo]) (by simp [gNo]) (Nat.le_of_ble_eq_true rfl) (Nat.le_of_ble_eq_true rfl) ?_
  have l4 : lv (snew S 6 0 0) 4 0 0 := List.mem_append_left _ l4
  refine g_dup (pc' := 9) dX4_init_8 rfl rfl ?_
  refine g_callI (as := []) (q := (6, 0, 0)) (mc := 1) (ms := 60) (Nw := [(10, 0, 0)]) (pc' := 12) cwX4_11 dX4_init_9 rfl rfl rfl (Nat.le_of_ble_eq_true rfl) (Nat.le_of_ble_eq_true rfl) (Nat.le_of_ble_eq_true rfl) (by simp [gNo]) (by simp [gNo]) (by simp [bN, gBof]) (Nat.le_of_ble_eq_true rfl) (Nat.le_of_ble_eq_true rfl) (kX6_init lv_new (by show ¬ (10, 0, 0) ∈ gL S ++ [(6, 0, 0)]; intro z; rcases List.mem_append.mp z with z | z; exact hf10 z; exact absurd (congrArg Prod.fst (List.mem_singleton.mp z)) (by decide)) ?_)
  have l4 : lv (tTx0 (snew S 6 0 0)) 4 0 0 := List.mem_append_left _ l4
  refine gpX4_12 (pc' := 15) rfl rfl dX4_init_12 rfl l4 (by show (6, 0, 0) ∈ (gL S ++ [(6, 0, 0)]) ++ [(10, 0, 0)]; simp) ?_
  refine g_aload_n (pc' := 16) dX4_init_15 rfl rfl ?_
  refine g_iconst (pc' := 17) (v := 5) dX4_init_16 rfl rfl ?_
  refine g_newaJ (pc' := 19) (k := 11) (j := 0) ac_long dX4_init_17 rfl (by decide) rfl (by decide) rfl (by decide) (by show ¬ (11, 0, 0) ∈ (gL S ++ [(6, 0, 0)]) ++ [(10, 0, 0)]; simp only [List.mem_append, List.mem_singleton, Prod.mk.injEq]; rintro ((z | z) | z); exact hf11 z; exact absurd z.1 (by decide); exact absurd z.1 (by decide)) (by simp [bN, gBof]) (by simp [gNo]) (by simp [gNo]) (Nat.le_of_ble_eq_true rfl) (Nat.le_of_ble_eq_true rfl) ?_
  have l4 : lv (snew (tRd1 S) 11 0 0) 4 0 0 := List.mem_append_left _ l4
  refine gpX4_18 (pc' := 22) rfl rfl dX4_init_19 rfl l4 lv_new ?_
  refine g_aload_n (pc' := 23) dX4_init_22 rfl rfl ?_
  refine g_iconst (pc' := 24) (v := 0) dX4_init_23 rfl rfl ?_
  refine gpX4_22 (pc' := 27) rfl dX4_init_24 rfl l4 (Or.inl rfl) ?_
  refine g_aload_n (pc' := 28) dX4_init_27 rfl rfl ?_
  refine g_iconst (pc' := 29) (v := 0) dX4_init_28 rfl rfl ?_
  refine gpX4_26 (pc' := 32) rfl dX4_init_29 rfl l4 (Or.inl rfl) ?_
  refine g_aload_n (pc' := 33) dX4_init_32 rfl rfl ?_
  refine g_iconst (pc' := 34) (v := 0) dX4_init_33 rfl rfl ?_
  refine gpX4_29 (pc' := 37) rfl dX4_init_34 rfl l4 ?_
  refine g_aload_n (pc' := 38) dX4_init_37 rfl rfl ?_
  refine g_iconst (pc' := 39) (v := (-1)) dX4_init_38 rfl rfl ?_
  refine gpX4_33 (pc' := 42) rfl dX4_init_39 rfl l4 ?_
  refine g_vret dX4_init_42 rfl (Nat.le_of_ble_eq_true rfl) (Nat.le_of_ble_eq_true rfl) ?_
  exact hQ

set_option maxRecDepth 100000 in
set_option maxHeartbeats 2000000 in
theorem kX2_init {E : gE} {S : gS} {j : Nat} {rank : Int32} {Q : Option gV → gS → Prop} (l2 : lv S 2 j 0) (l1 : lv S 1 j 0) (hf15 : (15, j, 0) ∉ gL S) (hQ : Q none (tJb0 S j rank)) : gRun E mX2_init 2 1 6 [vR 2 j 0, vI rank, vR 1 j 0] S [(15, j, 0)] Q := by
  refine gRun_of (ls := [some (vR 2 j 0), some (vI rank), some (vR 1 j 0)]) rfl (Nat.le_of_ble_eq_true rfl) rfl (fun ad => ?_)
  refine g_aload_n (pc' := 1) dX2_init_0 rfl rfl ?_
  refine g_objInit (pc' := 4) oiX2 oi1 oi2 dX2_init_1 rfl (Nat.le_of_ble_eq_true rfl) (Nat.le_of_ble_eq_true rfl) ?_
  refine g_aload_n (pc' := 5) dX2_init_4 rfl rfl ?_
  refine g_bipush (pc' := 7) (v := 6) dX2_init_5 rfl rfl ?_
  refine g_anewTask (pc' := 10) (k := 15) (j := j) clX2_9 dX2_init_7 rfl (by decide) rfl (by decide) rfl (by decide) hf15 (by simp [bN, gBof]) (by simp [gNo]) (by simp [gNo]) (Nat.le_of_ble_eq_true rfl) (Nat.le_of_ble_eq_true rfl) ?_
  have l2 : lv (snew S 15 j 0) 2 j 0 := List.mem_append_left _ l2
  refine gpX2_11 (pc' := 13) rfl rfl dX2_init_10 rfl l2 lv_new ?_
  refine g_aload_n (pc' := 14) dX2_init_13 rfl rfl ?_
  refine g_iconst (pc' := 15) (v := 0) dX2_init_14 rfl rfl ?_
  refine gpX2_17 (pc' := 18) rfl dX2_init_15 rfl l2 ?_
  refine g_aload_n (pc' := 19) dX2_init_18 rfl rfl ?_
  refine g_iconst (pc' := 20) (v := 0) dX2_init_19 rfl rfl ?_
  refine gpX2_21 (pc' := 23) rfl dX2_init_20 rfl l2 (Or.inl rfl) ?_
  refine g_aload_n (pc' := 24) dX2_init_23 rfl rfl ?_
  refine g_iconst (pc' := 25) (v := 0) dX2_init_24 rfl rfl ?_
  refine gpX2_25 (pc' := 28) rfl dX2_init_25 rfl l2 ?_
  refine g_aload_n (pc' := 29) dX2_init_28 rfl rfl ?_
  refine g_iconst (pc' := 30) (v := 0) dX2_init_29 rfl rfl ?_
  refine gpX2_28 (pc' := 33) rfl dX2_init_30 rfl l2 ?_
  refine g_aload_n (pc' := 34) dX2_init_33 rfl rfl ?_
  refine g_iload_n (pc' := 35) dX2_init_34 rfl rfl ?_
  refine gpX2_31 (pc' := 38) rfl rfl dX2_init_35 rfl l2 ?_
  refine g_aload_n (pc' := 39) dX2_init_38 rfl rfl ?_
  refine g_aload_n (pc' := 40) dX2_init_39 rfl rfl ?_
  refine gpX2_34 (pc' := 43) rfl rfl dX2_init_40 rfl l2 (List.mem_append_left _ l1) ?_
  refine g_vret dX2_init_43 rfl (Nat.le_of_ble_eq_true rfl) (Nat.le_of_ble_eq_true rfl) ?_
  exact hQ

theorem tDk1_L (S : gS) : gL (tDk1 S) = gL S ++ [(4, 0, 0), (6, 0, 0), (10, 0, 0), (11, 0, 0)] := by
  show gL (tRd0 (snew S 4 0 0)) = _
  rw [tRd0_L]
  show (gL S ++ [(4, 0, 0)]) ++ _ = _
  simp
theorem tDk2_L (S : gS) : gL (tDk2 S) = gL S ++ [(0, 0, 0)] := rfl
theorem tDk3_L (S : gS) : gL (tDk3 S) = gL S ++ [(3, 0, 0), (13, 0, 0)] := by
  show (gL S ++ [(3, 0, 0)]) ++ [(13, 0, 0)] = _
  simp
theorem tDk4_L (S : gS) : gL (tDk4 S) = gL S ++ [(14, 0, 0)] := rfl
theorem gfr {q : gId} {l m : List gId} (h : q ∉ l) (h2 : q ∉ m) : q ∉ l ++ m := fun z => by
  rcases List.mem_append.mp z with z | z
  · exact h z
  · exact h2 z
set_option maxRecDepth 100000 in
set_option maxHeartbeats 2000000 in
theorem kX7_i40 {E : gE} {S : gS} {ad : gAd} {Q : Option gV → gS → Prop} (l7 : lv S 7 0 0) (h14 : (14, 0, 0) ∉ gL S) (hQ : Q none (tDk4 S)) : gG E mX7_init (gBof 4 8 341 ad [(4, 0, 0), (6, 0, 0), (10, 0, 0), (11, 0, 0), (0, 0, 0), (3, 0, 0), (13, 0, 0), (14, 0, 0)] Q) 37 [some (vR 7 0 0)] [] S 7 335 := by
  refine g_aload_n (pc' := 38) dX7_init_37 rfl rfl ?_
  refine g_bipush (pc' := 40) (v := 6) dX7_init_38 rfl rfl ?_
  refine g_anewJob (pc' := 43) (k := 14) (j := 0) clX7_30 dX7_init_40 rfl (by decide) rfl (by decide) rfl (by decide) h14 (by simp [bN, gBof]) (by simp [gNo]) (by simp [gNo]) (Nat.le_of_ble_eq_true rfl) (Nat.le_of_ble_eq_true rfl) ?_
  have l7 : lv (snew S 14 0 0) 7 0 0 := List.mem_append_left _ l7
  refine gpX7_32 (pc' := 46) rfl rfl dX7_init_43 rfl l7 lv_new ?_
  refine g_aload_n (pc' := 47) dX7_init_46 rfl rfl ?_
  refine g_iconst (pc' := 48) (v := 0) dX7_init_47 rfl rfl ?_
  refine gpX7_36 (pc' := 51) rfl dX7_init_48 rfl l7 ?_
  refine g_aload_n (pc' := 52) dX7_init_51 rfl rfl ?_
  refine g_iconst (pc' := 53) (v := (-1)) dX7_init_52 rfl rfl ?_
  refine gpX7_40 (pc' := 56) rfl dX7_init_53 rfl l7 ?_
  refine g_aload_n (pc' := 57) dX7_init_56 rfl rfl ?_
  refine g_iconst (pc' := 58) (v := 2) dX7_init_57 rfl rfl ?_
  refine gpX7_43 (pc' := 61) rfl dX7_init_58 rfl l7 ?_
  refine g_aload_n (pc' := 62) dX7_init_61 rfl rfl ?_
  refine g_iconst (pc' := 63) (v := 0) dX7_init_62 rfl rfl ?_
  refine gpX7_46 (pc' := 66) rfl dX7_init_63 rfl l7 ?_
  refine g_aload_n (pc' := 67) dX7_init_66 rfl rfl ?_
  refine g_iconst (pc' := 68) (v := 0) dX7_init_67 rfl rfl ?_
  refine gpX7_49 (pc' := 71) rfl dX7_init_68 rfl l7 (Or.inl rfl) ?_
  refine g_aload_n (pc' := 72) dX7_init_71 rfl rfl ?_
  refine g_iconst (pc' := 73) (v := 0) dX7_init_72 rfl rfl ?_
  refine gpX7_53 (pc' := 76) rfl dX7_init_73 rfl l7 ?_
  refine g_vret dX7_init_76 rfl (Nat.le_of_ble_eq_true rfl) (Nat.le_of_ble_eq_true rfl) ?_
  exact hQ

set_option maxRecDepth 100000 in
set_option maxHeartbeats 2000000 in
theorem kX7_i27 {E : gE} {S : gS} {ad : gAd} {Q : Option gV → gS → Prop} (l7 : lv S 7 0 0) (h3 : (3, 0, 0) ∉ gL S) (h13 : (13, 0, 0) ∉ gL S) (K : gG E mX7_init (gBof 4 8 341 ad [(4, 0, 0), (6, 0, 0), (10, 0, 0), (11, 0, 0), (0, 0, 0), (3, 0, 0), (13, 0, 0), (14, 0, 0)] Q) 37 [some (vR 7 0 0)] [] (tDk3 S) 7 335) : gG E mX7_init (gBof 4 8 341 ad [(4, 0, 0), (6, 0, 0), (10, 0, 0), (11, 0, 0), (0, 0, 0), (3, 0, 0), (13, 0, 0), (14, 0, 0)] Q) 26 [some (vR 7 0 0)] [] S 5 77 := by
  refine g_aload_n (pc' := 27) dX7_init_26 rfl rfl ?_
  refine g_new (pc' := 30) (k := 3) (j := 0) (t := 0) cf3 clX7_23 ia3 inX3 dX7_init_27 rfl h3 (by simp [bN, gBof]) (by simp [gNo]) (by simp [gNo]) (Nat.le_of_ble_eq_true rfl) (Nat.le_of_ble_eq_true rfl) ?_
  have l7 : lv (snew S 3 0 0) 7 0 0 := List.mem_append_left _ l7
  refine g_dup (pc' := 31) dX7_init_30 rfl rfl ?_
  refine g_callI (as := []) (q := (3, 0, 0)) (mc := 1) (ms := 256) (Nw := [(13, 0, 0)]) (pc' := 34) cwX7_25 dX7_init_31 rfl rfl rfl (Nat.le_of_ble_eq_true rfl) (Nat.le_of_ble_eq_true rfl) (Nat.le_of_ble_eq_true rfl) (by simp [gNo]) (by simp [gNo]) (by simp [bN, gBof]) (Nat.le_of_ble_eq_true rfl) (Nat.le_of_ble_eq_true rfl) (kX3_init lv_new (by exact gfr h13 (by decide)) ?_)
  have l7 : lv (tLg0 (snew S 3 0 0)) 7 0 0 := lv_up l7 (l := [(13, 0, 0)]) rfl
  refine gpX7_26 (pc' := 37) rfl rfl dX7_init_34 rfl l7 (by show (3, 0, 0) ∈ (gL S ++ [(3, 0, 0)]) ++ [(13, 0, 0)]; simp) ?_
  exact K

set_option maxRecDepth 100000 in
set_option maxHeartbeats 2000000 in
theorem kX7_i16 {E : gE} {S : gS} {ad : gAd} {Q : Option gV → gS → Prop} (l7 : lv S 7 0 0) (h0 : (0, 0, 0) ∉ gL S) (K : gG E mX7_init (gBof 4 8 341 ad [(4, 0, 0), (6, 0, 0), (10, 0, 0), (11, 0, 0), (0, 0, 0), (3, 0, 0), (13, 0, 0), (14, 0, 0)] Q) 26 [some (vR 7 0 0)] [] (tDk2 S) 5 77) : gG E mX7_init (gBof 4 8 341 ad [(4, 0, 0), (6, 0, 0), (10, 0, 0), (11, 0, 0), (0, 0, 0), (3, 0, 0), (13, 0, 0), (14, 0, 0)] Q) 15 [some (vR 7 0 0)] [] S 4 73 := by
  refine g_aload_n (pc' := 16) dX7_init_15 rfl rfl ?_
  refine g_new (pc' := 19) (k := 0) (j := 0) (t := 0) cf0 clX7_16 ia0 inX0 dX7_init_16 rfl h0 (by simp [bN, gBof]) (by simp [gNo]) (by simp [gNo]) (Nat.le_of_ble_eq_true rfl) (Nat.le_of_ble_eq_true rfl) ?_
  have l7 : lv (snew S 0 0 0) 7 0 0 := List.mem_append_left _ l7
  refine g_dup (pc' := 20) dX7_init_19 rfl rfl ?_
  refine g_callI (as := []) (q := (0, 0, 0)) (mc := 0) (ms := 0) (Nw := []) (pc' := 23) cwX7_18 dX7_init_20 rfl rfl rfl (Nat.le_of_ble_eq_true rfl) (Nat.le_of_ble_eq_true rfl) (Nat.le_of_ble_eq_true rfl) (by simp [gNo]) (by simp [gNo]) (by simp) (Nat.le_of_ble_eq_true rfl) (Nat.le_of_ble_eq_true rfl) (kX0_init lv_new ?_)
  have l7 : lv (tDy0 (snew S 0 0 0)) 7 0 0 := l7
  refine gpX7_19 (pc' := 26) rfl rfl dX7_init_23 rfl l7 lv_new ?_
  exact K

set_option maxRecDepth 100000 in
set_option maxHeartbeats 2000000 in
theorem kX7_i5 {E : gE} {S : gS} {ad : gAd} {Q : Option gV → gS → Prop} (l7 : lv S 7 0 0) (h4 : (4, 0, 0) ∉ gL S) (h6 : (6, 0, 0) ∉ gL S) (h10 : (10, 0, 0) ∉ gL S) (h11 : (11, 0, 0) ∉ gL S) (K : gG E mX7_init (gBof 4 8 341 ad [(4, 0, 0), (6, 0, 0), (10, 0, 0), (11, 0, 0), (0, 0, 0), (3, 0, 0), (13, 0, 0), (14, 0, 0)] Q) 15 [some (vR 7 0 0)] [] (tDk1 S) 4 73) : gG E mX7_init (gBof 4 8 341 ad [(4, 0, 0), (6, 0, 0), (10, 0, 0), (11, 0, 0), (0, 0, 0), (3, 0, 0), (13, 0, 0), (14, 0, 0)] Q) 4 [some (vR 7 0 0)] [] S 0 0 := by
  refine g_aload_n (pc' := 5) dX7_init_4 rfl rfl ?_
  refine g_new (pc' := 8) (k := 4) (j := 0) (t := 0) cf4 clX7_7 ia4 inX4 dX7_init_5 rfl h4 (by simp [bN, gBof]) (by simp [gNo]) (by simp [gNo]) (Nat.le_of_ble_eq_true rfl) (Nat.le_of_ble_eq_true rfl) ?_
  have l7 : lv (snew S 4 0 0) 7 0 0 := List.mem_append_left _ l7
  refine g_dup (pc' := 9) dX7_init_8 rfl rfl ?_
  refine g_callI (as := []) (q := (4, 0, 0)) (mc := 3) (ms := 67) (Nw := [(6, 0, 0), (10, 0, 0), (11, 0, 0)]) (pc' := 12) cwX7_9 dX7_init_9 rfl rfl rfl (Nat.le_of_ble_eq_true rfl) (Nat.le_of_ble_eq_true rfl) (Nat.le_of_ble_eq_true rfl) (by simp [gNo]) (by simp [gNo]) (by simp [bN, gBof]) (Nat.le_of_ble_eq_true rfl) (Nat.le_of_ble_eq_true rfl) (kX4_init lv_new (gfr h6 (by decide)) (gfr h10 (by decide)) (gfr h11 (by decide)) ?_)
  have l7 : lv (tRd0 (snew S 4 0 0)) 7 0 0 := lv_up l7 (tRd0_L _)
  refine gpX7_10 (pc' := 15) rfl rfl dX7_init_12 rfl l7 (by rw [tRd0_L]; exact List.mem_append_left _ lv_new) ?_
  exact K

set_option maxRecDepth 100000 in
set_option maxHeartbeats 2000000 in
theorem kX7_init {E : gE} {S : gS} {Q : Option gV → gS → Prop} (l7 : lv S 7 0 0) (h4 : (4, 0, 0) ∉ gL S) (h6 : (6, 0, 0) ∉ gL S) (h10 : (10, 0, 0) ∉ gL S) (h11 : (11, 0, 0) ∉ gL S) (h0 : (0, 0, 0) ∉ gL S) (h3 : (3, 0, 0) ∉ gL S) (h13 : (13, 0, 0) ∉ gL S) (h14 : (14, 0, 0) ∉ gL S) (hQ : Q none (tDk0 S)) : gRun E mX7_init 4 8 341 [vR 7 0 0] S [(4, 0, 0), (6, 0, 0), (10, 0, 0), (11, 0, 0), (0, 0, 0), (3, 0, 0), (13, 0, 0), (14, 0, 0)] Q := by
  refine gRun_of (ls := [some (vR 7 0 0)]) rfl (Nat.le_of_ble_eq_true rfl) rfl (fun ad => ?_)
  refine g_aload_n (pc' := 1) dX7_init_0 rfl rfl ?_
  refine g_objInit (pc' := 4) oiX7 oi1 oi2 dX7_init_1 rfl (Nat.le_of_ble_eq_true rfl) (Nat.le_of_ble_eq_true rfl) ?_
  refine kX7_i5 l7 h4 h6 h10 h11 ?_
  have a1 : lv (tDk1 S) 7 0 0 := lv_up l7 (tDk1_L S)
  refine kX7_i16 a1 (by rw [tDk1_L]; exact gfr h0 (by decide)) ?_
  have a2 : lv (tDk2 (tDk1 S)) 7 0 0 := lv_up a1 (tDk2_L _)
  refine kX7_i27 a2 (by rw [tDk2_L, tDk1_L]; exact gfr (gfr h3 (by decide)) (by decide)) (by rw [tDk2_L, tDk1_L]; exact gfr (gfr h13 (by decide)) (by decide)) ?_
  have a3 : lv (tDk3 (tDk2 (tDk1 S))) 7 0 0 := lv_up a2 (tDk3_L _)
  exact kX7_i40 a3 (by rw [tDk3_L, tDk2_L, tDk1_L]; exact gfr (gfr (gfr h14 (by decide)) (by decide)) (by decide)) hQ

