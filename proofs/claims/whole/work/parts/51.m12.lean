/-! THE MODEL (12): its throwing methods but job and task -/
def aM0 (tb : List Nat) (r : Option gV) (code : Int32) : Prop := (r = none ∧ code = 0) ∨ ∃ n i, r = thr n ∧ i < 3 ∧ tb[i]? = some n ∧ code = nI (i + 1)
theorem aM_w {tb : List Nat} {x y : Int32} (h : y = x) : aM tb (some (vI x)) 0 y := Or.inl ⟨x, rfl, rfl, h⟩
theorem i4 {p : Int32} : ¬ (3 : Int32) < p → p < 4 := fun h => by
  rw [Int32.lt_iff_toInt_lt] at *
  have e1 : (3 : Int32).toInt = 3 := rfl
  have e2 : (4 : Int32).toInt = 4 := rfl
  omega
theorem i64 {p : Int32} : ¬ (63 : Int32) < p → p < 64 := fun h => by
  rw [Int32.lt_iff_toInt_lt] at *
  have e1 : (63 : Int32).toInt = 63 := rfl
  have e2 : (64 : Int32).toInt = 64 := rfl
  omega
set_option maxRecDepth 100000 in
set_option maxHeartbeats 2000000 in
theorem kX8_entry {E : gE} {S : gS} {C C1 : gS} {r : Option gV} {b p : Int32} {Q : Option gV → gS → Prop} (hM : ModS S) (hR : Rel C S) (ho : (¬ ((0 ≤ b ∧ b < 64 ∧ b < fI C 97 0 0) ∧ 0 ≤ p ∧ p < 4) ∧ r = thr 2 ∧ C1 = C) ∨ ∃ k q, k < tl C ∧ k < 64 ∧ b = nI k ∧ q < 4 ∧ p = nI q ∧ r = some (vI (aI C 13 0 ((tl C - 1 - k) % 64 * 4 + q))) ∧ C1 = C) (hb : tl C < 2 ^ 30) (hQ : ∀ T' v, Rel C1 T' → pK S T' → aM [2] r (fI T' 256 0 0) v → Q (some (vI v)) T') : gRun E mX8_entry 1 0 0 [vR 8 0 0, vI b, vI p] S [] Q := by
  refine gRun_of (ls := [some (vR 8 0 0), some (vI b), some (vI p)]) rfl (Nat.le_of_ble_eq_true rfl) rfl (fun ad => ?_)
  obtain ⟨l8, l20, l21, l22, l23, l24, l25, l26, l27, l28, l29, l30, l31, l32, l33, l34, l35, r262, r265, r266, r267, r268, r269, r270, r271, r272, r273, r274, r275, r276, r277, r278, r280⟩ := id hM
  rcases ho with ⟨h0, rfl, rfl⟩ | ⟨k, q, hk, hk64, rfl, hq, rfl, rfl, rfl⟩
  · skip
    refine g_aload_n (pc' := 1) dX8_entry_0 rfl rfl ?_
    refine g_iload_n (pc' := 2) dX8_entry_1 rfl rfl ?_
    refine g_if_lt dX8_entry_2 (tg := 28) (pc' := 5) (by decide) rfl (fun h2 => ?_) (fun h2 => ?_)
    · refine g_iconst (pc' := 29) (v := 1) dX8_entry_28 rfl rfl ?_
      refine g_goto dX8_entry_29 (pc' := 33) (by decide) ?_
      refine gpX8_66 (pc' := 36) rfl dX8_entry_33 rfl l8 ?_
      refine g_aload_n (pc' := 37) dX8_entry_36 rfl rfl ?_
      refine ggX8_66 (pc' := 40) rfl dX8_entry_37 rfl l8 ?_
      rw [fI_at]
      refine g_if_le dX8_entry_40 (tg := 47) (pc' := 43) (by decide) rfl (fun h40 => absurd h40 (by decide)) (fun h40 => ?_)
      refine g_iconst (pc' := 44) (v := 0) dX8_entry_43 rfl rfl ?_
      refine g_goto dX8_entry_44 (pc' := 67) (by decide) ?_
      refine g_iret dX8_entry_67 rfl rfl (Nat.le_of_ble_eq_true rfl) (Nat.le_of_ble_eq_true rfl) ?_
      exact hQ _ 0 hR.code (pK_sfI (by decide)) (aM_t (i := 0) (by decide) rfl)
    · refine g_iload_n (pc' := 6) dX8_entry_5 rfl rfl ?_
      refine g_bipush (pc' := 8) (v := 63) dX8_entry_6 rfl rfl ?_
      refine g_icmp_gt dX8_entry_8 (tg := 28) (pc' := 11) (by decide) rfl (fun h8 => ?_) (fun h8 => ?_)
      · refine g_iconst (pc' := 29) (v := 1) dX8_entry_28 rfl rfl ?_
        refine g_goto dX8_entry_29 (pc' := 33) (by decide) ?_
        refine gpX8_66 (pc' := 36) rfl dX8_entry_33 rfl l8 ?_
        refine g_aload_n (pc' := 37) dX8_entry_36 rfl rfl ?_
        refine ggX8_66 (pc' := 40) rfl dX8_entry_37 rfl l8 ?_
        rw [fI_at]
        refine g_if_le dX8_entry_40 (tg := 47) (pc' := 43) (by decide) rfl (fun h40 => absurd h40 (by decide)) (fun h40 => ?_)
        refine g_iconst (pc' := 44) (v := 0) dX8_entry_43 rfl rfl ?_
        refine g_goto dX8_entry_44 (pc' := 67) (by decide) ?_
        refine g_iret dX8_entry_67 rfl rfl (Nat.le_of_ble_eq_true rfl) (Nat.le_of_ble_eq_true rfl) ?_
        exact hQ _ 0 hR.code (pK_sfI (by decide)) (aM_t (i := 0) (by decide) rfl)
      · refine g_iload_n (pc' := 12) dX8_entry_11 rfl rfl ?_
        refine g_aload_n (pc' := 13) dX8_entry_12 rfl rfl ?_
        refine ggX8_170 (pc' := 16) rfl dX8_entry_13 rfl l8 ?_
        refine g_icmp_ge dX8_entry_16 (tg := 28) (pc' := 19) (by decide) rfl (fun h16 => ?_) (fun h16 => ?_)
        · refine g_iconst (pc' := 29) (v := 1) dX8_entry_28 rfl rfl ?_
          refine g_goto dX8_entry_29 (pc' := 33) (by decide) ?_
          refine gpX8_66 (pc' := 36) rfl dX8_entry_33 rfl l8 ?_
          refine g_aload_n (pc' := 37) dX8_entry_36 rfl rfl ?_
          refine ggX8_66 (pc' := 40) rfl dX8_entry_37 rfl l8 ?_
          rw [fI_at]
          refine g_if_le dX8_entry_40 (tg := 47) (pc' := 43) (by decide) rfl (fun h40 => absurd h40 (by decide)) (fun h40 => ?_)
          refine g_iconst (pc' := 44) (v := 0) dX8_entry_43 rfl rfl ?_
          refine g_goto dX8_entry_44 (pc' := 67) (by decide) ?_
          refine g_iret dX8_entry_67 rfl rfl (Nat.le_of_ble_eq_true rfl) (Nat.le_of_ble_eq_true rfl) ?_
          exact hQ _ 0 hR.code (pK_sfI (by decide)) (aM_t (i := 0) (by decide) rfl)
        · refine g_iload_n (pc' := 20) dX8_entry_19 rfl rfl ?_
          refine g_if_lt dX8_entry_20 (tg := 28) (pc' := 23) (by decide) rfl (fun h20 => ?_) (fun h20 => ?_)
          · refine g_iconst (pc' := 29) (v := 1) dX8_entry_28 rfl rfl ?_
            refine g_goto dX8_entry_29 (pc' := 33) (by decide) ?_
            refine gpX8_66 (pc' := 36) rfl dX8_entry_33 rfl l8 ?_
            refine g_aload_n (pc' := 37) dX8_entry_36 rfl rfl ?_
            refine ggX8_66 (pc' := 40) rfl dX8_entry_37 rfl l8 ?_
            rw [fI_at]
            refine g_if_le dX8_entry_40 (tg := 47) (pc' := 43) (by decide) rfl (fun h40 => absurd h40 (by decide)) (fun h40 => ?_)
            refine g_iconst (pc' := 44) (v := 0) dX8_entry_43 rfl rfl ?_
            refine g_goto dX8_entry_44 (pc' := 67) (by decide) ?_
            refine g_iret dX8_entry_67 rfl rfl (Nat.le_of_ble_eq_true rfl) (Nat.le_of_ble_eq_true rfl) ?_
            exact hQ _ 0 hR.code (pK_sfI (by decide)) (aM_t (i := 0) (by decide) rfl)
          · refine g_iload_n (pc' := 24) dX8_entry_23 rfl rfl ?_
            refine g_iconst (pc' := 25) (v := 3) dX8_entry_24 rfl rfl ?_
            refine g_icmp_le dX8_entry_25 (tg := 32) (pc' := 28) (by decide) rfl (fun h25 => ?_) (fun h25 => ?_)
            · exact absurd ⟨⟨Int32.not_lt.mp h2, i64 (fun z => Int32.not_le.mpr z (by first | exact Int32.not_lt.mp h8 | exact h8)), by rw [← hR.1.2.1.2.1]; exact Int32.not_le.mp h16⟩, Int32.not_lt.mp h20, i4 (Int32.not_lt.mpr h25)⟩ h0
            · refine g_iconst (pc' := 29) (v := 1) dX8_entry_28 rfl rfl ?_
              refine g_goto dX8_entry_29 (pc' := 33) (by decide) ?_
              refine gpX8_66 (pc' := 36) rfl dX8_entry_33 rfl l8 ?_
              refine g_aload_n (pc' := 37) dX8_entry_36 rfl rfl ?_
              refine ggX8_66 (pc' := 40) rfl dX8_entry_37 rfl l8 ?_
              rw [fI_at]
              refine g_if_le dX8_entry_40 (tg := 47) (pc' := 43) (by decide) rfl (fun h40 => absurd h40 (by decide)) (fun h40 => ?_)
              refine g_iconst (pc' := 44) (v := 0) dX8_entry_43 rfl rfl ?_
              refine g_goto dX8_entry_44 (pc' := 67) (by decide) ?_
              refine g_iret dX8_entry_67 rfl rfl (Nat.le_of_ble_eq_true rfl) (Nat.le_of_ble_eq_true rfl) ?_
              exact hQ _ 0 hR.code (pK_sfI (by decide)) (aM_t (i := 0) (by decide) rfl)
  · have hn2 : fI S 279 0 0 = nI (tl C1) := hR.1.tot
    obtain ⟨n, hn⟩ : ∃ n, n = tl C1 := ⟨_, rfl⟩
    rw [← hn] at hn2 hk hb hQ
    refine g_aload_n (pc' := 1) dX8_entry_0 rfl rfl ?_
    refine g_iload_n (pc' := 2) dX8_entry_1 rfl rfl ?_
    refine g_if_lt dX8_entry_2 (tg := 28) (pc' := 5) (by decide) rfl (fun h2 => absurd h2 (nI_pos (by omega))) (fun h2 => ?_)
    refine g_iload_n (pc' := 6) dX8_entry_5 rfl rfl ?_
    refine g_bipush (pc' := 8) (v := 63) dX8_entry_6 rfl rfl ?_
    refine g_icmp_gt dX8_entry_8 (tg := 28) (pc' := 11) (by decide) rfl (fun h8 => absurd h8 (by rw [Int32.not_lt, show (63 : Int32) = nI 63 from rfl, nI_leI (by omega) (by decide)]; omega)) (fun h8 => ?_)
    refine g_iload_n (pc' := 12) dX8_entry_11 rfl rfl ?_
    refine g_aload_n (pc' := 13) dX8_entry_12 rfl rfl ?_
    refine ggX8_170 (pc' := 16) rfl dX8_entry_13 rfl l8 ?_
    refine g_icmp_ge dX8_entry_16 (tg := 28) (pc' := 19) (by decide) rfl (fun h16 => absurd h16 (by rw [hn2, nI_leI (by omega) (by omega)]; omega)) (fun h16 => ?_)
    refine g_iload_n (pc' := 20) dX8_entry_19 rfl rfl ?_
    refine g_if_lt dX8_entry_20 (tg := 28) (pc' := 23) (by decide) rfl (fun h20 => absurd h20 (nI_pos (by omega))) (fun h20 => ?_)
    refine g_iload_n (pc' := 24) dX8_entry_23 rfl rfl ?_
    refine g_iconst (pc' := 25) (v := 3) dX8_entry_24 rfl rfl ?_
    refine g_icmp_le dX8_entry_25 (tg := 32) (pc' := 28) (by decide) rfl (fun h25 => ?_) (fun h25 => absurd (by rw [show (3 : Int32) = nI 3 from rfl, nI_leI (by omega) (by decide)]; omega) h25)
    refine g_iconst (pc' := 33) (v := 0) dX8_entry_32 rfl rfl ?_
    refine gpX8_66 (pc' := 36) rfl dX8_entry_33 rfl l8 ?_
    refine g_aload_n (pc' := 37) dX8_entry_36 rfl rfl ?_
    refine ggX8_66 (pc' := 40) rfl dX8_entry_37 rfl l8 ?_
    rw [fI_at]
    refine g_if_le dX8_entry_40 (tg := 47) (pc' := 43) (by decide) rfl (fun h40 => ?_) (fun h40 => absurd (by decide) h40)
    refine g_aload_n (pc' := 48) dX8_entry_47 rfl rfl ?_
    refine ggX8_63 (pc' := 51) rfl dX8_entry_48 rfl l8 r280 ?_
    refine g_iconst (pc' := 52) (v := 4) dX8_entry_51 rfl rfl ?_
    refine g_aload_n (pc' := 53) dX8_entry_52 rfl rfl ?_
    refine ggX8_170 (pc' := 56) rfl dX8_entry_53 rfl l8 ?_
    rw [show fI (sfI S 256 0 0 0) 279 0 0 = nI n from hn2]
    refine g_iconst (pc' := 57) (v := 1) dX8_entry_56 rfl rfl ?_
    refine g_isub (pc' := 58) dX8_entry_57 rfl ?_
    rw [nI_m1 (by omega)]
    refine g_iload_n (pc' := 59) dX8_entry_58 rfl rfl ?_
    refine g_isub (pc' := 60) dX8_entry_59 rfl ?_
    rw [pk_sub (by omega)]
    refine g_bipush (pc' := 62) (v := 64) dX8_entry_60 rfl rfl ?_
    refine g_irem (pc' := 63) dX8_entry_62 rfl (by decide) ?_
    rw [show (64 : Int32) = nI 64 from rfl, nI_rem (by omega) (by decide) (by decide)]
    refine g_imul (pc' := 64) dX8_entry_63 rfl ?_
    rw [show (4 : Int32) = nI 4 from rfl, pk_mul, Nat.mul_comm 4]
    refine g_iload_n (pc' := 65) dX8_entry_64 rfl rfl ?_
    refine g_iadd (pc' := 66) dX8_entry_65 rfl ?_
    rw [nI_add]
    refine g_iald (pc' := 67) (n := (n - 1 - k) % 64 * 4 + q) dX8_entry_66 rfl (by decide) rfl rfl (show (n - 1 - k) % 64 * 4 + q < 256 by omega) l35 ?_
    refine g_iret dX8_entry_67 rfl rfl (Nat.le_of_ble_eq_true rfl) (Nat.le_of_ble_eq_true rfl) ?_
    exact hQ _ _ hR.code (pK_sfI (by decide)) (aM_w (hR.1.2.1.2.2 _ (by omega)))

set_option maxRecDepth 100000 in
set_option maxHeartbeats 2000000 in
theorem kX8_holds {E : gE} {S : gS} {C C1 : gS} {r : Option gV} {j m : Int32} {Q : Option gV → gS → Prop} (hM : ModS S) (hR : Rel C S) (hD : DeskOk C) (ho : oHolds C j m r C1) (hQ : ∀ T' v, Rel C1 T' → pK S T' → aM [2, 1] r (fI T' 256 0 0) v → Q (some (vI v)) T') : gRun E mX8_holds 9 0 0 [vR 8 0 0, vI j, vI m] S [] Q := by
  refine gRun_of (ls := [some (vR 8 0 0), some (vI j), some (vI m)]) rfl (Nat.le_of_ble_eq_true rfl) rfl (fun ad => ?_)
  obtain ⟨l8, l20, l21, l22, l23, l24, l25, l26, l27, l28, l29, l30, l31, l32, l33, l34, l35, r262, r265, r266, r267, r268, r269, r270, r271, r272, r273, r274, r275, r276, r277, r278, r280⟩ := id hM
  rcases ho with ⟨hj, rfl, rfl⟩ | ⟨hj, hm, rfl, rfl⟩ | ⟨k, n, hk, rfl, hm, rfl, rfl, rfl⟩
  · have hj2 : ¬ (0 ≤ j ∧ j < fI S 264 0 0) := by rw [hR.1.1.1]; exact hj
    refine g_aload_n (pc' := 1) dX8_holds_0 rfl rfl ?_
    refine g_aload_n (pc' := 2) dX8_holds_1 rfl rfl ?_
    refine g_iload_n (pc' := 3) dX8_holds_2 rfl rfl ?_
    refine gcv1 (pc' := 6) cwX8_157 cf8 dX8_holds_3 rfl l8 (Nat.le_of_ble_eq_true rfl) (Nat.le_of_ble_eq_true rfl) (Nat.le_of_ble_eq_true rfl) (Nat.le_of_ble_eq_true rfl) (Nat.le_of_ble_eq_true rfl) (kX8_isJob l8 ?_)
    refine g_if_ne dX8_holds_6 (tg := 13) (pc' := 9) (by decide) rfl (fun h6 => absurd (bd_f hj2) h6) (fun h6 => ?_)
    refine g_iconst (pc' := 10) (v := 1) dX8_holds_9 rfl rfl ?_
    refine g_goto dX8_holds_10 (pc' := 25) (by decide) ?_
    refine gpX8_66 (pc' := 28) rfl dX8_holds_25 rfl l8 ?_
    refine g_aload_n (pc' := 29) dX8_holds_28 rfl rfl ?_
    refine ggX8_66 (pc' := 32) rfl dX8_holds_29 rfl l8 ?_
    rw [fI_at]
    refine g_if_ne dX8_holds_32 (tg := 48) (pc' := 35) (by decide) rfl (fun h32 => ?_) (fun h32 => absurd h32 (by decide))
    refine g_iconst (pc' := 49) (v := 0) dX8_holds_48 rfl rfl ?_
    refine g_iret dX8_holds_49 rfl rfl (Nat.le_of_ble_eq_true rfl) (Nat.le_of_ble_eq_true rfl) ?_
    exact hQ _ 0 hR.code (pK_sfI (by decide)) (aM_t (i := 0) (by decide) rfl)
  · have hj2 : (0 ≤ j ∧ j < fI S 264 0 0) := by rw [hR.1.1.1]; exact hj
    refine g_aload_n (pc' := 1) dX8_holds_0 rfl rfl ?_
    refine g_aload_n (pc' := 2) dX8_holds_1 rfl rfl ?_
    refine g_iload_n (pc' := 3) dX8_holds_2 rfl rfl ?_
    refine gcv1 (pc' := 6) cwX8_157 cf8 dX8_holds_3 rfl l8 (Nat.le_of_ble_eq_true rfl) (Nat.le_of_ble_eq_true rfl) (Nat.le_of_ble_eq_true rfl) (Nat.le_of_ble_eq_true rfl) (Nat.le_of_ble_eq_true rfl) (kX8_isJob l8 ?_)
    refine g_if_ne dX8_holds_6 (tg := 13) (pc' := 9) (by decide) rfl (fun h6 => ?_) (fun h6 => absurd h6 (by rw [bd_t hj2]; decide))
    refine g_iload_n (pc' := 14) dX8_holds_13 rfl rfl ?_
    refine gcs1 (pc' := 17) cwX8_160 dX8_holds_14 rfl (Nat.le_of_ble_eq_true rfl) (Nat.le_of_ble_eq_true rfl) (Nat.le_of_ble_eq_true rfl) (Nat.le_of_ble_eq_true rfl) (Nat.le_of_ble_eq_true rfl) (kX8_isMinute ?_)
    refine g_if_ne dX8_holds_17 (tg := 24) (pc' := 20) (by decide) rfl (fun h17 => absurd (bd_f hm) h17) (fun h17 => ?_)
    refine g_iconst (pc' := 21) (v := 2) dX8_holds_20 rfl rfl ?_
    refine g_goto dX8_holds_21 (pc' := 25) (by decide) ?_
    refine gpX8_66 (pc' := 28) rfl dX8_holds_25 rfl l8 ?_
    refine g_aload_n (pc' := 29) dX8_holds_28 rfl rfl ?_
    refine ggX8_66 (pc' := 32) rfl dX8_holds_29 rfl l8 ?_
    rw [fI_at]
    refine g_if_ne dX8_holds_32 (tg := 48) (pc' := 35) (by decide) rfl (fun h32 => ?_) (fun h32 => absurd h32 (by decide))
    refine g_iconst (pc' := 49) (v := 0) dX8_holds_48 rfl rfl ?_
    refine g_iret dX8_holds_49 rfl rfl (Nat.le_of_ble_eq_true rfl) (Nat.le_of_ble_eq_true rfl) ?_
    exact hQ _ 0 hR.code (pK_sfI (by decide)) (aM_t (i := 1) (by decide) rfl)
  · have hk6 := hR.1.j6
    have hj2 : 0 ≤ nI k ∧ nI k < fI S 264 0 0 := by
      rw [hR.1.jobs]
      exact ⟨nI_pos' (by omega), (nI_ltI (by omega) (by omega)).mpr hk⟩
    have hmm : 0 ≤ nI n ∧ nI n < 20000000 := ⟨nI_pos' (by omega), by rw [show (20000000 : Int32) = nI 20000000 from rfl]; exact (nI_ltI (by omega) (by decide)).mpr hm⟩
    obtain ⟨y, L, hx, hx2, hx3⟩ := hR.2.1 k hk
    have hM1 : ModS (sfI S 256 0 0 0) := hM.of rfl rfl
    have hx1 : XM (sfI S 256 0 0 0) k y L := hx.rest rfl
    have hc0 : ∀ T2, dK (sfI S 256 0 0 0) T2 → 0 = fI T2 256 0 0 := fun T2 h => ((h.fI (g := 256) (j := 0) (t := 0) ⟨by decide, by decide, by decide⟩).trans fI_at).symm
    refine g_aload_n (pc' := 1) dX8_holds_0 rfl rfl ?_
    refine g_aload_n (pc' := 2) dX8_holds_1 rfl rfl ?_
    refine g_iload_n (pc' := 3) dX8_holds_2 rfl rfl ?_
    refine gcv1 (pc' := 6) cwX8_157 cf8 dX8_holds_3 rfl l8 (Nat.le_of_ble_eq_true rfl) (Nat.le_of_ble_eq_true rfl) (Nat.le_of_ble_eq_true rfl) (Nat.le_of_ble_eq_true rfl) (Nat.le_of_ble_eq_true rfl) (kX8_isJob l8 ?_)
    refine g_if_ne dX8_holds_6 (tg := 13) (pc' := 9) (by decide) rfl (fun h6 => ?_) (fun h6 => absurd h6 (by rw [bd_t hj2]; decide))
    refine g_iload_n (pc' := 14) dX8_holds_13 rfl rfl ?_
    refine gcs1 (pc' := 17) cwX8_160 dX8_holds_14 rfl (Nat.le_of_ble_eq_true rfl) (Nat.le_of_ble_eq_true rfl) (Nat.le_of_ble_eq_true rfl) (Nat.le_of_ble_eq_true rfl) (Nat.le_of_ble_eq_true rfl) (kX8_isMinute ?_)
    refine g_if_ne dX8_holds_17 (tg := 24) (pc' := 20) (by decide) rfl (fun h17 => ?_) (fun h17 => absurd h17 (by rw [bd_t hmm]; decide))
    refine g_iconst (pc' := 25) (v := 0) dX8_holds_24 rfl rfl ?_
    refine gpX8_66 (pc' := 28) rfl dX8_holds_25 rfl l8 ?_
    refine g_aload_n (pc' := 29) dX8_holds_28 rfl rfl ?_
    refine ggX8_66 (pc' := 32) rfl dX8_holds_29 rfl l8 ?_
    rw [fI_at]
    refine g_if_ne dX8_holds_32 (tg := 48) (pc' := 35) (by decide) rfl (fun h32 => absurd rfl h32) (fun h32 => ?_)
    refine g_aload_n (pc' := 36) dX8_holds_35 rfl rfl ?_
    refine g_iload_n (pc' := 37) dX8_holds_36 rfl rfl ?_
    refine g_iload_n (pc' := 38) dX8_holds_37 rfl rfl ?_
    refine gcv2 (pc' := 41) cwX8_163 cf8 dX8_holds_38 rfl l8 (Nat.le_of_ble_eq_true rfl) (Nat.le_of_ble_eq_true rfl) (Nat.le_of_ble_eq_true rfl) (Nat.le_of_ble_eq_true rfl) (Nat.le_of_ble_eq_true rfl) (kX8_holdsAt hM1 hx1 (by omega) hm ?_)
    intro T2 hk2
    refine g_if_eq dX8_holds_41 (tg := 48) (pc' := 44) (by decide) rfl (fun h41 => ?_) (fun h41 => ?_)
    · refine g_iconst (pc' := 49) (v := 0) dX8_holds_48 rfl rfl ?_
      refine g_iret dX8_holds_49 rfl (by first | rfl | exact bI_nar _) (Nat.le_of_ble_eq_true rfl) (Nat.le_of_ble_eq_true rfl) ?_
      refine hQ _ _ (Rel.hs (hR.code.dk hk2)) ((pK_sfI (by decide)).tr (pK_dk hk2)) (hc0 T2 hk2 ▸ aM_w ?_)
      rw [RX.holds hx hx2 hx3 hm]
      first
        | (rw [bbp h41]; rfl)
        | (rw [bI_f.mp h41]; rfl)
    · refine g_iconst (pc' := 45) (v := 1) dX8_holds_44 rfl rfl ?_
      refine g_goto dX8_holds_45 (pc' := 49) (by decide) ?_
      refine g_iret dX8_holds_49 rfl (by first | rfl | exact bI_nar _) (Nat.le_of_ble_eq_true rfl) (Nat.le_of_ble_eq_true rfl) ?_
      refine hQ _ _ (Rel.hs (hR.code.dk hk2)) ((pK_sfI (by decide)).tr (pK_dk hk2)) (hc0 T2 hk2 ▸ aM_w ?_)
      rw [RX.holds hx hx2 hx3 hm]
      first
        | (rw [bbp h41]; rfl)
        | (rw [bI_f.mp h41]; rfl)

set_option maxRecDepth 100000 in
set_option maxHeartbeats 2000000 in
theorem kX8_next {E : gE} {S : gS} {C C1 : gS} {r : Option gV} {j m : Int32} {Q : Option gV → gS → Prop} (hM : ModS S) (hR : Rel C S) (hD : DeskOk C) (ho : oNext C j m r C1) (hQ : ∀ T' v, Rel C1 T' → pK S T' → aM [2, 1] r (fI T' 256 0 0) v → Q (some (vI v)) T') : gRun E mX8_next 9 0 0 [vR 8 0 0, vI j, vI m] S [] Q := by
  refine gRun_of (ls := [some (vR 8 0 0), some (vI j), some (vI m)]) rfl (Nat.le_of_ble_eq_true rfl) rfl (fun ad => ?_)
  obtain ⟨l8, l20, l21, l22, l23, l24, l25, l26, l27, l28, l29, l30, l31, l32, l33, l34, l35, r262, r265, r266, r267, r268, r269, r270, r271, r272, r273, r274, r275, r276, r277, r278, r280⟩ := id hM
  rcases ho with ⟨hj, rfl, rfl⟩ | ⟨hj, hm, rfl, rfl⟩ | ⟨k, n, hk, rfl, hm, rfl, rfl, hC⟩
  · have hj2 : ¬ (0 ≤ j ∧ j < fI S 264 0 0) := by rw [hR.1.1.1]; exact hj
    refine g_aload_n (pc' := 1) dX8_next_0 rfl rfl ?_
    refine g_aload_n (pc' := 2) dX8_next_1 rfl rfl ?_
    refine g_iload_n (pc' := 3) dX8_next_2 rfl rfl ?_
    refine gcv1 (pc' := 6) cwX8_157 cf8 dX8_next_3 rfl l8 (Nat.le_of_ble_eq_true rfl) (Nat.le_of_ble_eq_true rfl) (Nat.le_of_ble_eq_true rfl) (Nat.le_of_ble_eq_true rfl) (Nat.le_of_ble_eq_true rfl) (kX8_isJob l8 ?_)
    refine g_if_ne dX8_next_6 (tg := 13) (pc' := 9) (by decide) rfl (fun h6 => absurd (bd_f hj2) h6) (fun h6 => ?_)
    refine g_iconst (pc' := 10) (v := 1) dX8_next_9 rfl rfl ?_
    refine g_goto dX8_next_10 (pc' := 25) (by decide) ?_
    refine gpX8_66 (pc' := 28) rfl dX8_next_25 rfl l8 ?_
    refine g_aload_n (pc' := 29) dX8_next_28 rfl rfl ?_
    refine ggX8_66 (pc' := 32) rfl dX8_next_29 rfl l8 ?_
    rw [fI_at]
    refine g_if_le dX8_next_32 (tg := 39) (pc' := 35) (by decide) rfl (fun h32 => absurd h32 (by decide)) (fun h32 => ?_)
    refine g_iconst (pc' := 36) (v := 0) dX8_next_35 rfl rfl ?_
    refine g_goto dX8_next_36 (pc' := 49) (by decide) ?_
    refine g_iret dX8_next_49 rfl rfl (Nat.le_of_ble_eq_true rfl) (Nat.le_of_ble_eq_true rfl) ?_
    exact hQ _ 0 hR.code (pK_sfI (by decide)) (aM_t (i := 0) (by decide) rfl)
  · have hj2 : (0 ≤ j ∧ j < fI S 264 0 0) := by rw [hR.1.1.1]; exact hj
    refine g_aload_n (pc' := 1) dX8_next_0 rfl rfl ?_
    refine g_aload_n (pc' := 2) dX8_next_1 rfl rfl ?_
    refine g_iload_n (pc' := 3) dX8_next_2 rfl rfl ?_
    refine gcv1 (pc' := 6) cwX8_157 cf8 dX8_next_3 rfl l8 (Nat.le_of_ble_eq_true rfl) (Nat.le_of_ble_eq_true rfl) (Nat.le_of_ble_eq_true rfl) (Nat.le_of_ble_eq_true rfl) (Nat.le_of_ble_eq_true rfl) (kX8_isJob l8 ?_)
    refine g_if_ne dX8_next_6 (tg := 13) (pc' := 9) (by decide) rfl (fun h6 => ?_) (fun h6 => absurd h6 (by rw [bd_t hj2]; decide))
    refine g_iload_n (pc' := 14) dX8_next_13 rfl rfl ?_
    refine gcs1 (pc' := 17) cwX8_160 dX8_next_14 rfl (Nat.le_of_ble_eq_true rfl) (Nat.le_of_ble_eq_true rfl) (Nat.le_of_ble_eq_true rfl) (Nat.le_of_ble_eq_true rfl) (Nat.le_of_ble_eq_true rfl) (kX8_isMinute ?_)
    refine g_if_ne dX8_next_17 (tg := 24) (pc' := 20) (by decide) rfl (fun h17 => absurd (bd_f hm) h17) (fun h17 => ?_)
    refine g_iconst (pc' := 21) (v := 2) dX8_next_20 rfl rfl ?_
    refine g_goto dX8_next_21 (pc' := 25) (by decide) ?_
    refine gpX8_66 (pc' := 28) rfl dX8_next_25 rfl l8 ?_
    refine g_aload_n (pc' := 29) dX8_next_28 rfl rfl ?_
    refine ggX8_66 (pc' := 32) rfl dX8_next_29 rfl l8 ?_
    rw [fI_at]
    refine g_if_le dX8_next_32 (tg := 39) (pc' := 35) (by decide) rfl (fun h32 => absurd h32 (by decide)) (fun h32 => ?_)
    refine g_iconst (pc' := 36) (v := 0) dX8_next_35 rfl rfl ?_
    refine g_goto dX8_next_36 (pc' := 49) (by decide) ?_
    refine g_iret dX8_next_49 rfl rfl (Nat.le_of_ble_eq_true rfl) (Nat.le_of_ble_eq_true rfl) ?_
    exact hQ _ 0 hR.code (pK_sfI (by decide)) (aM_t (i := 1) (by decide) rfl)
  · have hk6 := hR.1.j6
    have hj2 : 0 ≤ nI k ∧ nI k < fI S 264 0 0 := by
      rw [hR.1.jobs]
      exact ⟨nI_pos' (by omega), (nI_ltI (by omega) (by omega)).mpr hk⟩
    have hmm : 0 ≤ nI n ∧ nI n < 20000000 := ⟨nI_pos' (by omega), by rw [show (20000000 : Int32) = nI 20000000 from rfl]; exact (nI_ltI (by omega) (by decide)).mpr hm⟩
    obtain ⟨y, L, hx, hx2, hx3⟩ := hR.2.1 k hk
    have hM1 : ModS (sfI S 256 0 0 0) := hM.of rfl rfl
    have hx1 : XM (sfI S 256 0 0 0) k y L := hx.rest rfl
    have hc0 : ∀ T2, dK (sfI S 256 0 0 0) T2 → 0 = fI T2 256 0 0 := fun T2 h => ((h.fI (g := 256) (j := 0) (t := 0) ⟨by decide, by decide, by decide⟩).trans fI_at).symm
    have hC1 : ∀ T2, Rel C T2 → Rel C1 T2 := fun T2 h => by
      rcases hC with rfl | ⟨w, -, rfl⟩
      · exact h
      · exact h.turn
    refine g_aload_n (pc' := 1) dX8_next_0 rfl rfl ?_
    refine g_aload_n (pc' := 2) dX8_next_1 rfl rfl ?_
    refine g_iload_n (pc' := 3) dX8_next_2 rfl rfl ?_
    refine gcv1 (pc' := 6) cwX8_157 cf8 dX8_next_3 rfl l8 (Nat.le_of_ble_eq_true rfl) (Nat.le_of_ble_eq_true rfl) (Nat.le_of_ble_eq_true rfl) (Nat.le_of_ble_eq_true rfl) (Nat.le_of_ble_eq_true rfl) (kX8_isJob l8 ?_)
    refine g_if_ne dX8_next_6 (tg := 13) (pc' := 9) (by decide) rfl (fun h6 => ?_) (fun h6 => absurd h6 (by rw [bd_t hj2]; decide))
    refine g_iload_n (pc' := 14) dX8_next_13 rfl rfl ?_
    refine gcs1 (pc' := 17) cwX8_160 dX8_next_14 rfl (Nat.le_of_ble_eq_true rfl) (Nat.le_of_ble_eq_true rfl) (Nat.le_of_ble_eq_true rfl) (Nat.le_of_ble_eq_true rfl) (Nat.le_of_ble_eq_true rfl) (kX8_isMinute ?_)
    refine g_if_ne dX8_next_17 (tg := 24) (pc' := 20) (by decide) rfl (fun h17 => ?_) (fun h17 => absurd h17 (by rw [bd_t hmm]; decide))
    refine g_iconst (pc' := 25) (v := 0) dX8_next_24 rfl rfl ?_
    refine gpX8_66 (pc' := 28) rfl dX8_next_25 rfl l8 ?_
    refine g_aload_n (pc' := 29) dX8_next_28 rfl rfl ?_
    refine ggX8_66 (pc' := 32) rfl dX8_next_29 rfl l8 ?_
    rw [fI_at]
    refine g_if_le dX8_next_32 (tg := 39) (pc' := 35) (by decide) rfl (fun h32 => ?_) (fun h32 => absurd (by decide) h32)
    refine g_aload_n (pc' := 40) dX8_next_39 rfl rfl ?_
    refine g_iload_n (pc' := 41) dX8_next_40 rfl rfl ?_
    refine g_iload_n (pc' := 42) dX8_next_41 rfl rfl ?_
    refine g_iconst (pc' := 43) (v := 1) dX8_next_42 rfl rfl ?_
    refine g_iadd (pc' := 44) dX8_next_43 rfl ?_
    rw [nI_1]
    refine g_ldc (pc' := 46) dX8_next_44 rfl ckX8_156 ?_
    rw [show (20000000 : Int32) = nI 20000000 from rfl]
    refine gcv3 (pc' := 49) cwX8_166 cf8 dX8_next_46 rfl l8 (Nat.le_of_ble_eq_true rfl) (Nat.le_of_ble_eq_true rfl) (Nat.le_of_ble_eq_true rfl) (Nat.le_of_ble_eq_true rfl) (Nat.le_of_ble_eq_true rfl) (kX8_firstFrom (from' := n + 1) (e := 20000000) hM1 hx1 (by omega) (by omega) (by omega) ?_)
    intro T2 hk2
    refine g_iret dX8_next_49 rfl (by first | rfl | exact bI_nar _) (Nat.le_of_ble_eq_true rfl) (Nat.le_of_ble_eq_true rfl) ?_
    refine hQ _ _ (hC1 T2 (hR.code.dk hk2)) ((pK_sfI (by decide)).tr (pK_dk hk2)) (hc0 T2 hk2 ▸ aM_w ?_)
    rw [show 20000000 - (n + 1) = 19999999 - n by omega]
    exact (fT_congr _ _ (fun i h1 h2 => RX.holds hx hx2 hx3 (by omega))).symm

set_option maxRecDepth 100000 in
set_option maxHeartbeats 2000000 in
theorem kX8_part {E : gE} {S : gS} {C C1 : gS} {r : Option gV} {m p : Int32} {Q : Option gV → gS → Prop} (hM : ModS S) (hR : Rel C S) (ho : oPart C m p r C1) (hQ : ∀ T' v, Rel C1 T' → pK S T' → aM [1] r (fI T' 256 0 0) v → Q (some (vI v)) T') : gRun E mX8_part 4 0 0 [vR 8 0 0, vI m, vI p] S [] Q := by
  refine gRun_of (ls := [some (vR 8 0 0), some (vI m), some (vI p)]) rfl (Nat.le_of_ble_eq_true rfl) rfl (fun ad => ?_)
  obtain ⟨l8, l20, l21, l22, l23, l24, l25, l26, l27, l28, l29, l30, l31, l32, l33, l34, l35, r262, r265, r266, r267, r268, r269, r270, r271, r272, r273, r274, r275, r276, r277, r278, r280⟩ := id hM
  rcases ho with ⟨h0, rfl, rfl⟩ | ⟨n, q, hm, rfl, hq, rfl, rfl, rfl⟩
  · skip
    refine g_aload_n (pc' := 1) dX8_part_0 rfl rfl ?_
    refine g_iload_n (pc' := 2) dX8_part_1 rfl rfl ?_
    refine gcs1 (pc' := 5) cwX8_160 dX8_part_2 rfl (Nat.le_of_ble_eq_true rfl) (Nat.le_of_ble_eq_true rfl) (Nat.le_of_ble_eq_true rfl) (Nat.le_of_ble_eq_true rfl) (Nat.le_of_ble_eq_true rfl) (kX8_isMinute ?_)
    refine g_if_eq dX8_part_5 (tg := 17) (pc' := 8) (by decide) rfl (fun h5 => ?_) (fun h5 => ?_)
    · refine g_iconst (pc' := 18) (v := 1) dX8_part_17 rfl rfl ?_
      refine g_goto dX8_part_18 (pc' := 22) (by decide) ?_
      refine gpX8_66 (pc' := 25) rfl dX8_part_22 rfl l8 ?_
      refine g_aload_n (pc' := 26) dX8_part_25 rfl rfl ?_
      refine ggX8_66 (pc' := 29) rfl dX8_part_26 rfl l8 ?_
      rw [fI_at]
      refine g_if_le dX8_part_29 (tg := 34) (pc' := 32) (by decide) rfl (fun h29 => absurd h29 (by decide)) (fun h29 => ?_)
      refine g_iconst (pc' := 33) (v := 0) dX8_part_32 rfl rfl ?_
      refine g_iret dX8_part_33 rfl rfl (Nat.le_of_ble_eq_true rfl) (Nat.le_of_ble_eq_true rfl) ?_
      exact hQ _ 0 hR.code (pK_sfI (by decide)) (aM_t (i := 0) (by decide) rfl)
    · refine g_iload_n (pc' := 9) dX8_part_8 rfl rfl ?_
      refine g_if_lt dX8_part_9 (tg := 17) (pc' := 12) (by decide) rfl (fun h9 => ?_) (fun h9 => ?_)
      · refine g_iconst (pc' := 18) (v := 1) dX8_part_17 rfl rfl ?_
        refine g_goto dX8_part_18 (pc' := 22) (by decide) ?_
        refine gpX8_66 (pc' := 25) rfl dX8_part_22 rfl l8 ?_
        refine g_aload_n (pc' := 26) dX8_part_25 rfl rfl ?_
        refine ggX8_66 (pc' := 29) rfl dX8_part_26 rfl l8 ?_
        rw [fI_at]
        refine g_if_le dX8_part_29 (tg := 34) (pc' := 32) (by decide) rfl (fun h29 => absurd h29 (by decide)) (fun h29 => ?_)
        refine g_iconst (pc' := 33) (v := 0) dX8_part_32 rfl rfl ?_
        refine g_iret dX8_part_33 rfl rfl (Nat.le_of_ble_eq_true rfl) (Nat.le_of_ble_eq_true rfl) ?_
        exact hQ _ 0 hR.code (pK_sfI (by decide)) (aM_t (i := 0) (by decide) rfl)
      · refine g_iload_n (pc' := 13) dX8_part_12 rfl rfl ?_
        refine g_iconst (pc' := 14) (v := 5) dX8_part_13 rfl rfl ?_
        refine g_icmp_le dX8_part_14 (tg := 21) (pc' := 17) (by decide) rfl (fun h14 => ?_) (fun h14 => ?_)
        · exact absurd ⟨bdp h5, Int32.not_lt.mp h9, h14⟩ h0
        · refine g_iconst (pc' := 18) (v := 1) dX8_part_17 rfl rfl ?_
          refine g_goto dX8_part_18 (pc' := 22) (by decide) ?_
          refine gpX8_66 (pc' := 25) rfl dX8_part_22 rfl l8 ?_
          refine g_aload_n (pc' := 26) dX8_part_25 rfl rfl ?_
          refine ggX8_66 (pc' := 29) rfl dX8_part_26 rfl l8 ?_
          rw [fI_at]
          refine g_if_le dX8_part_29 (tg := 34) (pc' := 32) (by decide) rfl (fun h29 => absurd h29 (by decide)) (fun h29 => ?_)
          refine g_iconst (pc' := 33) (v := 0) dX8_part_32 rfl rfl ?_
          refine g_iret dX8_part_33 rfl rfl (Nat.le_of_ble_eq_true rfl) (Nat.le_of_ble_eq_true rfl) ?_
          exact hQ _ 0 hR.code (pK_sfI (by decide)) (aM_t (i := 0) (by decide) rfl)
  · have hmm : 0 ≤ nI n ∧ nI n < 20000000 := ⟨nI_pos' (by omega), by rw [show (20000000 : Int32) = nI 20000000 from rfl]; exact (nI_ltI (by omega) (by decide)).mpr hm⟩
    have hM1 : ModS (sfI S 256 0 0 0) := hM.of rfl rfl
    refine g_aload_n (pc' := 1) dX8_part_0 rfl rfl ?_
    refine g_iload_n (pc' := 2) dX8_part_1 rfl rfl ?_
    refine gcs1 (pc' := 5) cwX8_160 dX8_part_2 rfl (Nat.le_of_ble_eq_true rfl) (Nat.le_of_ble_eq_true rfl) (Nat.le_of_ble_eq_true rfl) (Nat.le_of_ble_eq_true rfl) (Nat.le_of_ble_eq_true rfl) (kX8_isMinute ?_)
    refine g_if_eq dX8_part_5 (tg := 17) (pc' := 8) (by decide) rfl (fun h5 => absurd h5 (by rw [bd_t hmm]; decide)) (fun h5 => ?_)
    refine g_iload_n (pc' := 9) dX8_part_8 rfl rfl ?_
    refine g_if_lt dX8_part_9 (tg := 17) (pc' := 12) (by decide) rfl (fun h9 => absurd h9 (nI_pos (by omega))) (fun h9 => ?_)
    refine g_iload_n (pc' := 13) dX8_part_12 rfl rfl ?_
    refine g_iconst (pc' := 14) (v := 5) dX8_part_13 rfl rfl ?_
    refine g_icmp_le dX8_part_14 (tg := 21) (pc' := 17) (by decide) rfl (fun h14 => ?_) (fun h14 => absurd (by rw [show (5 : Int32) = nI 5 from rfl, nI_leI (by omega) (by decide)]; exact hq) h14)
    refine g_iconst (pc' := 22) (v := 0) dX8_part_21 rfl rfl ?_
    refine gpX8_66 (pc' := 25) rfl dX8_part_22 rfl l8 ?_
    refine g_aload_n (pc' := 26) dX8_part_25 rfl rfl ?_
    refine ggX8_66 (pc' := 29) rfl dX8_part_26 rfl l8 ?_
    rw [fI_at]
    refine g_if_le dX8_part_29 (tg := 34) (pc' := 32) (by decide) rfl (fun h29 => ?_) (fun h29 => absurd (by decide) h29)
    refine g_aload_n (pc' := 35) dX8_part_34 rfl rfl ?_
    refine g_iload_n (pc' := 36) dX8_part_35 rfl rfl ?_
    refine g_sipush (pc' := 39) (v := 1440) dX8_part_36 rfl rfl ?_
    refine g_idiv (pc' := 40) dX8_part_39 rfl (by decide) ?_
    rw [show (1440 : Int32) = nI 1440 from rfl, pk_div (by omega) (by decide) (by decide)]
    refine gcv1 (pc' := 43) cwX8_136 cf8 dX8_part_40 rfl l8 (Nat.le_of_ble_eq_true rfl) (Nat.le_of_ble_eq_true rfl) (Nat.le_of_ble_eq_true rfl) (Nat.le_of_ble_eq_true rfl) (Nat.le_of_ble_eq_true rfl) (kX8_date hM1 (by omega) ?_)
    refine g_iload_n (pc' := 44) dX8_part_43 rfl rfl ?_
    have hRT : Rel (tTurn C (n / 1440)) (tMD (sfI S 256 0 0 0) (n / 1440)) := (hR.code.dk (Or.inr ⟨_, rfl⟩)).turn
    have hKT : pK S (tMD (sfI S 256 0 0 0) (n / 1440)) := (pK_sfI (by decide)).tr (pK_dk (Or.inr ⟨_, rfl⟩))
    have hqq : q = 0 ∨ q = 1 ∨ q = 2 ∨ q = 3 ∨ q = 4 ∨ q = 5 := by omega
    rcases hqq with rfl | rfl | rfl | rfl | rfl | rfl
    · refine g_tabIn (off := 36) dX8_part_44 (by decide) (by decide) rfl (tg := 80) (by decide) ?_
      refine g_aload_n (pc' := 81) dX8_part_80 rfl rfl ?_
      refine ggX8_124 (pc' := 84) rfl dX8_part_81 rfl l8 ?_
      refine g_iret dX8_part_84 rfl rfl (Nat.le_of_ble_eq_true rfl) (Nat.le_of_ble_eq_true rfl) ?_
      exact hQ _ _ hRT hKT (aM_w rfl)
    · refine g_tabIn (off := 41) dX8_part_44 (by decide) (by decide) rfl (tg := 85) (by decide) ?_
      refine g_aload_n (pc' := 86) dX8_part_85 rfl rfl ?_
      refine ggX8_127 (pc' := 89) rfl dX8_part_86 rfl l8 ?_
      refine g_iret dX8_part_89 rfl rfl (Nat.le_of_ble_eq_true rfl) (Nat.le_of_ble_eq_true rfl) ?_
      exact hQ _ _ hRT hKT (aM_w rfl)
    · refine g_tabIn (off := 46) dX8_part_44 (by decide) (by decide) rfl (tg := 90) (by decide) ?_
      refine g_aload_n (pc' := 91) dX8_part_90 rfl rfl ?_
      refine ggX8_133 (pc' := 94) rfl dX8_part_91 rfl l8 ?_
      refine g_iret dX8_part_94 rfl rfl (Nat.le_of_ble_eq_true rfl) (Nat.le_of_ble_eq_true rfl) ?_
      exact hQ _ _ hRT hKT (aM_w rfl)
    · refine g_tabIn (off := 51) dX8_part_44 (by decide) (by decide) rfl (tg := 95) (by decide) ?_
      refine g_iload_n (pc' := 96) dX8_part_95 rfl rfl ?_
      refine g_bipush (pc' := 98) (v := 60) dX8_part_96 rfl rfl ?_
      refine g_idiv (pc' := 99) dX8_part_98 rfl (by decide) ?_
      rw [show (60 : Int32) = nI 60 from rfl, pk_div (by omega) (by decide) (by decide)]
      refine g_bipush (pc' := 101) (v := 24) dX8_part_99 rfl rfl ?_
      refine g_irem (pc' := 102) dX8_part_101 rfl (by decide) ?_
      rw [show (24 : Int32) = nI 24 from rfl, nI_rem (by omega) (by decide) (by decide), show n / 60 % 24 = n % 1440 / 60 by omega]
      refine g_iret dX8_part_102 rfl rfl (Nat.le_of_ble_eq_true rfl) (Nat.le_of_ble_eq_true rfl) ?_
      exact hQ _ _ hRT hKT (aM_w rfl)
    · refine g_tabIn (off := 59) dX8_part_44 (by decide) (by decide) rfl (tg := 103) (by decide) ?_
      refine g_iload_n (pc' := 104) dX8_part_103 rfl rfl ?_
      refine g_bipush (pc' := 106) (v := 60) dX8_part_104 rfl rfl ?_
      refine g_irem (pc' := 107) dX8_part_106 rfl (by decide) ?_
      rw [show (60 : Int32) = nI 60 from rfl, nI_rem (by omega) (by decide) (by decide)]
      refine g_iret dX8_part_107 rfl rfl (Nat.le_of_ble_eq_true rfl) (Nat.le_of_ble_eq_true rfl) ?_
      exact hQ _ _ hRT hKT (aM_w rfl)
    · refine g_tabOut dX8_part_44 (Or.inr (by decide)) (tg := 108) (by decide) ?_
      refine g_iload_n (pc' := 109) dX8_part_108 rfl rfl ?_
      refine g_sipush (pc' := 112) (v := 1440) dX8_part_109 rfl rfl ?_
      refine g_idiv (pc' := 113) dX8_part_112 rfl (by decide) ?_
      rw [show (1440 : Int32) = nI 1440 from rfl, pk_div (by omega) (by decide) (by decide)]
      refine gcs1 (pc' := 116) cwX8_140 dX8_part_113 rfl (Nat.le_of_ble_eq_true rfl) (Nat.le_of_ble_eq_true rfl) (Nat.le_of_ble_eq_true rfl) (Nat.le_of_ble_eq_true rfl) (Nat.le_of_ble_eq_true rfl) (kX8_weekdayOf (w := n / 1440) (by omega) ?_)
      refine g_iret dX8_part_116 rfl rfl (Nat.le_of_ble_eq_true rfl) (Nat.le_of_ble_eq_true rfl) ?_
      exact hQ _ _ hRT hKT (aM_w rfl)
    

set_option maxRecDepth 100000 in
set_option maxHeartbeats 2000000 in
theorem kX8_set {E : gE} {S : gS} {C C1 : gS} {r : Option gV} {m : Int32} {Q : Option gV → gS → Prop} (hM : ModS S) (hR : Rel C S) (ho : oSet C m r C1) (hQ : ∀ T', Rel C1 T' → pK S T' → aM0 [3, 1] r (fI T' 256 0 0) → Q none T') : gRun E mX8_set 2 0 0 [vR 8 0 0, vI m] S [] Q := by
  refine gRun_of (ls := [some (vR 8 0 0), some (vI m)]) rfl (Nat.le_of_ble_eq_true rfl) rfl (fun ad => ?_)
  obtain ⟨l8, l20, l21, l22, l23, l24, l25, l26, l27, l28, l29, l30, l31, l32, l33, l34, l35, r262, r265, r266, r267, r268, r269, r270, r271, r272, r273, r274, r275, r276, r277, r278, r280⟩ := id hM
  rcases ho with ⟨h0, rfl, rfl⟩ | ⟨⟨hdn, hall⟩, ⟨h0, rfl, rfl⟩ | ⟨h0, rfl, rfl⟩⟩
  · skip
    refine g_aload_n (pc' := 1) dX8_set_0 rfl rfl ?_
    refine g_aload_n (pc' := 2) dX8_set_1 rfl rfl ?_
    refine gcv0 (pc' := 5) cwX8_203 cf8 dX8_set_2 rfl l8 (Nat.le_of_ble_eq_true rfl) (Nat.le_of_ble_eq_true rfl) (Nat.le_of_ble_eq_true rfl) (Nat.le_of_ble_eq_true rfl) (Nat.le_of_ble_eq_true rfl) (kX8_isBusy hM hR.1 ?_)
    refine g_if_ne dX8_set_5 (tg := 15) (pc' := 8) (by decide) rfl (fun h5 => ?_) (fun h5 => ?_)
    · refine g_iconst (pc' := 16) (v := 1) dX8_set_15 rfl rfl ?_
      refine g_goto dX8_set_16 (pc' := 38) (by decide) ?_
      refine gpX8_66 (pc' := 41) rfl dX8_set_38 rfl l8 ?_
      refine g_aload_n (pc' := 42) dX8_set_41 rfl rfl ?_
      refine g_aload_n (pc' := 43) dX8_set_42 rfl rfl ?_
      refine ggX8_66 (pc' := 46) rfl dX8_set_43 rfl l8 ?_
      rw [fI_at]
      refine g_if_ne dX8_set_46 (tg := 53) (pc' := 49) (by decide) rfl (fun h46 => ?_) (fun h46 => absurd h46 (by decide))
      refine g_aload_n (pc' := 54) dX8_set_53 rfl rfl ?_
      refine ggX8_173 (pc' := 57) rfl dX8_set_54 rfl l8 ?_
      refine gpX8_173 (pc' := 60) rfl dX8_set_57 rfl l8 ?_
      refine g_vret dX8_set_60 rfl (Nat.le_of_ble_eq_true rfl) (Nat.le_of_ble_eq_true rfl) ?_
      refine hQ _ ?_ ((pK_sfI (by decide)).tr (pK_sfI (by decide))) (Or.inr ⟨_, 0, rfl, by decide, rfl, (fI_ne (by decide)).trans fI_at⟩)
      obtain ⟨q1, q2, q3, q4, q5, q6⟩ := hR.1.1
      exact hR.rn ⟨q1, fI_at.trans q2, q3, q4, q5, q6⟩ rfl (fun _ _ _ _ => rfl) rfl rfl rfl rfl rfl
    · refine g_aload_n (pc' := 9) dX8_set_8 rfl rfl ?_
      refine ggX8_193 (pc' := 12) rfl dX8_set_9 rfl l8 ?_
      refine g_if_eq dX8_set_12 (tg := 19) (pc' := 15) (by decide) rfl (fun h12 => ?_) (fun h12 => ?_)
      · exfalso
        rcases h0 with h0 | h0
        · exact h0 (hR.1.1.2.2.2.1 ▸ h12)
        · exact bdn h5 h0
      · refine g_iconst (pc' := 16) (v := 1) dX8_set_15 rfl rfl ?_
        refine g_goto dX8_set_16 (pc' := 38) (by decide) ?_
        refine gpX8_66 (pc' := 41) rfl dX8_set_38 rfl l8 ?_
        refine g_aload_n (pc' := 42) dX8_set_41 rfl rfl ?_
        refine g_aload_n (pc' := 43) dX8_set_42 rfl rfl ?_
        refine ggX8_66 (pc' := 46) rfl dX8_set_43 rfl l8 ?_
        rw [fI_at]
        refine g_if_ne dX8_set_46 (tg := 53) (pc' := 49) (by decide) rfl (fun h46 => ?_) (fun h46 => absurd h46 (by decide))
        refine g_aload_n (pc' := 54) dX8_set_53 rfl rfl ?_
        refine ggX8_173 (pc' := 57) rfl dX8_set_54 rfl l8 ?_
        refine gpX8_173 (pc' := 60) rfl dX8_set_57 rfl l8 ?_
        refine g_vret dX8_set_60 rfl (Nat.le_of_ble_eq_true rfl) (Nat.le_of_ble_eq_true rfl) ?_
        refine hQ _ ?_ ((pK_sfI (by decide)).tr (pK_sfI (by decide))) (Or.inr ⟨_, 0, rfl, by decide, rfl, (fI_ne (by decide)).trans fI_at⟩)
        obtain ⟨q1, q2, q3, q4, q5, q6⟩ := hR.1.1
        exact hR.rn ⟨q1, fI_at.trans q2, q3, q4, q5, q6⟩ rfl (fun _ _ _ _ => rfl) rfl rfl rfl rfl rfl
  · skip
    refine g_aload_n (pc' := 1) dX8_set_0 rfl rfl ?_
    refine g_aload_n (pc' := 2) dX8_set_1 rfl rfl ?_
    refine gcv0 (pc' := 5) cwX8_203 cf8 dX8_set_2 rfl l8 (Nat.le_of_ble_eq_true rfl) (Nat.le_of_ble_eq_true rfl) (Nat.le_of_ble_eq_true rfl) (Nat.le_of_ble_eq_true rfl) (Nat.le_of_ble_eq_true rfl) (kX8_isBusy hM hR.1 ?_)
    refine g_if_ne dX8_set_5 (tg := 15) (pc' := 8) (by decide) rfl (fun h5 => absurd (bd_f (fun z => z hall)) h5) (fun h5 => ?_)
    refine g_aload_n (pc' := 9) dX8_set_8 rfl rfl ?_
    refine ggX8_193 (pc' := 12) rfl dX8_set_9 rfl l8 ?_
    refine g_if_eq dX8_set_12 (tg := 19) (pc' := 15) (by decide) rfl (fun h12 => ?_) (fun h12 => absurd (by rw [hR.1.1.2.2.2.1]; exact hdn) h12)
    refine g_iload_n (pc' := 20) dX8_set_19 rfl rfl ?_
    refine g_aload_n (pc' := 21) dX8_set_20 rfl rfl ?_
    refine ggX8_173 (pc' := 24) rfl dX8_set_21 rfl l8 ?_
    refine g_icmp_lt dX8_set_24 (tg := 33) (pc' := 27) (by decide) rfl (fun h24 => ?_) (fun h24 => ?_)
    · refine g_iconst (pc' := 34) (v := 2) dX8_set_33 rfl rfl ?_
      refine g_goto dX8_set_34 (pc' := 38) (by decide) ?_
      refine gpX8_66 (pc' := 41) rfl dX8_set_38 rfl l8 ?_
      refine g_aload_n (pc' := 42) dX8_set_41 rfl rfl ?_
      refine g_aload_n (pc' := 43) dX8_set_42 rfl rfl ?_
      refine ggX8_66 (pc' := 46) rfl dX8_set_43 rfl l8 ?_
      rw [fI_at]
      refine g_if_ne dX8_set_46 (tg := 53) (pc' := 49) (by decide) rfl (fun h46 => ?_) (fun h46 => absurd h46 (by decide))
      refine g_aload_n (pc' := 54) dX8_set_53 rfl rfl ?_
      refine ggX8_173 (pc' := 57) rfl dX8_set_54 rfl l8 ?_
      refine gpX8_173 (pc' := 60) rfl dX8_set_57 rfl l8 ?_
      refine g_vret dX8_set_60 rfl (Nat.le_of_ble_eq_true rfl) (Nat.le_of_ble_eq_true rfl) ?_
      refine hQ _ ?_ ((pK_sfI (by decide)).tr (pK_sfI (by decide))) (Or.inr ⟨_, 1, rfl, by decide, rfl, (fI_ne (by decide)).trans fI_at⟩)
      obtain ⟨q1, q2, q3, q4, q5, q6⟩ := hR.1.1
      exact hR.rn ⟨q1, fI_at.trans q2, q3, q4, q5, q6⟩ rfl (fun _ _ _ _ => rfl) rfl rfl rfl rfl rfl
    · refine g_iload_n (pc' := 28) dX8_set_27 rfl rfl ?_
      refine g_ldc (pc' := 30) dX8_set_28 rfl ckX8_156 ?_
      refine g_icmp_lt dX8_set_30 (tg := 37) (pc' := 33) (by decide) rfl (fun h30 => ?_) (fun h30 => ?_)
      · exfalso
        rcases h0 with h0 | h0
        · exact h24 (by rw [hR.1.1.2.1]; exact h0)
        · exact h0 h30
      · refine g_iconst (pc' := 34) (v := 2) dX8_set_33 rfl rfl ?_
        refine g_goto dX8_set_34 (pc' := 38) (by decide) ?_
        refine gpX8_66 (pc' := 41) rfl dX8_set_38 rfl l8 ?_
        refine g_aload_n (pc' := 42) dX8_set_41 rfl rfl ?_
        refine g_aload_n (pc' := 43) dX8_set_42 rfl rfl ?_
        refine ggX8_66 (pc' := 46) rfl dX8_set_43 rfl l8 ?_
        rw [fI_at]
        refine g_if_ne dX8_set_46 (tg := 53) (pc' := 49) (by decide) rfl (fun h46 => ?_) (fun h46 => absurd h46 (by decide))
        refine g_aload_n (pc' := 54) dX8_set_53 rfl rfl ?_
        refine ggX8_173 (pc' := 57) rfl dX8_set_54 rfl l8 ?_
        refine gpX8_173 (pc' := 60) rfl dX8_set_57 rfl l8 ?_
        refine g_vret dX8_set_60 rfl (Nat.le_of_ble_eq_true rfl) (Nat.le_of_ble_eq_true rfl) ?_
        refine hQ _ ?_ ((pK_sfI (by decide)).tr (pK_sfI (by decide))) (Or.inr ⟨_, 1, rfl, by decide, rfl, (fI_ne (by decide)).trans fI_at⟩)
        obtain ⟨q1, q2, q3, q4, q5, q6⟩ := hR.1.1
        exact hR.rn ⟨q1, fI_at.trans q2, q3, q4, q5, q6⟩ rfl (fun _ _ _ _ => rfl) rfl rfl rfl rfl rfl
  · skip
    refine g_aload_n (pc' := 1) dX8_set_0 rfl rfl ?_
    refine g_aload_n (pc' := 2) dX8_set_1 rfl rfl ?_
    refine gcv0 (pc' := 5) cwX8_203 cf8 dX8_set_2 rfl l8 (Nat.le_of_ble_eq_true rfl) (Nat.le_of_ble_eq_true rfl) (Nat.le_of_ble_eq_true rfl) (Nat.le_of_ble_eq_true rfl) (Nat.le_of_ble_eq_true rfl) (kX8_isBusy hM hR.1 ?_)
    refine g_if_ne dX8_set_5 (tg := 15) (pc' := 8) (by decide) rfl (fun h5 => absurd (bd_f (fun z => z hall)) h5) (fun h5 => ?_)
    refine g_aload_n (pc' := 9) dX8_set_8 rfl rfl ?_
    refine ggX8_193 (pc' := 12) rfl dX8_set_9 rfl l8 ?_
    refine g_if_eq dX8_set_12 (tg := 19) (pc' := 15) (by decide) rfl (fun h12 => ?_) (fun h12 => absurd (by rw [hR.1.1.2.2.2.1]; exact hdn) h12)
    refine g_iload_n (pc' := 20) dX8_set_19 rfl rfl ?_
    refine g_aload_n (pc' := 21) dX8_set_20 rfl rfl ?_
    refine ggX8_173 (pc' := 24) rfl dX8_set_21 rfl l8 ?_
    refine g_icmp_lt dX8_set_24 (tg := 33) (pc' := 27) (by decide) rfl (fun h24 => absurd h24 (by rw [hR.1.1.2.1]; exact h0.1)) (fun h24 => ?_)
    refine g_iload_n (pc' := 28) dX8_set_27 rfl rfl ?_
    refine g_ldc (pc' := 30) dX8_set_28 rfl ckX8_156 ?_
    refine g_icmp_lt dX8_set_30 (tg := 37) (pc' := 33) (by decide) rfl (fun h30 => ?_) (fun h30 => absurd h0.2 h30)
    refine g_iconst (pc' := 38) (v := 0) dX8_set_37 rfl rfl ?_
    refine gpX8_66 (pc' := 41) rfl dX8_set_38 rfl l8 ?_
    refine g_aload_n (pc' := 42) dX8_set_41 rfl rfl ?_
    refine g_aload_n (pc' := 43) dX8_set_42 rfl rfl ?_
    refine ggX8_66 (pc' := 46) rfl dX8_set_43 rfl l8 ?_
    rw [fI_at]
    refine g_if_ne dX8_set_46 (tg := 53) (pc' := 49) (by decide) rfl (fun h46 => absurd rfl h46) (fun h46 => ?_)
    refine g_iload_n (pc' := 50) dX8_set_49 rfl rfl ?_
    refine g_goto dX8_set_50 (pc' := 57) (by decide) ?_
    refine gpX8_173 (pc' := 60) rfl dX8_set_57 rfl l8 ?_
    refine g_vret dX8_set_60 rfl (Nat.le_of_ble_eq_true rfl) (Nat.le_of_ble_eq_true rfl) ?_
    refine hQ _ ?_ ((pK_sfI (by decide)).tr (pK_sfI (by decide))) (Or.inl ⟨rfl, (fI_ne (by decide)).trans fI_at⟩)
    obtain ⟨q1, q2, q3, q4, q5, q6⟩ := hR.1.1
    exact hR.rn ⟨q1, fI_at.trans fI_at.symm, q3, q4, q5, q6⟩ rfl (fun g x y hg => fI_ne (by omega)) rfl rfl rfl rfl rfl

set_option maxRecDepth 100000 in
set_option maxHeartbeats 2000000 in
theorem kX8_end {E : gE} {S : gS} {C C1 : gS} {r : Option gV} {j t w : Int32} {Q : Option gV → gS → Prop} (hM : ModS S) (hR : Rel C S) (hD : DeskOk C) (ho : oEnd C j t w r C1) (hb : tl C + 16 < 2 ^ 30) (hQ : ∀ T' v, Rel C1 T' → pK S T' → aM [2, 3] r (fI T' 256 0 0) v → Q (some (vI v)) T') : gRun E mX8_end 6 0 0 [vR 8 0 0, vI j, vI t, vI w] S [] Q := by
  refine gRun_of (ls := [some (vR 8 0 0), some (vI j), some (vI t), some (vI w)]) rfl (Nat.le_of_ble_eq_true rfl) rfl (fun ad => ?_)
  obtain ⟨l8, l20, l21, l22, l23, l24, l25, l26, l27, l28, l29, l30, l31, l32, l33, l34, l35, r262, r265, r266, r267, r268, r269, r270, r271, r272, r273, r274, r275, r276, r277, r278, r280⟩ := id hM
  rcases ho with ⟨h0, rfl, rfl⟩ | ⟨k, n, hk, hc, rfl, rfl, ho⟩
  · skip
    refine g_aload_n (pc' := 1) dX8_end_0 rfl rfl ?_
    refine g_aload_n (pc' := 2) dX8_end_1 rfl rfl ?_
    refine g_iload_n (pc' := 3) dX8_end_2 rfl rfl ?_
    refine g_iload_n (pc' := 4) dX8_end_3 rfl rfl ?_
    refine gcv2 (pc' := 7) cwX8_207 cf8 dX8_end_4 rfl l8 (Nat.le_of_ble_eq_true rfl) (Nat.le_of_ble_eq_true rfl) (Nat.le_of_ble_eq_true rfl) (Nat.le_of_ble_eq_true rfl) (Nat.le_of_ble_eq_true rfl) (kX8_isTask hM hR.1 ?_)
    refine g_if_ne dX8_end_7 (tg := 14) (pc' := 10) (by decide) rfl (fun h7 => absurd (bI_f.mpr (by simpa using h0)) h7) (fun h7 => ?_)
    refine g_iconst (pc' := 11) (v := 1) dX8_end_10 rfl rfl ?_
    refine g_goto dX8_end_11 (pc' := 41) (by decide) ?_
    refine gpX8_66 (pc' := 44) rfl dX8_end_41 rfl l8 ?_
    refine g_aload_n (pc' := 45) dX8_end_44 rfl rfl ?_
    refine ggX8_66 (pc' := 48) rfl dX8_end_45 rfl l8 ?_
    rw [fI_at]
    refine g_if_le dX8_end_48 (tg := 53) (pc' := 51) (by decide) rfl (fun h48 => absurd h48 (by decide)) (fun h48 => ?_)
    refine g_iconst (pc' := 52) (v := 0) dX8_end_51 rfl rfl ?_
    refine g_iret dX8_end_52 rfl rfl (Nat.le_of_ble_eq_true rfl) (Nat.le_of_ble_eq_true rfl) ?_
    exact hQ _ 0 hR.code (pK_sfI (by decide)) (aM_t (i := 0) (by decide) rfl)
  · have hk6 := hR.1.j6
    have hc6 := hR.1.c6 hk
    have htk : bI (isTk C (nI k) (nI n)) = 1 := by
      refine bI_t.mpr (decide_eq_true ⟨?_, nI_pos' (by omega), ?_⟩)
      · rw [hR.1.2.2.2.1]
        exact ⟨nI_pos' (by omega), (nI_ltI (by omega) (by omega)).mpr hk⟩
      · rw [nI_clamp (by omega), (hR.1.2.2.2.2.2 k hk).1]
        exact (nI_ltI (by omega) (by omega)).mpr hc
    rcases ho with ⟨h0, rfl, rfl⟩ | ⟨h0, rfl, rfl⟩
    · skip
      refine g_aload_n (pc' := 1) dX8_end_0 rfl rfl ?_
      refine g_aload_n (pc' := 2) dX8_end_1 rfl rfl ?_
      refine g_iload_n (pc' := 3) dX8_end_2 rfl rfl ?_
      refine g_iload_n (pc' := 4) dX8_end_3 rfl rfl ?_
      refine gcv2 (pc' := 7) cwX8_207 cf8 dX8_end_4 rfl l8 (Nat.le_of_ble_eq_true rfl) (Nat.le_of_ble_eq_true rfl) (Nat.le_of_ble_eq_true rfl) (Nat.le_of_ble_eq_true rfl) (Nat.le_of_ble_eq_true rfl) (kX8_isTask hM hR.1 ?_)
      refine g_if_ne dX8_end_7 (tg := 14) (pc' := 10) (by decide) rfl (fun h7 => ?_) (fun h7 => absurd h7 (by rw [htk]; decide))
      refine g_aload_n (pc' := 15) dX8_end_14 rfl rfl ?_
      refine ggX8_54 (pc' := 18) rfl dX8_end_15 rfl l8 r276 ?_
      refine g_bipush (pc' := 20) (v := 6) dX8_end_18 rfl rfl ?_
      refine g_iload_n (pc' := 21) dX8_end_20 rfl rfl ?_
      refine g_imul (pc' := 22) dX8_end_21 rfl ?_
      rw [show (6 : Int32) = nI 6 from rfl, pk_mul]
      refine g_iload_n (pc' := 23) dX8_end_22 rfl rfl ?_
      refine g_iadd (pc' := 24) dX8_end_23 rfl ?_
      rw [nI_add]
      refine g_iald (pc' := 25) (n := 6 * k + n) dX8_end_24 rfl (by decide) rfl rfl (show 6 * k + n < 36 by omega) l32 ?_
      rw [(hR.1.st hk hc).1]
      refine g_iconst (pc' := 26) (v := 3) dX8_end_25 rfl rfl ?_
      refine g_icmp_ne dX8_end_26 (tg := 36) (pc' := 29) (by decide) rfl (fun h26 => ?_) (fun h26 => ?_)
      · refine g_iconst (pc' := 37) (v := 2) dX8_end_36 rfl rfl ?_
        refine g_goto dX8_end_37 (pc' := 41) (by decide) ?_
        refine gpX8_66 (pc' := 44) rfl dX8_end_41 rfl l8 ?_
        refine g_aload_n (pc' := 45) dX8_end_44 rfl rfl ?_
        refine ggX8_66 (pc' := 48) rfl dX8_end_45 rfl l8 ?_
        rw [fI_at]
        refine g_if_le dX8_end_48 (tg := 53) (pc' := 51) (by decide) rfl (fun h48 => absurd h48 (by decide)) (fun h48 => ?_)
        refine g_iconst (pc' := 52) (v := 0) dX8_end_51 rfl rfl ?_
        refine g_iret dX8_end_52 rfl rfl (Nat.le_of_ble_eq_true rfl) (Nat.le_of_ble_eq_true rfl) ?_
        exact hQ _ 0 hR.code (pK_sfI (by decide)) (aM_t (i := 1) (by decide) rfl)
      · refine g_aload_n (pc' := 30) dX8_end_29 rfl rfl ?_
        refine ggX8_193 (pc' := 33) rfl dX8_end_30 rfl l8 ?_
        refine g_if_eq dX8_end_33 (tg := 40) (pc' := 36) (by decide) rfl (fun h33 => ?_) (fun h33 => ?_)
        · exfalso
          rcases h0 with h0 | h0
          · exact h0 (hR.1.1.2.2.2.1 ▸ h33)
          · exact h0 h26
        · refine g_iconst (pc' := 37) (v := 2) dX8_end_36 rfl rfl ?_
          refine g_goto dX8_end_37 (pc' := 41) (by decide) ?_
          refine gpX8_66 (pc' := 44) rfl dX8_end_41 rfl l8 ?_
          refine g_aload_n (pc' := 45) dX8_end_44 rfl rfl ?_
          refine ggX8_66 (pc' := 48) rfl dX8_end_45 rfl l8 ?_
          rw [fI_at]
          refine g_if_le dX8_end_48 (tg := 53) (pc' := 51) (by decide) rfl (fun h48 => absurd h48 (by decide)) (fun h48 => ?_)
          refine g_iconst (pc' := 52) (v := 0) dX8_end_51 rfl rfl ?_
          refine g_iret dX8_end_52 rfl rfl (Nat.le_of_ble_eq_true rfl) (Nat.le_of_ble_eq_true rfl) ?_
          exact hQ _ 0 hR.code (pK_sfI (by decide)) (aM_t (i := 1) (by decide) rfl)
    · have hM1 : ModS (sfI S 256 0 0 0) := hM.of rfl rfl
      have gT := tEnd_go (S := C) (j := k) (t := n) (w := w) hc6
      have hk2 : k < jn (tEnd C k n w) := by rw [jn_go gT]; exact hk
      have hc2 : n < jc (tEnd C k n w) k := by rw [jc_go gT]; exact hc
      refine g_aload_n (pc' := 1) dX8_end_0 rfl rfl ?_
      refine g_aload_n (pc' := 2) dX8_end_1 rfl rfl ?_
      refine g_iload_n (pc' := 3) dX8_end_2 rfl rfl ?_
      refine g_iload_n (pc' := 4) dX8_end_3 rfl rfl ?_
      refine gcv2 (pc' := 7) cwX8_207 cf8 dX8_end_4 rfl l8 (Nat.le_of_ble_eq_true rfl) (Nat.le_of_ble_eq_true rfl) (Nat.le_of_ble_eq_true rfl) (Nat.le_of_ble_eq_true rfl) (Nat.le_of_ble_eq_true rfl) (kX8_isTask hM hR.1 ?_)
      refine g_if_ne dX8_end_7 (tg := 14) (pc' := 10) (by decide) rfl (fun h7 => ?_) (fun h7 => absurd h7 (by rw [htk]; decide))
      refine g_aload_n (pc' := 15) dX8_end_14 rfl rfl ?_
      refine ggX8_54 (pc' := 18) rfl dX8_end_15 rfl l8 r276 ?_
      refine g_bipush (pc' := 20) (v := 6) dX8_end_18 rfl rfl ?_
      refine g_iload_n (pc' := 21) dX8_end_20 rfl rfl ?_
      refine g_imul (pc' := 22) dX8_end_21 rfl ?_
      rw [show (6 : Int32) = nI 6 from rfl, pk_mul]
      refine g_iload_n (pc' := 23) dX8_end_22 rfl rfl ?_
      refine g_iadd (pc' := 24) dX8_end_23 rfl ?_
      rw [nI_add]
      refine g_iald (pc' := 25) (n := 6 * k + n) dX8_end_24 rfl (by decide) rfl rfl (show 6 * k + n < 36 by omega) l32 ?_
      rw [(hR.1.st hk hc).1]
      refine g_iconst (pc' := 26) (v := 3) dX8_end_25 rfl rfl ?_
      refine g_icmp_ne dX8_end_26 (tg := 36) (pc' := 29) (by decide) rfl (fun h26 => absurd h0.2 h26) (fun h26 => ?_)
      refine g_aload_n (pc' := 30) dX8_end_29 rfl rfl ?_
      refine ggX8_193 (pc' := 33) rfl dX8_end_30 rfl l8 ?_
      refine g_if_eq dX8_end_33 (tg := 40) (pc' := 36) (by decide) rfl (fun h33 => ?_) (fun h33 => absurd (by rw [hR.1.1.2.2.2.1]; exact h0.1) h33)
      refine g_iconst (pc' := 41) (v := 0) dX8_end_40 rfl rfl ?_
      refine gpX8_66 (pc' := 44) rfl dX8_end_41 rfl l8 ?_
      refine g_aload_n (pc' := 45) dX8_end_44 rfl rfl ?_
      refine ggX8_66 (pc' := 48) rfl dX8_end_45 rfl l8 ?_
      rw [fI_at]
      refine g_if_le dX8_end_48 (tg := 53) (pc' := 51) (by decide) rfl (fun h48 => ?_) (fun h48 => absurd (by decide) h48)
      refine g_aload_n (pc' := 54) dX8_end_53 rfl rfl ?_
      refine g_iload_n (pc' := 55) dX8_end_54 rfl rfl ?_
      refine g_iload_n (pc' := 56) dX8_end_55 rfl rfl ?_
      refine g_iload_n (pc' := 57) dX8_end_56 rfl rfl ?_
      refine gcv3 (pc' := 60) cwX8_210 cf8 dX8_end_57 rfl l8 (Nat.le_of_ble_eq_true rfl) (Nat.le_of_ble_eq_true rfl) (Nat.le_of_ble_eq_true rfl) (Nat.le_of_ble_eq_true rfl) (Nat.le_of_ble_eq_true rfl) (kX8_endTask (w := w) hM1 hR.code.1 hk hc (by omega) ?_)
      intro T2 hT2 m2
      have hM2 : ModS T2 := hM1.mk m2
      obtain ⟨l8, -⟩ := id hM2
      have l32 : lv T2 32 0 0 := hM2.2.2.2.2.2.2.2.2.2.2.2.2.2.1
      have r276 : fR T2 276 0 0 = some (32, 0, 0) := by rw [m2.2.1]; exact r276
      refine g_aload_n (pc' := 61) dX8_end_60 rfl rfl ?_
      refine ggX8_54 (pc' := 64) rfl dX8_end_61 rfl l8 r276 ?_
      refine g_bipush (pc' := 66) (v := 6) dX8_end_64 rfl rfl ?_
      refine g_iload_n (pc' := 67) dX8_end_66 rfl rfl ?_
      refine g_imul (pc' := 68) dX8_end_67 rfl ?_
      rw [show (6 : Int32) = nI 6 from rfl, pk_mul]
      refine g_iload_n (pc' := 69) dX8_end_68 rfl rfl ?_
      refine g_iadd (pc' := 70) dX8_end_69 rfl ?_
      rw [nI_add]
      refine g_iald (pc' := 71) (n := 6 * k + n) dX8_end_70 rfl (by decide) rfl rfl (show 6 * k + n < 36 by omega) l32 ?_
      rw [(hT2.st hk2 hc2).1]
      refine g_iret dX8_end_71 rfl rfl (Nat.le_of_ble_eq_true rfl) (Nat.le_of_ble_eq_true rfl) ?_
      exact hQ _ _ (hR.code.run (gT.1.up (fun _ z => d12 (d01 z))) m2.to2 hT2) ((pK_sfI (by decide)).tr m2.to2.pk) ((m2.2.2.2.2.1 256 0 0 rfl).trans fI_at ▸ aM_v)

set_option maxRecDepth 100000 in
set_option maxHeartbeats 2000000 in
theorem kX8_down {E : gE} {S : gS} {C C1 : gS} {r : Option gV} {d : Int32} {b m x : Nat} {Q : Option gV → gS → Prop} (hM : ModS S) (hR : Rel C S) (hG : GoodD C x m) (hd1 : d = 0 ∨ d = 1) (hbs : fI C 233 0 0 = nI b) (hbm : b ≤ m) (hm2 : m < 20000000) (ho : oDown C d b m r C1) (hb : tl C + 400 < 2 ^ 30) (hQ : ∀ T' v, Rel C1 T' → pK S T' → aM [3] r (fI T' 256 0 0) v → Q (some (vI v)) T') : gRun E mX8_down 10 0 0 [vR 8 0 0, vI d] S [] Q := by
  refine gRun_of (ls := [some (vR 8 0 0), some (vI d)]) rfl (Nat.le_of_ble_eq_true rfl) rfl (fun ad => ?_)
  obtain ⟨l8, l20, l21, l22, l23, l24, l25, l26, l27, l28, l29, l30, l31, l32, l33, l34, l35, r262, r265, r266, r267, r268, r269, r270, r271, r272, r273, r274, r275, r276, r277, r278, r280⟩ := id hM
  obtain ⟨hD, hd, hm, hs, hs6, hx⟩ := hG
  rcases ho with ⟨h0, rfl, rfl⟩ | ⟨h0, h1, rfl, rfl⟩ | ⟨h0, h1, T, hT, rfl, rfl⟩
  · skip
    refine g_aload_n (pc' := 1) dX8_down_0 rfl rfl ?_
    refine g_iload_n (pc' := 2) dX8_down_1 rfl rfl ?_
    refine g_aload_n (pc' := 3) dX8_down_2 rfl rfl ?_
    refine ggX8_193 (pc' := 6) rfl dX8_down_3 rfl l8 ?_
    refine g_icmp_ne dX8_down_6 (tg := 13) (pc' := 9) (by decide) rfl (fun h6 => absurd (by rw [hR.1.1.2.2.2.1]; exact h0) h6) (fun h6 => ?_)
    refine g_iconst (pc' := 10) (v := 1) dX8_down_9 rfl rfl ?_
    refine g_goto dX8_down_10 (pc' := 14) (by decide) ?_
    refine gpX8_66 (pc' := 17) rfl dX8_down_14 rfl l8 ?_
    refine g_aload_n (pc' := 18) dX8_down_17 rfl rfl ?_
    refine ggX8_66 (pc' := 21) rfl dX8_down_18 rfl l8 ?_
    rw [fI_at]
    refine g_if_le dX8_down_21 (tg := 26) (pc' := 24) (by decide) rfl (fun h21 => absurd h21 (by decide)) (fun h21 => ?_)
    refine g_iconst (pc' := 25) (v := 0) dX8_down_24 rfl rfl ?_
    refine g_iret dX8_down_25 rfl rfl (Nat.le_of_ble_eq_true rfl) (Nat.le_of_ble_eq_true rfl) ?_
    exact hQ _ 0 hR.code (pK_sfI (by decide)) (aM_t (i := 0) (by decide) rfl)
  · skip
    refine g_aload_n (pc' := 1) dX8_down_0 rfl rfl ?_
    refine g_iload_n (pc' := 2) dX8_down_1 rfl rfl ?_
    refine g_aload_n (pc' := 3) dX8_down_2 rfl rfl ?_
    refine ggX8_193 (pc' := 6) rfl dX8_down_3 rfl l8 ?_
    refine g_icmp_ne dX8_down_6 (tg := 13) (pc' := 9) (by decide) rfl (fun h6 => ?_) (fun h6 => absurd h6 (by rw [hR.1.1.2.2.2.1]; exact h0))
    refine g_iconst (pc' := 14) (v := 0) dX8_down_13 rfl rfl ?_
    refine gpX8_66 (pc' := 17) rfl dX8_down_14 rfl l8 ?_
    refine g_aload_n (pc' := 18) dX8_down_17 rfl rfl ?_
    refine ggX8_66 (pc' := 21) rfl dX8_down_18 rfl l8 ?_
    rw [fI_at]
    refine g_if_le dX8_down_21 (tg := 26) (pc' := 24) (by decide) rfl (fun h21 => ?_) (fun h21 => absurd (by decide) h21)
    refine g_aload_n (pc' := 27) dX8_down_26 rfl rfl ?_
    refine g_iload_n (pc' := 28) dX8_down_27 rfl rfl ?_
    refine gpX8_193 (pc' := 31) rfl dX8_down_28 rfl l8 hd1 ?_
    refine g_aload_n (pc' := 32) dX8_down_31 rfl rfl ?_
    refine g_iload_n (pc' := 33) dX8_down_32 rfl rfl ?_
    refine g_if_eq dX8_down_33 (tg := 43) (pc' := 36) (by decide) rfl (fun h33 => absurd h33 h1) (fun h33 => ?_)
    refine g_aload_n (pc' := 37) dX8_down_36 rfl rfl ?_
    refine ggX8_173 (pc' := 40) rfl dX8_down_37 rfl l8 ?_
    refine g_goto dX8_down_40 (pc' := 47) (by decide) ?_
    refine gpX8_214 (pc' := 50) rfl dX8_down_47 rfl l8 ?_
    refine g_iload_n (pc' := 51) dX8_down_50 rfl rfl ?_
    refine g_if_eq dX8_down_51 (tg := 58) (pc' := 54) (by decide) rfl (fun h51 => absurd h51 h1) (fun h51 => ?_)
    refine g_iconst (pc' := 55) (v := 0) dX8_down_54 rfl rfl ?_
    refine g_goto dX8_down_55 (pc' := 62) (by decide) ?_
    refine g_iret dX8_down_62 rfl rfl (Nat.le_of_ble_eq_true rfl) (Nat.le_of_ble_eq_true rfl) ?_
    refine hQ _ _ ?_ (((pK_sfI (by decide)).tr (pK_sfI (by decide))).tr (pK_sfI (by decide))) aM_v
    obtain ⟨q1, q2, q3, q4, q5, q6⟩ := hR.1.1
    exact hR.rn ⟨q1, q2, q3, rfl, q2, q6⟩ rfl (fun g x y hg => (fI_ne (by omega)).trans (fI_ne (by omega))) rfl rfl rfl rfl rfl
  · have hRd : Rel (sfI C 232 0 0 d) (sfI (sfI (sfI S 256 0 0 0) 259 0 0 d) 260 0 0 (fI (sfI (sfI S 256 0 0 0) 259 0 0 d) 260 0 0)) := by
      obtain ⟨q1, q2, q3, q4, q5, q6⟩ := hR.1.1
      exact hR.rn ⟨q1, q2, q3, rfl, q5, q6⟩ rfl (fun g x y hg => fI_ne (by omega)) rfl rfl rfl rfl rfl
    have h256 : fI (sfI (sfI (sfI S 256 0 0 0) 259 0 0 d) 260 0 0 (fI (sfI (sfI S 256 0 0 0) 259 0 0 d) 260 0 0)) 256 0 0 = 0 := rfl
    have hgo : tKeep d2 (sfI C 232 0 0 d) (tStartS T).2 := by
      have g1 := tCJ_go (jn C) (sfI C 232 0 0 d) (fun j hj => hR.1.c6 hj)
      have g2 := tC2_go (jn C) _ T hT
      have g3 := tStartS_go (S := T) (by rw [slN_keep g2.1 rfl, slN_keep g1.1 rfl]; exact hs6)
      exact ((g1.1.up (fun _ z => d12 (d01 z))).tr (g2.1.up (fun _ z => d12 z))).tr (g3.1.up (fun _ z => d12 (d01 z)))
    refine g_aload_n (pc' := 1) dX8_down_0 rfl rfl ?_
    refine g_iload_n (pc' := 2) dX8_down_1 rfl rfl ?_
    refine g_aload_n (pc' := 3) dX8_down_2 rfl rfl ?_
    refine ggX8_193 (pc' := 6) rfl dX8_down_3 rfl l8 ?_
    refine g_icmp_ne dX8_down_6 (tg := 13) (pc' := 9) (by decide) rfl (fun h6 => ?_) (fun h6 => absurd h6 (by rw [hR.1.1.2.2.2.1]; exact h0))
    refine g_iconst (pc' := 14) (v := 0) dX8_down_13 rfl rfl ?_
    refine gpX8_66 (pc' := 17) rfl dX8_down_14 rfl l8 ?_
    refine g_aload_n (pc' := 18) dX8_down_17 rfl rfl ?_
    refine ggX8_66 (pc' := 21) rfl dX8_down_18 rfl l8 ?_
    rw [fI_at]
    refine g_if_le dX8_down_21 (tg := 26) (pc' := 24) (by decide) rfl (fun h21 => ?_) (fun h21 => absurd (by decide) h21)
    refine g_aload_n (pc' := 27) dX8_down_26 rfl rfl ?_
    refine g_iload_n (pc' := 28) dX8_down_27 rfl rfl ?_
    refine gpX8_193 (pc' := 31) rfl dX8_down_28 rfl l8 hd1 ?_
    refine g_aload_n (pc' := 32) dX8_down_31 rfl rfl ?_
    refine g_iload_n (pc' := 33) dX8_down_32 rfl rfl ?_
    refine g_if_eq dX8_down_33 (tg := 43) (pc' := 36) (by decide) rfl (fun h33 => ?_) (fun h33 => absurd h1 h33)
    refine g_aload_n (pc' := 44) dX8_down_43 rfl rfl ?_
    refine ggX8_214 (pc' := 47) rfl dX8_down_44 rfl l8 ?_
    refine gpX8_214 (pc' := 50) rfl dX8_down_47 rfl l8 ?_
    refine g_iload_n (pc' := 51) dX8_down_50 rfl rfl ?_
    refine g_if_eq dX8_down_51 (tg := 58) (pc' := 54) (by decide) rfl (fun h51 => ?_) (fun h51 => absurd h1 h51)
    refine g_aload_n (pc' := 59) dX8_down_58 rfl rfl ?_
    refine gcv0 (pc' := 62) cwX8_217 cf8 dX8_down_59 rfl l8 (Nat.le_of_ble_eq_true rfl) (Nat.le_of_ble_eq_true rfl) (Nat.le_of_ble_eq_true rfl) (Nat.le_of_ble_eq_true rfl) (Nat.le_of_ble_eq_true rfl) (kX8_comeUp (C := sfI C 232 0 0 d) (b := b) (m := m) (hM.of rfl rfl) hRd.1 hRd.2.1 hT hbs hm hbm hm2 hs hs6 (by show tl C + 400 < _; omega) ?_)
    intro T2 hT2 m2
    refine g_iret dX8_down_62 rfl rfl (Nat.le_of_ble_eq_true rfl) (Nat.le_of_ble_eq_true rfl) ?_
    exact hQ _ _ (hRd.run hgo m2 hT2) ((((pK_sfI (by decide)).tr (pK_sfI (by decide))).tr (pK_sfI (by decide))).tr m2.pk) ((m2.2.2.2.2.1 256 0 0 rfl).trans h256 ▸ aM_v)

