/-! THE CLASS (3): Day: find, turnOne, turnTo -/
noncomputable def tOne (S : gS) (v : Nat) : gS := sfI (sfI (sfI S 1 0 0 (nI (dY v))) 2 0 0 (nI (dM v))) 3 0 0 (nI (dD v))
theorem tOne_ext {S S' : gS} {w : Nat} (h2 : S'.2 = S.2) (h : ∀ g j t, fI S' g j t = fI (tOne S w) g j t) : S' = tOne S w := Prod.ext (funext fun g => funext fun j => funext fun t => h g j t) h2
theorem tOne_of {S S' : gS} {w : Nat} (h2 : S'.2 = S.2) (h1 : fI S' 1 0 0 = nI (dY w)) (h3 : fI S' 2 0 0 = nI (dM w)) (h4 : fI S' 3 0 0 = nI (dD w)) (h : ∀ g j t, ¬ (g = 1 ∧ j = 0 ∧ t = 0) → ¬ (g = 2 ∧ j = 0 ∧ t = 0) → ¬ (g = 3 ∧ j = 0 ∧ t = 0) → fI S' g j t = fI S g j t) : S' = tOne S w := by
  refine tOne_ext h2 fun g j t => ?_
  by_cases c3 : g = 3 ∧ j = 0 ∧ t = 0
  · obtain ⟨rfl, rfl, rfl⟩ := c3; exact h4
  · by_cases c2 : g = 2 ∧ j = 0 ∧ t = 0
    · obtain ⟨rfl, rfl, rfl⟩ := c2; exact h3
    · by_cases c1 : g = 1 ∧ j = 0 ∧ t = 0
      · obtain ⟨rfl, rfl, rfl⟩ := c1; exact h1
      · rw [h g j t c1 c2 c3]
        show _ = (if _ then _ else (if _ then _ else (if _ then _ else _)))
        rw [if_neg c3, if_neg c2, if_neg c1]
set_option maxRecDepth 100000 in
set_option maxHeartbeats 2000000 in
theorem kX0_find {E : gE} {S : gS} {w : Nat} {Q : Option gV → gS → Prop} (l0 : lv S 0 0 0) (hw : w < 13889) (hQ : Q none (tOne S w)) : gRun E mX0_find 3 0 0 [vR 0 0 0, vI (nI w)] S [] Q := by
  refine gRun_of (ls := [some (vR 0 0 0), some (vI (nI w)), none]) rfl (Nat.le_of_ble_eq_true rfl) rfl (fun ad => ?_)
  have E2 : ∀ Y m r : Nat, 2000 ≤ Y ∧ Y < 2 ^ 20 → 1 ≤ m → m ≤ 12 → w = cyr (Y - 2000) + cmo Y (m - 1) + r → r < ml Y m → gG E mX0_find (gBof 3 0 0 ad [] Q) 89 [some (vR 0 0 0), some (vI (nI w)), some (vI (nI r))] [] (sfI (sfI S 1 0 0 (nI Y)) 2 0 0 (nI m)) 0 0 := by
    intro Y m r hY h1 h2 h3 h4
    obtain ⟨e1, e2, e3⟩ := date_eq (w := w) (y := Y) (m := m) (d := r + 1) ⟨hY.1, h1, h2, by omega, by omega, by rw [Nat.add_sub_cancel]; exact h3⟩
    refine g_aload_n (pc' := 90) dX0_find_89 rfl rfl ?_
    refine g_iload_n (pc' := 91) dX0_find_90 rfl rfl ?_
    refine g_iconst (pc' := 92) (v := 1) dX0_find_91 rfl rfl ?_
    refine g_iadd (pc' := 93) dX0_find_92 rfl ?_
    refine gpX0_19 (pc' := 96) rfl dX0_find_93 rfl l0 ?_
    refine g_vret dX0_find_96 rfl (Nat.le_of_ble_eq_true rfl) (Nat.le_of_ble_eq_true rfl) ?_
    exact gqv hQ (by rw [nI_1, tOne, e1, e2, e3])
  have L2 : ∀ Y, 2000 ≤ Y ∧ Y < 2 ^ 20 → ∀ k m r : Nat, 12 < k + m → m ≤ 12 → 1 ≤ m → w = cyr (Y - 2000) + cmo Y (m - 1) + r → w < cyr (Y - 2000) + yl Y → gG E mX0_find (gBof 3 0 0 ad [] Q) 52 [some (vR 0 0 0), some (vI (nI w)), some (vI (nI r))] [] (sfI (sfI S 1 0 0 (nI Y)) 2 0 0 (nI m)) 0 0 := by
    intro Y hY k
    induction k with
    | zero => intro m r hk hm12; omega
    | succ k ih =>
      intro m r hk hm12 hm hr hl
      refine g_aload_n (pc' := 53) dX0_find_52 rfl rfl ?_
      refine ggX0_16 (pc' := 56) rfl dX0_find_53 rfl l0 ?_
      refine g_bipush (pc' := 58) (v := 12) dX0_find_56 rfl rfl ?_
      refine g_icmp_ge dX0_find_58 (tg := 89) (pc' := 61) (by decide) rfl (fun h58 => ?_) (fun h58 => ?_)
      · exact E2 Y m r hY hm (by omega) hr (by
          rw [show (12 : Int32) = nI 12 from rfl, fI_sfI, if_pos ⟨rfl, rfl, rfl⟩, nI_leI (by omega) (by omega)] at h58
          have h12 : m = 12 := by omega
          subst h12
          have q := cmo_12 Y
          have q2 : cmo Y 12 = cmo Y 11 + ml Y 12 := rfl
          have q3 : w = cyr (Y - 2000) + cmo Y 11 + r := hr
          show r < ml Y 12
          omega)
      · refine g_iload_n (pc' := 62) dX0_find_61 rfl rfl ?_
        refine g_aload_n (pc' := 63) dX0_find_62 rfl rfl ?_
        refine gcv0 (pc' := 66) cwX0_29 cf0 dX0_find_63 rfl l0 (Nat.le_of_ble_eq_true rfl) (Nat.le_of_ble_eq_true rfl) (Nat.le_of_ble_eq_true rfl) (Nat.le_of_ble_eq_true rfl) (Nat.le_of_ble_eq_true rfl) (kX0_daysOfMonth (y := Y) (m := m) l0 rfl (by omega) rfl hm (by omega) ?_)
        refine g_icmp_lt dX0_find_66 (tg := 89) (pc' := 69) (by decide) rfl (fun h66 => ?_) (fun h66 => ?_)
        · exact E2 Y m r hY hm (by omega) hr (by rw [nI_ltI (by omega) (by have := ml_pos Y m; omega)] at h66; exact h66)
        · refine g_iload_n (pc' := 70) dX0_find_69 rfl rfl ?_
          refine g_aload_n (pc' := 71) dX0_find_70 rfl rfl ?_
          refine gcv0 (pc' := 74) cwX0_29 cf0 dX0_find_71 rfl l0 (Nat.le_of_ble_eq_true rfl) (Nat.le_of_ble_eq_true rfl) (Nat.le_of_ble_eq_true rfl) (Nat.le_of_ble_eq_true rfl) (Nat.le_of_ble_eq_true rfl) (kX0_daysOfMonth (y := Y) (m := m) l0 rfl (by omega) rfl hm (by omega) ?_)
          refine g_isub (pc' := 75) dX0_find_74 rfl ?_
          refine gistore_n2 (pc' := 76) dX0_find_75 rfl (Nat.le_of_ble_eq_true rfl) rfl ?_
          refine g_aload_n (pc' := 77) dX0_find_76 rfl rfl ?_
          refine g_dup (pc' := 78) dX0_find_77 rfl rfl ?_
          refine ggX0_16 (pc' := 81) rfl dX0_find_78 rfl l0 ?_
          refine g_iconst (pc' := 82) (v := 1) dX0_find_81 rfl rfl ?_
          refine g_iadd (pc' := 83) dX0_find_82 rfl ?_
          refine gpX0_16 (pc' := 86) rfl dX0_find_83 rfl l0 ?_
          refine g_goto dX0_find_86 (pc' := 52) (by decide) ?_
          rw [nI_ltI (by omega) (by have := ml_pos Y m; omega)] at h66
          rw [pk_sub (by omega)]
          refine gG.eqS (show _ = sfI (sfI S 1 0 0 (nI Y)) 2 0 0 (nI (m + 1)) from (sfI_sfI).trans (congrArg (sfI (sfI S 1 0 0 (nI Y)) 2 0 0) (nI_1 m))) ?_
          obtain ⟨m0, rfl⟩ : ∃ m0, m = m0 + 1 := ⟨m - 1, by omega⟩
          refine ih (m0 + 1 + 1) (r - ml Y (m0 + 1)) (by omega) ?_ (by omega) ?_ hl
          · rw [show (12 : Int32) = nI 12 from rfl, fI_sfI, if_pos ⟨rfl, rfl, rfl⟩, nI_leI (by omega) (by omega)] at h58
            omega
          · have q3 : w = cyr (Y - 2000) + cmo Y m0 + r := hr
            show w = cyr (Y - 2000) + (cmo Y m0 + ml Y (m0 + 1)) + (r - ml Y (m0 + 1))
            omega
  have E1 : ∀ n r : Nat, n ≤ 38 → w = cyr n + r → r < yl (2000 + n) → gG E mX0_find (gBof 3 0 0 ad [] Q) 47 [some (vR 0 0 0), some (vI (nI w)), some (vI (nI r))] [] (sfI S 1 0 0 (nI (2000 + n))) 0 0 := by
    intro n r h3 h1 h2
    have e : 2000 + n - 2000 = n := by omega
    refine g_aload_n (pc' := 48) dX0_find_47 rfl rfl ?_
    refine g_iconst (pc' := 49) (v := 1) dX0_find_48 rfl rfl ?_
    refine gpX0_16 (pc' := 52) rfl dX0_find_49 rfl l0 ?_
    exact L2 (2000 + n) (by omega) 12 1 r (by omega) (by omega) (by omega) (by rw [e]; exact h1) (by rw [e]; omega)
  have L1 : ∀ k n r : Nat, 38 < k + n → n ≤ 38 → w = cyr n + r → gG E mX0_find (gBof 3 0 0 ad [] Q) 9 [some (vR 0 0 0), some (vI (nI w)), some (vI (nI r))] [] (sfI S 1 0 0 (nI (2000 + n))) 0 0 := by
    intro k
    induction k with
    | zero => intro n r hk hn; omega
    | succ k ih =>
      intro n r hk hn hr
      refine g_aload_n (pc' := 10) dX0_find_9 rfl rfl ?_
      refine ggX0_13 (pc' := 13) rfl dX0_find_10 rfl l0 ?_
      refine g_sipush (pc' := 16) (v := 2038) dX0_find_13 rfl rfl ?_
      refine g_icmp_ge dX0_find_16 (tg := 47) (pc' := 19) (by decide) rfl (fun h16 => ?_) (fun h16 => ?_)
      · exact E1 n r hn hr (by
          rw [show (2038 : Int32) = nI 2038 from rfl, fI_sfI, if_pos ⟨rfl, rfl, rfl⟩, nI_leI (by omega) (by omega)] at h16
          have h38 : n = 38 := by omega
          subst h38
          have q : cyr 38 = 13880 := by decide
          have := yl_in (2000 + 38)
          omega)
      · refine g_iload_n (pc' := 20) dX0_find_19 rfl rfl ?_
        refine g_aload_n (pc' := 21) dX0_find_20 rfl rfl ?_
        refine gcv0 (pc' := 24) cwX0_33 cf0 dX0_find_21 rfl l0 (Nat.le_of_ble_eq_true rfl) (Nat.le_of_ble_eq_true rfl) (Nat.le_of_ble_eq_true rfl) (Nat.le_of_ble_eq_true rfl) (Nat.le_of_ble_eq_true rfl) (kX0_daysOfYear (y := 2000 + n) l0 rfl (by omega) ?_)
        refine g_icmp_lt dX0_find_24 (tg := 47) (pc' := 27) (by decide) rfl (fun h24 => ?_) (fun h24 => ?_)
        · exact E1 n r hn hr (by rw [nI_ltI (by omega) (by have := yl_in (2000 + n); omega)] at h24; exact h24)
        · refine g_iload_n (pc' := 28) dX0_find_27 rfl rfl ?_
          refine g_aload_n (pc' := 29) dX0_find_28 rfl rfl ?_
          refine gcv0 (pc' := 32) cwX0_33 cf0 dX0_find_29 rfl l0 (Nat.le_of_ble_eq_true rfl) (Nat.le_of_ble_eq_true rfl) (Nat.le_of_ble_eq_true rfl) (Nat.le_of_ble_eq_true rfl) (Nat.le_of_ble_eq_true rfl) (kX0_daysOfYear (y := 2000 + n) l0 rfl (by omega) ?_)
          refine g_isub (pc' := 33) dX0_find_32 rfl ?_
          refine gistore_n2 (pc' := 34) dX0_find_33 rfl (Nat.le_of_ble_eq_true rfl) rfl ?_
          refine g_aload_n (pc' := 35) dX0_find_34 rfl rfl ?_
          refine g_dup (pc' := 36) dX0_find_35 rfl rfl ?_
          refine ggX0_13 (pc' := 39) rfl dX0_find_36 rfl l0 ?_
          refine g_iconst (pc' := 40) (v := 1) dX0_find_39 rfl rfl ?_
          refine g_iadd (pc' := 41) dX0_find_40 rfl ?_
          refine gpX0_13 (pc' := 44) rfl dX0_find_41 rfl l0 ?_
          refine g_goto dX0_find_44 (pc' := 9) (by decide) ?_
          rw [nI_ltI (by omega) (by have := yl_in (2000 + n); omega)] at h24
          rw [pk_sub (by omega)]
          refine gG.eqS (show _ = sfI S 1 0 0 (nI (2000 + (n + 1))) from (sfI_sfI).trans (congrArg (sfI S 1 0 0) (nI_1 (2000 + n)))) ?_
          refine ih (n + 1) (r - yl (2000 + n)) (by omega) ?_ ?_
          · rw [show (2038 : Int32) = nI 2038 from rfl, fI_sfI, if_pos ⟨rfl, rfl, rfl⟩, nI_leI (by omega) (by omega)] at h16
            omega
          · show w = cyr n + yl (2000 + n) + (r - yl (2000 + n))
            omega
  refine g_iload_n (pc' := 1) dX0_find_0 rfl rfl ?_
  refine gistore_n2 (pc' := 2) dX0_find_1 rfl (Nat.le_of_ble_eq_true rfl) rfl ?_
  refine g_aload_n (pc' := 3) dX0_find_2 rfl rfl ?_
  refine g_sipush (pc' := 6) (v := 2000) dX0_find_3 rfl rfl ?_
  refine gpX0_13 (pc' := 9) rfl dX0_find_6 rfl l0 ?_
  exact L1 39 0 w (by omega) (by omega) (by rw [show cyr 0 = 0 from rfl]; omega)

set_option maxRecDepth 100000 in
set_option maxHeartbeats 2000000 in
theorem kX0_turnOne {E : gE} {S : gS} {w : Nat} {Q : Option gV → gS → Prop} (l0 : lv S 0 0 0) (hd : DayOk S w) (hw : w + 1 < 13889) (hQ : Q none (tOne S (w + 1))) : gRun E mX0_turnOne 3 0 0 [vR 0 0 0] S [] Q := by
  refine gRun_of (ls := [some (vR 0 0 0)]) rfl (Nat.le_of_ble_eq_true rfl) rfl (fun ad => ?_)
  refine g_aload_n (pc' := 1) dX0_turnOne_0 rfl rfl ?_
  refine g_dup (pc' := 2) dX0_turnOne_1 rfl rfl ?_
  refine ggX0_19 (pc' := 5) rfl dX0_turnOne_2 rfl l0 ?_
  refine g_iconst (pc' := 6) (v := 1) dX0_turnOne_5 rfl rfl ?_
  refine g_iadd (pc' := 7) dX0_turnOne_6 rfl ?_
  refine gpX0_19 (pc' := 10) rfl dX0_turnOne_7 rfl l0 ?_
  refine g_aload_n (pc' := 11) dX0_turnOne_10 rfl rfl ?_
  refine ggX0_19 (pc' := 14) rfl dX0_turnOne_11 rfl l0 ?_
  refine g_aload_n (pc' := 15) dX0_turnOne_14 rfl rfl ?_
  refine gcv0 (pc' := 18) cwX0_29 cf0 dX0_turnOne_15 rfl l0 (Nat.le_of_ble_eq_true rfl) (Nat.le_of_ble_eq_true rfl) (Nat.le_of_ble_eq_true rfl) (Nat.le_of_ble_eq_true rfl) (Nat.le_of_ble_eq_true rfl) (kX0_daysOfMonth (y := dY w) (m := dM w) l0 hd.2.2.1 (by have := dY_le (w := w) (by omega); omega) hd.2.2.2.1 (dM_in w).1 (dM_in w).2 ?_)
  rw [show fI (sfI S 3 0 0 (fI S 3 0 0 + 1)) 3 0 0 = nI (dD w + 1) from (congrArg (· + 1) hd.2.2.2.2).trans (nI_1 _)]
  refine g_icmp_le dX0_turnOne_18 (tg := 36) (pc' := 21) (by decide) rfl (fun h18 => ?_) (fun h18 => ?_)
  · refine g_aload_n (pc' := 37) dX0_turnOne_36 rfl rfl ?_
    refine ggX0_16 (pc' := 40) rfl dX0_turnOne_37 rfl l0 ?_
    refine g_bipush (pc' := 42) (v := 12) dX0_turnOne_40 rfl rfl ?_
    first
      | rw [show fI (sfI S 3 0 0 (fI S 3 0 0 + 1)) 2 0 0 = nI (dM w) from hd.2.2.2.1]
      | rw [show fI (sfI (sfI (sfI S 3 0 0 (fI S 3 0 0 + 1)) 3 0 0 1) 2 0 0 (fI (sfI (sfI S 3 0 0 (fI S 3 0 0 + 1)) 3 0 0 1) 2 0 0 + 1)) 2 0 0 = nI (dM w + 1) from (congrArg (· + 1) hd.2.2.2.1).trans (nI_1 _)]
    refine g_icmp_le dX0_turnOne_42 (tg := 60) (pc' := 45) (by decide) rfl (fun h42 => ?_) (fun h42 => ?_)
    · refine g_vret dX0_turnOne_60 rfl (Nat.le_of_ble_eq_true rfl) (Nat.le_of_ble_eq_true rfl) ?_
      rw [nI_leI (by have := dD_in w; omega) (by have := ml_pos (dY w) (dM w); omega)] at h18
      rw [show (12 : Int32) = nI 12 from rfl, nI_leI (by have := dM_in w; omega) (by decide)] at h42
      have z := date_eq (date_is w).next
      first
        | exact absurd (dM_in w).2 h42
        | (simp only [if_pos h18] at z
           obtain ⟨z1, z2, z3⟩ := z
           refine gqv hQ (Eq.symm (tOne_of rfl ?_ ?_ ?_ (fun g j t c1 c2 c3 => by simp only [fI_sfI, if_neg c1, if_neg c2, if_neg c3])))
           · show fI S 1 0 0 = _; rw [z1]; exact hd.2.2.1
           · show fI S 2 0 0 = _; rw [z2]; exact hd.2.2.2.1
           · show fI S 3 0 0 + 1 = _; rw [z3, hd.2.2.2.2, nI_1])
        | (simp only [if_neg h18, if_pos h42] at z
           obtain ⟨z1, z2, z3⟩ := z
           refine gqv hQ (Eq.symm (tOne_of rfl ?_ ?_ ?_ (fun g j t c1 c2 c3 => by simp only [fI_sfI, if_neg c1, if_neg c2, if_neg c3])))
           · show fI S 1 0 0 = _; rw [z1]; exact hd.2.2.1
           · show fI S 2 0 0 + 1 = _; rw [z2, hd.2.2.2.1, nI_1]
           · show 1 = _; rw [z3]; rfl)
        | (simp only [if_neg h18, if_neg h42] at z
           obtain ⟨z1, z2, z3⟩ := z
           refine gqv hQ (Eq.symm (tOne_of rfl ?_ ?_ ?_ (fun g j t c1 c2 c3 => by simp only [fI_sfI, if_neg c1, if_neg c2, if_neg c3])))
           · show fI S 1 0 0 + 1 = _; rw [z1, hd.2.2.1, nI_1]
           · show 1 = _; rw [z2]; rfl
           · show 1 = _; rw [z3]; rfl)
    · refine g_aload_n (pc' := 46) dX0_turnOne_45 rfl rfl ?_
      refine g_iconst (pc' := 47) (v := 1) dX0_turnOne_46 rfl rfl ?_
      refine gpX0_16 (pc' := 50) rfl dX0_turnOne_47 rfl l0 ?_
      refine g_aload_n (pc' := 51) dX0_turnOne_50 rfl rfl ?_
      refine g_dup (pc' := 52) dX0_turnOne_51 rfl rfl ?_
      refine ggX0_13 (pc' := 55) rfl dX0_turnOne_52 rfl l0 ?_
      refine g_iconst (pc' := 56) (v := 1) dX0_turnOne_55 rfl rfl ?_
      refine g_iadd (pc' := 57) dX0_turnOne_56 rfl ?_
      refine gpX0_13 (pc' := 60) rfl dX0_turnOne_57 rfl l0 ?_
      refine g_vret dX0_turnOne_60 rfl (Nat.le_of_ble_eq_true rfl) (Nat.le_of_ble_eq_true rfl) ?_
      rw [nI_leI (by have := dD_in w; omega) (by have := ml_pos (dY w) (dM w); omega)] at h18
      rw [show (12 : Int32) = nI 12 from rfl, nI_leI (by have := dM_in w; omega) (by decide)] at h42
      have z := date_eq (date_is w).next
      first
        | exact absurd (dM_in w).2 h42
        | (simp only [if_pos h18] at z
           obtain ⟨z1, z2, z3⟩ := z
           refine gqv hQ (Eq.symm (tOne_of rfl ?_ ?_ ?_ (fun g j t c1 c2 c3 => by simp only [fI_sfI, if_neg c1, if_neg c2, if_neg c3])))
           · show fI S 1 0 0 = _; rw [z1]; exact hd.2.2.1
           · show fI S 2 0 0 = _; rw [z2]; exact hd.2.2.2.1
           · show fI S 3 0 0 + 1 = _; rw [z3, hd.2.2.2.2, nI_1])
        | (simp only [if_neg h18, if_pos h42] at z
           obtain ⟨z1, z2, z3⟩ := z
           refine gqv hQ (Eq.symm (tOne_of rfl ?_ ?_ ?_ (fun g j t c1 c2 c3 => by simp only [fI_sfI, if_neg c1, if_neg c2, if_neg c3])))
           · show fI S 1 0 0 = _; rw [z1]; exact hd.2.2.1
           · show fI S 2 0 0 + 1 = _; rw [z2, hd.2.2.2.1, nI_1]
           · show 1 = _; rw [z3]; rfl)
        | (simp only [if_neg h18, if_neg h42] at z
           obtain ⟨z1, z2, z3⟩ := z
           refine gqv hQ (Eq.symm (tOne_of rfl ?_ ?_ ?_ (fun g j t c1 c2 c3 => by simp only [fI_sfI, if_neg c1, if_neg c2, if_neg c3])))
           · show fI S 1 0 0 + 1 = _; rw [z1, hd.2.2.1, nI_1]
           · show 1 = _; rw [z2]; rfl
           · show 1 = _; rw [z3]; rfl)
  · refine g_aload_n (pc' := 22) dX0_turnOne_21 rfl rfl ?_
    refine g_iconst (pc' := 23) (v := 1) dX0_turnOne_22 rfl rfl ?_
    refine gpX0_19 (pc' := 26) rfl dX0_turnOne_23 rfl l0 ?_
    refine g_aload_n (pc' := 27) dX0_turnOne_26 rfl rfl ?_
    refine g_dup (pc' := 28) dX0_turnOne_27 rfl rfl ?_
    refine ggX0_16 (pc' := 31) rfl dX0_turnOne_28 rfl l0 ?_
    refine g_iconst (pc' := 32) (v := 1) dX0_turnOne_31 rfl rfl ?_
    refine g_iadd (pc' := 33) dX0_turnOne_32 rfl ?_
    refine gpX0_16 (pc' := 36) rfl dX0_turnOne_33 rfl l0 ?_
    refine g_aload_n (pc' := 37) dX0_turnOne_36 rfl rfl ?_
    refine ggX0_16 (pc' := 40) rfl dX0_turnOne_37 rfl l0 ?_
    refine g_bipush (pc' := 42) (v := 12) dX0_turnOne_40 rfl rfl ?_
    first
      | rw [show fI (sfI S 3 0 0 (fI S 3 0 0 + 1)) 2 0 0 = nI (dM w) from hd.2.2.2.1]
      | rw [show fI (sfI (sfI (sfI S 3 0 0 (fI S 3 0 0 + 1)) 3 0 0 1) 2 0 0 (fI (sfI (sfI S 3 0 0 (fI S 3 0 0 + 1)) 3 0 0 1) 2 0 0 + 1)) 2 0 0 = nI (dM w + 1) from (congrArg (· + 1) hd.2.2.2.1).trans (nI_1 _)]
    refine g_icmp_le dX0_turnOne_42 (tg := 60) (pc' := 45) (by decide) rfl (fun h42 => ?_) (fun h42 => ?_)
    · refine g_vret dX0_turnOne_60 rfl (Nat.le_of_ble_eq_true rfl) (Nat.le_of_ble_eq_true rfl) ?_
      rw [nI_leI (by have := dD_in w; omega) (by have := ml_pos (dY w) (dM w); omega)] at h18
      rw [show (12 : Int32) = nI 12 from rfl, nI_leI (by have := dM_in w; omega) (by decide)] at h42
      have z := date_eq (date_is w).next
      first
        | exact absurd (dM_in w).2 h42
        | (simp only [if_pos h18] at z
           obtain ⟨z1, z2, z3⟩ := z
           refine gqv hQ (Eq.symm (tOne_of rfl ?_ ?_ ?_ (fun g j t c1 c2 c3 => by simp only [fI_sfI, if_neg c1, if_neg c2, if_neg c3])))
           · show fI S 1 0 0 = _; rw [z1]; exact hd.2.2.1
           · show fI S 2 0 0 = _; rw [z2]; exact hd.2.2.2.1
           · show fI S 3 0 0 + 1 = _; rw [z3, hd.2.2.2.2, nI_1])
        | (simp only [if_neg h18, if_pos h42] at z
           obtain ⟨z1, z2, z3⟩ := z
           refine gqv hQ (Eq.symm (tOne_of rfl ?_ ?_ ?_ (fun g j t c1 c2 c3 => by simp only [fI_sfI, if_neg c1, if_neg c2, if_neg c3])))
           · show fI S 1 0 0 = _; rw [z1]; exact hd.2.2.1
           · show fI S 2 0 0 + 1 = _; rw [z2, hd.2.2.2.1, nI_1]
           · show 1 = _; rw [z3]; rfl)
        | (simp only [if_neg h18, if_neg h42] at z
           obtain ⟨z1, z2, z3⟩ := z
           refine gqv hQ (Eq.symm (tOne_of rfl ?_ ?_ ?_ (fun g j t c1 c2 c3 => by simp only [fI_sfI, if_neg c1, if_neg c2, if_neg c3])))
           · show fI S 1 0 0 + 1 = _; rw [z1, hd.2.2.1, nI_1]
           · show 1 = _; rw [z2]; rfl
           · show 1 = _; rw [z3]; rfl)
    · refine g_aload_n (pc' := 46) dX0_turnOne_45 rfl rfl ?_
      refine g_iconst (pc' := 47) (v := 1) dX0_turnOne_46 rfl rfl ?_
      refine gpX0_16 (pc' := 50) rfl dX0_turnOne_47 rfl l0 ?_
      refine g_aload_n (pc' := 51) dX0_turnOne_50 rfl rfl ?_
      refine g_dup (pc' := 52) dX0_turnOne_51 rfl rfl ?_
      refine ggX0_13 (pc' := 55) rfl dX0_turnOne_52 rfl l0 ?_
      refine g_iconst (pc' := 56) (v := 1) dX0_turnOne_55 rfl rfl ?_
      refine g_iadd (pc' := 57) dX0_turnOne_56 rfl ?_
      refine gpX0_13 (pc' := 60) rfl dX0_turnOne_57 rfl l0 ?_
      refine g_vret dX0_turnOne_60 rfl (Nat.le_of_ble_eq_true rfl) (Nat.le_of_ble_eq_true rfl) ?_
      rw [nI_leI (by have := dD_in w; omega) (by have := ml_pos (dY w) (dM w); omega)] at h18
      rw [show (12 : Int32) = nI 12 from rfl, nI_leI (by have := dM_in w; omega) (by decide)] at h42
      have z := date_eq (date_is w).next
      first
        | exact absurd (dM_in w).2 h42
        | (simp only [if_pos h18] at z
           obtain ⟨z1, z2, z3⟩ := z
           refine gqv hQ (Eq.symm (tOne_of rfl ?_ ?_ ?_ (fun g j t c1 c2 c3 => by simp only [fI_sfI, if_neg c1, if_neg c2, if_neg c3])))
           · show fI S 1 0 0 = _; rw [z1]; exact hd.2.2.1
           · show fI S 2 0 0 = _; rw [z2]; exact hd.2.2.2.1
           · show fI S 3 0 0 + 1 = _; rw [z3, hd.2.2.2.2, nI_1])
        | (simp only [if_neg h18, if_pos h42] at z
           obtain ⟨z1, z2, z3⟩ := z
           refine gqv hQ (Eq.symm (tOne_of rfl ?_ ?_ ?_ (fun g j t c1 c2 c3 => by simp only [fI_sfI, if_neg c1, if_neg c2, if_neg c3])))
           · show fI S 1 0 0 = _; rw [z1]; exact hd.2.2.1
           · show fI S 2 0 0 + 1 = _; rw [z2, hd.2.2.2.1, nI_1]
           · show 1 = _; rw [z3]; rfl)
        | (simp only [if_neg h18, if_neg h42] at z
           obtain ⟨z1, z2, z3⟩ := z
           refine gqv hQ (Eq.symm (tOne_of rfl ?_ ?_ ?_ (fun g j t c1 c2 c3 => by simp only [fI_sfI, if_neg c1, if_neg c2, if_neg c3])))
           · show fI S 1 0 0 + 1 = _; rw [z1, hd.2.2.1, nI_1]
           · show 1 = _; rw [z2]; rfl
           · show 1 = _; rw [z3]; rfl)

set_option maxRecDepth 100000 in
set_option maxHeartbeats 2000000 in
theorem kX0_turnTo {E : gE} {S : gS} {w v : Nat} {Q : Option gV → gS → Prop} (l0 : lv S 0 0 0) (hd : DayOk S w) (hv : v < 13889) (hQ : Q none (tTurn S v)) : gRun E mX0_turnTo 4 0 0 [vR 0 0 0, vI (nI v)] S [] Q := by
  refine gRun_of (ls := [some (vR 0 0 0), some (vI (nI v))]) rfl (Nat.le_of_ble_eq_true rfl) rfl (fun ad => ?_)
  refine g_iload_n (pc' := 1) dX0_turnTo_0 rfl rfl ?_
  refine g_aload_n (pc' := 2) dX0_turnTo_1 rfl rfl ?_
  refine ggX0_7 (pc' := 5) rfl dX0_turnTo_2 rfl l0 ?_
  rw [hd.2.1]
  refine g_icmp_ne dX0_turnTo_5 (tg := 9) (pc' := 8) (by decide) rfl (fun h5 => ?_) (fun h5 => ?_)
  · refine g_iload_n (pc' := 10) dX0_turnTo_9 rfl rfl ?_
    refine g_aload_n (pc' := 11) dX0_turnTo_10 rfl rfl ?_
    refine ggX0_7 (pc' := 14) rfl dX0_turnTo_11 rfl l0 ?_
    refine g_iconst (pc' := 15) (v := 1) dX0_turnTo_14 rfl rfl ?_
    refine g_iadd (pc' := 16) dX0_turnTo_15 rfl ?_
    rw [hd.2.1, nI_1]
    refine g_icmp_ne dX0_turnTo_16 (tg := 26) (pc' := 19) (by decide) rfl (fun h16 => ?_) (fun h16 => ?_)
    · refine g_aload_n (pc' := 27) dX0_turnTo_26 rfl rfl ?_
      refine g_iload_n (pc' := 28) dX0_turnTo_27 rfl rfl ?_
      refine gcv1 (pc' := 31) cwX0_25 cf0 dX0_turnTo_28 rfl l0 (Nat.le_of_ble_eq_true rfl) (Nat.le_of_ble_eq_true rfl) (Nat.le_of_ble_eq_true rfl) (Nat.le_of_ble_eq_true rfl) (Nat.le_of_ble_eq_true rfl) (kX0_find l0 hv ?_)
      refine g_aload_n (pc' := 32) dX0_turnTo_31 rfl rfl ?_
      refine g_iload_n (pc' := 33) dX0_turnTo_32 rfl rfl ?_
      refine gpX0_7 (pc' := 36) rfl dX0_turnTo_33 rfl l0 ?_
      refine g_vret dX0_turnTo_36 rfl (Nat.le_of_ble_eq_true rfl) (Nat.le_of_ble_eq_true rfl) ?_
      exact hQ
    · refine g_aload_n (pc' := 20) dX0_turnTo_19 rfl rfl ?_
      rw [nI_eq (by omega) (by have := hd.1; omega)] at h16
      subst h16
      refine gcv0 (pc' := 23) cwX0_22 cf0 dX0_turnTo_20 rfl l0 (Nat.le_of_ble_eq_true rfl) (Nat.le_of_ble_eq_true rfl) (Nat.le_of_ble_eq_true rfl) (Nat.le_of_ble_eq_true rfl) (Nat.le_of_ble_eq_true rfl) (kX0_turnOne (w := w) l0 hd hv ?_)
      refine g_goto dX0_turnTo_23 (pc' := 31) (by decide) ?_
      refine g_aload_n (pc' := 32) dX0_turnTo_31 rfl rfl ?_
      refine g_iload_n (pc' := 33) dX0_turnTo_32 rfl rfl ?_
      refine gpX0_7 (pc' := 36) rfl dX0_turnTo_33 rfl l0 ?_
      refine g_vret dX0_turnTo_36 rfl (Nat.le_of_ble_eq_true rfl) (Nat.le_of_ble_eq_true rfl) ?_
      exact hQ
  · refine g_vret dX0_turnTo_8 rfl (Nat.le_of_ble_eq_true rfl) (Nat.le_of_ble_eq_true rfl) ?_
    rw [nI_eq (by omega) (by have := hd.1; omega)] at h5
    subst h5
    exact gqv hQ (by rw [tTurn, sfI_id hd.2.2.1, sfI_id hd.2.2.2.1, sfI_id hd.2.2.2.2, sfI_id hd.2.1])

set_option maxRecDepth 100000 in
set_option maxHeartbeats 2000000 in
theorem kX0_init {E : gE} {S : gS} {Q : Option gV → gS → Prop} (l0 : lv S 0 0 0) (hQ : Q none (sfI (sfI (sfI (sfI S 0 0 0 0) 1 0 0 2000) 2 0 0 1) 3 0 0 1)) : gRun E mX0_init 2 0 0 [vR 0 0 0] S [] Q := by
  refine gRun_of (ls := [some (vR 0 0 0)]) rfl (Nat.le_of_ble_eq_true rfl) rfl (fun ad => ?_)
  refine g_aload_n (pc' := 1) dX0_init_0 rfl rfl ?_
  refine g_objInit (pc' := 4) oiX0 oi1 oi2 dX0_init_1 rfl (Nat.le_of_ble_eq_true rfl) (Nat.le_of_ble_eq_true rfl) ?_
  refine g_aload_n (pc' := 5) dX0_init_4 rfl rfl ?_
  refine g_iconst (pc' := 6) (v := 0) dX0_init_5 rfl rfl ?_
  refine gpX0_7 (pc' := 9) rfl dX0_init_6 rfl l0 ?_
  refine g_aload_n (pc' := 10) dX0_init_9 rfl rfl ?_
  refine g_sipush (pc' := 13) (v := 2000) dX0_init_10 rfl rfl ?_
  refine gpX0_13 (pc' := 16) rfl dX0_init_13 rfl l0 ?_
  refine g_aload_n (pc' := 17) dX0_init_16 rfl rfl ?_
  refine g_iconst (pc' := 18) (v := 1) dX0_init_17 rfl rfl ?_
  refine gpX0_16 (pc' := 21) rfl dX0_init_18 rfl l0 ?_
  refine g_aload_n (pc' := 22) dX0_init_21 rfl rfl ?_
  refine g_iconst (pc' := 23) (v := 1) dX0_init_22 rfl rfl ?_
  refine gpX0_19 (pc' := 26) rfl dX0_init_23 rfl l0 ?_
  refine g_vret dX0_init_26 rfl (Nat.le_of_ble_eq_true rfl) (Nat.le_of_ble_eq_true rfl) ?_
  exact hQ

