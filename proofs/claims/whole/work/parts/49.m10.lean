/-! THE MODEL (10): coming up; the whole relation -/
theorem R0.dk {C S S' : gS} (h : R0 C S) (k : dK S S') : R0 C S' := by
  have ei : aI S' = aI S := congrArg (fun z => z.2.1) k.rest
  have ef : ∀ g a b, g < 281 → fI S' g a b = fI S g a b := fun g a b hg => k.fI ⟨by omega, by omega, by omega⟩
  unfold R0 RN LG RJ JK TK at *
  rw [ei, ef 264 0 0 (by decide), ef 257 0 0 (by decide), ef 258 0 0 (by decide), ef 259 0 0 (by decide), ef 260 0 0 (by decide), ef 263 0 0 (by decide), ef 279 0 0 (by decide)]
  exact h
theorem aI_nk {S : gS} {k j i : Nat} {v : Int32} {q a b : Nat} (h : q ≠ k) : aI (saI S k j i v) q a b = aI S q a b := if_neg (fun z => h z.1)
theorem R0.due {C S : gS} {i : Nat} {v : Int32} (h : R0 C S) : R0 C (saI S 28 0 i v) := by
  unfold R0 RN LG RJ JK TK at *
  simp (disch := decide) only [fI_saI, aI_nk]
  exact h
theorem fT_gt {p : Nat → Bool} {k t : Nat} (h : t + k ≤ 2 ^ 30) : fT p k t < 0 ∨ fT p k t ≠ -1 := by
  rcases fT_spec p k t with ⟨h1, -⟩ | ⟨f, h1, h2, -, -, h3⟩
  · left; rw [h1]; decide
  · right; rw [h3]; exact nI_ne1 (by omega)
set_option maxRecDepth 100000 in
set_option maxHeartbeats 2000000 in
theorem kX8_comeUp {E : gE} {S : gS} {C Z : gS} {b m : Nat} {Q : Option gV → gS → Prop} (hM : ModS S) (hR : R0 C S) (hX : ∀ j, j < jn C → RX C S j) (hZ : tC2 b m (jn C) (tCJ (jn C) C) Z) (hdn0 : fI C 233 0 0 = nI b) (hnow0 : fI C 231 0 0 = nI m) (hbm : b ≤ m) (hm : m < 20000000) (hs : fI C 230 0 0 = nI (slN C)) (hs6 : slN C ≤ 6) (hb : tl C + 400 < 2 ^ 30) (hQ : ∀ T', R0 (tStartS Z).2 T' → mK2 S T' → Q (some (vI (nI (tStartS Z).1))) T') : gRun E mX8_comeUp 9 0 0 [vR 8 0 0] S [] Q := by
  refine gRun_of (ls := [some (vR 8 0 0), none]) rfl (Nat.le_of_ble_eq_true rfl) rfl (fun ad => ?_)
  have hj6 := hR.j6
  obtain ⟨c, c1, c2, c3⟩ := tC2_chain (jn C) (tCJ (jn C) C) Z hZ
  have g36 := gk_go (C := C) (fun j hj => hR.c6 hj) 36
  rw [gk_36 hR] at g36
  have g1 : ∀ i, i ≤ jn C → tGo d1 (288 + 2 * i) C (c i) := by
    intro i
    induction i with
    | zero =>
      intro _
      rw [c1]
      exact (g36.up (Nat.le_refl _) (fun _ z => d01 z)).le (by omega)
    | succ i ih =>
      intro hi
      have h1 := ih (by omega)
      obtain ⟨V, hV, hc⟩ := c3 i (by omega)
      have h2 : tGo d1 0 (c i) V := by
        rcases hV with rfl | ⟨w, -, rfl⟩
        · exact tGo.rf
        · exact tTurn_go
      rw [hc]
      split
      · exact (h1.tr h2).le (by omega)
      · exact ((h1.tr h2).tr (tFire_go.up (Nat.le_refl _) (fun _ z => d01 z))).le (by omega)
  have tlc : ∀ i, i ≤ jn C → tl (c i) ≤ tl C + 300 := fun i hi => by
    obtain ⟨y, y1, y2, y3⟩ := (g1 i hi).2 (tl C) hR.2.1.1 (by omega)
    rw [tl_of y1 (by omega)]; omega
  have hs3 : slN (c (jn C)) ≤ 6 := by rw [slN_keep (g1 _ (Nat.le_refl _)).1 rfl]; exact hs6
  have hs2 : fI (c (jn C)) 230 0 0 = nI (slN (c (jn C))) := by rw [slN_keep (g1 _ (Nat.le_refl _)).1 rfl, (g1 _ (Nat.le_refl _)).1.2.2.2.2.1 230 0 0 rfl]; exact hs
  have LP3 : ∀ (k i : Nat) (T : gS) (_ : i + k = jn C) (hS : R0 (c i) T) (mT : mK2 S T) (hdue : ∀ i, i < jn C → aI T 28 0 i = bI (decide (¬ fT (eHolds C i) (m - b) (b + 1) = -1))), gG E mX8_comeUp (gBof 9 0 0 ad [] Q) 86 [some (vR 8 0 0), some (vI (nI i))] [] T 0 0 := by
    intro k
    induction k with
    | zero =>
      intro i T hk hS mT hdue
      have e : i = jn C := by omega
      subst e
      have hMT := hM.mk2 mT
      obtain ⟨l8, l20, l21, l22, l23, l24, l25, l26, l27, l28, l29, l30, l31, l32, l33, l34, l35, r262, r265, r266, r267, r268, r269, r270, r271, r272, r273, r274, r275, r276, r277, r278, r280⟩ := id hMT
      have tlJ := tlc (jn C) (Nat.le_refl _)
      have hjobs : fI T 264 0 0 = nI (jn C) := by rw [hS.jobs, jn_go1 (g1 _ (Nat.le_refl _))]
      refine g_iload_n (pc' := 87) dX8_comeUp_86 rfl rfl ?_
      refine g_aload_n (pc' := 88) dX8_comeUp_87 rfl rfl ?_
      refine ggX8_98 (pc' := 91) rfl dX8_comeUp_88 rfl l8 ?_
      refine g_icmp_ge dX8_comeUp_91 (tg := 114) (pc' := 94) (by decide) rfl (fun h91 => ?_) (fun h91 => absurd (by rw [hjobs]; exact Int32.le_refl _) h91)
      refine g_aload_n (pc' := 115) dX8_comeUp_114 rfl rfl ?_
      refine gcv0 (pc' := 118) cwX8_200 cf8 dX8_comeUp_115 rfl l8 (Nat.le_of_ble_eq_true rfl) (Nat.le_of_ble_eq_true rfl) (Nat.le_of_ble_eq_true rfl) (Nat.le_of_ble_eq_true rfl) (Nat.le_of_ble_eq_true rfl) (kX8_start (C := c (jn C)) hMT hS hs2 hs3 (by omega) ?_)
      intro T' hT9 m9
      refine g_iret dX8_comeUp_118 rfl rfl (Nat.le_of_ble_eq_true rfl) (Nat.le_of_ble_eq_true rfl) ?_
      rw [c2] at hT9 ⊢
      exact hQ _ hT9 (mT.tr m9.to2)
    | succ k ih =>
      intro i T hk hS mT hdue
      have hMT := hM.mk2 mT
      obtain ⟨l8, l20, l21, l22, l23, l24, l25, l26, l27, l28, l29, l30, l31, l32, l33, l34, l35, r262, r265, r266, r267, r268, r269, r270, r271, r272, r273, r274, r275, r276, r277, r278, r280⟩ := id hMT
      have hi : i < jn C := by omega
      have hjobs : fI T 264 0 0 = nI (jn C) := by rw [hS.jobs, jn_go1 (g1 i (by omega))]
      obtain ⟨V, hVc, hc⟩ := c3 i hi
      have gi := g1 i (by omega)
      have tli := tlc i (by omega)
      rw [eHolds_keep (by rw [gi.1.2.2.2.1]) (gi.1.2.2.2.2.1 33 i 0 rfl)] at hc
      have hV : R0 V T := by
        rcases hVc with rfl | ⟨w, -, rfl⟩
        · exact hS
        · exact hS.turn
      have hjV : i < jn V := by
        rcases hVc with rfl | ⟨w, -, rfl⟩
        · rw [jn_go1 gi]; exact hi
        · rw [jn_go1 (gi.tr tTurn_go)]; exact hi
      have tlV : tl V = tl (c i) := by
        rcases hVc with rfl | ⟨w, -, rfl⟩
        · rfl
        · rfl
      have h28K : ∀ T', mK T T' → ∀ i', aI T' 28 0 i' = aI T 28 0 i' := fun T' m9 i' => by rw [m9.2.2.2.2.2 28 rfl]
      by_cases hz : fT (eHolds C i) (m - b) (b + 1) = -1
      · have hb0 : aI T 28 0 i = 0 := by rw [hdue i hi]; exact bd_f (fun z => z hz)
        refine g_iload_n (pc' := 87) dX8_comeUp_86 rfl rfl ?_
        refine g_aload_n (pc' := 88) dX8_comeUp_87 rfl rfl ?_
        refine ggX8_98 (pc' := 91) rfl dX8_comeUp_88 rfl l8 ?_
        refine g_icmp_ge dX8_comeUp_91 (tg := 114) (pc' := 94) (by decide) rfl (fun h91 => absurd h91 (by rw [hjobs, nI_leI (by omega) (by omega)]; omega)) (fun h91 => ?_)
        refine g_aload_n (pc' := 95) dX8_comeUp_94 rfl rfl ?_
        refine ggX8_42 (pc' := 98) rfl dX8_comeUp_95 rfl l8 r272 ?_
        refine g_iload_n (pc' := 99) dX8_comeUp_98 rfl rfl ?_
        refine g_zald (pc' := 100) (n := i) dX8_comeUp_99 rfl (by decide) rfl rfl (show i < 6 by omega) l28 ?_
        refine g_if_eq dX8_comeUp_100 (tg := 108) (pc' := 103) (by decide) rfl (fun h100 => ?_) (fun h100 => absurd hb0 h100)
        refine giinc1 (pc' := 111) (c := 1) dX8_comeUp_108 rfl rfl (Nat.le_of_ble_eq_true rfl) rfl ?_
        refine g_goto dX8_comeUp_111 (pc' := 86) (by decide) ?_
        rw [nI_1]
        exact ih (i + 1) T (by omega) (by rw [hc, if_pos hz]; exact hV) mT hdue
      · have hb1 : ¬ aI T 28 0 i = 0 := by
          rw [hdue i hi, bd_t hz]; decide
        refine g_iload_n (pc' := 87) dX8_comeUp_86 rfl rfl ?_
        refine g_aload_n (pc' := 88) dX8_comeUp_87 rfl rfl ?_
        refine ggX8_98 (pc' := 91) rfl dX8_comeUp_88 rfl l8 ?_
        refine g_icmp_ge dX8_comeUp_91 (tg := 114) (pc' := 94) (by decide) rfl (fun h91 => absurd h91 (by rw [hjobs, nI_leI (by omega) (by omega)]; omega)) (fun h91 => ?_)
        refine g_aload_n (pc' := 95) dX8_comeUp_94 rfl rfl ?_
        refine ggX8_42 (pc' := 98) rfl dX8_comeUp_95 rfl l8 r272 ?_
        refine g_iload_n (pc' := 99) dX8_comeUp_98 rfl rfl ?_
        refine g_zald (pc' := 100) (n := i) dX8_comeUp_99 rfl (by decide) rfl rfl (show i < 6 by omega) l28 ?_
        refine g_if_eq dX8_comeUp_100 (tg := 108) (pc' := 103) (by decide) rfl (fun h100 => absurd h100 hb1) (fun h100 => ?_)
        refine g_aload_n (pc' := 104) dX8_comeUp_103 rfl rfl ?_
        refine g_iload_n (pc' := 105) dX8_comeUp_104 rfl rfl ?_
        refine gcv1 (pc' := 108) cwX8_197 cf8 dX8_comeUp_105 rfl l8 (Nat.le_of_ble_eq_true rfl) (Nat.le_of_ble_eq_true rfl) (Nat.le_of_ble_eq_true rfl) (Nat.le_of_ble_eq_true rfl) (Nat.le_of_ble_eq_true rfl) (kX8_fire (C := V) hMT hV hjV (by omega) ?_)
        intro T' hT9 m9
        have h28 : ∀ i', aI T' 28 0 i' = aI T 28 0 i' := fun i' => h28K T' m9 i'
        refine giinc1 (pc' := 111) (c := 1) dX8_comeUp_108 rfl rfl (Nat.le_of_ble_eq_true rfl) rfl ?_
        refine g_goto dX8_comeUp_111 (pc' := 86) (by decide) ?_
        rw [nI_1]
        refine ih (i + 1) T' (by omega) (by rw [hc, if_neg hz]; exact hT9) (mT.tr m9.to2) (fun i' hi' => ?_)
        rw [← hdue i' hi']
        exact h28 _
  have LP2 : ∀ (k j : Nat) (T : gS) (hS : R0 (tCJ (jn C) C) T) (mT : mK2 S T) (_ : j + k = jn C) (hdue : ∀ i, i < j → aI T 28 0 i = bI (decide (¬ fT (eHolds C i) (m - b) (b + 1) = -1))), gG E mX8_comeUp (gBof 9 0 0 ad [] Q) 39 [some (vR 8 0 0), some (vI (nI j))] [] T 0 0 := by
    intro k
    induction k with
    | zero =>
      intro j T hS mT hk hdue
      have e : j = jn C := by omega
      subst e
      have hMT := hM.mk2 mT
      obtain ⟨l8, l20, l21, l22, l23, l24, l25, l26, l27, l28, l29, l30, l31, l32, l33, l34, l35, r262, r265, r266, r267, r268, r269, r270, r271, r272, r273, r274, r275, r276, r277, r278, r280⟩ := id hMT
      have hjobs : fI T 264 0 0 = nI (jn C) := by rw [hS.jobs, jn_go g36]
      refine g_iload_n (pc' := 40) dX8_comeUp_39 rfl rfl ?_
      refine g_aload_n (pc' := 41) dX8_comeUp_40 rfl rfl ?_
      refine ggX8_98 (pc' := 44) rfl dX8_comeUp_41 rfl l8 ?_
      refine g_icmp_ge dX8_comeUp_44 (tg := 84) (pc' := 47) (by decide) rfl (fun h44 => ?_) (fun h44 => absurd (by rw [hjobs]; exact Int32.le_refl _) h44)
      refine g_iconst (pc' := 85) (v := 0) dX8_comeUp_84 rfl rfl ?_
      refine gistore_n1 (pc' := 86) dX8_comeUp_85 rfl (Nat.le_of_ble_eq_true rfl) rfl ?_
      exact LP3 (jn C) 0 T (by omega) (by rw [c1]; exact hS) mT hdue
    | succ k ih =>
      intro j T hS mT hk hdue
      have hMT := hM.mk2 mT
      obtain ⟨l8, l20, l21, l22, l23, l24, l25, l26, l27, l28, l29, l30, l31, l32, l33, l34, l35, r262, r265, r266, r267, r268, r269, r270, r271, r272, r273, r274, r275, r276, r277, r278, r280⟩ := id hMT
      have hj : j < jn C := by omega
      have hjobs : fI T 264 0 0 = nI (jn C) := by rw [hS.jobs, jn_go g36]
      have hdn : fI T 260 0 0 = nI b := by rw [mT.2.2.2.2.1 260 0 0 rfl, hR.1.2.2.2.2.1]; exact hdn0
      have hnow : fI T 257 0 0 = nI m := by rw [mT.2.2.2.2.1 257 0 0 rfl, hR.1.2.1]; exact hnow0
      obtain ⟨y, L, hx, hx2, hx3⟩ := hX j hj
      have heq : fT (eHolds C j) (m - b) (b + 1) = fT (mHo y) (m + 1 - (b + 1)) (b + 1) := by
        rw [show m + 1 - (b + 1) = m - b by omega]
        exact fT_congr _ _ (fun i h1 h2 => RX.holds hx hx2 hx3 (by omega))
      have hX := hx.mk2 mT
      refine g_iload_n (pc' := 40) dX8_comeUp_39 rfl rfl ?_
      refine g_aload_n (pc' := 41) dX8_comeUp_40 rfl rfl ?_
      refine ggX8_98 (pc' := 44) rfl dX8_comeUp_41 rfl l8 ?_
      refine g_icmp_ge dX8_comeUp_44 (tg := 84) (pc' := 47) (by decide) rfl (fun h44 => absurd h44 (by rw [hjobs, nI_leI (by omega) (by omega)]; omega)) (fun h44 => ?_)
      refine g_aload_n (pc' := 48) dX8_comeUp_47 rfl rfl ?_
      refine ggX8_42 (pc' := 51) rfl dX8_comeUp_48 rfl l8 r272 ?_
      refine g_iload_n (pc' := 52) dX8_comeUp_51 rfl rfl ?_
      refine g_aload_n (pc' := 53) dX8_comeUp_52 rfl rfl ?_
      refine g_iload_n (pc' := 54) dX8_comeUp_53 rfl rfl ?_
      refine g_aload_n (pc' := 55) dX8_comeUp_54 rfl rfl ?_
      refine ggX8_214 (pc' := 58) rfl dX8_comeUp_55 rfl l8 ?_
      rw [hdn]
      refine g_iconst (pc' := 59) (v := 1) dX8_comeUp_58 rfl rfl ?_
      refine g_iadd (pc' := 60) dX8_comeUp_59 rfl ?_
      rw [nI_1]
      refine g_aload_n (pc' := 61) dX8_comeUp_60 rfl rfl ?_
      refine ggX8_173 (pc' := 64) rfl dX8_comeUp_61 rfl l8 ?_
      rw [hnow]
      refine g_iconst (pc' := 65) (v := 1) dX8_comeUp_64 rfl rfl ?_
      refine g_iadd (pc' := 66) dX8_comeUp_65 rfl ?_
      rw [nI_1]
      refine gcv3 (pc' := 69) cwX8_166 cf8 dX8_comeUp_66 rfl l8 (Nat.le_of_ble_eq_true rfl) (Nat.le_of_ble_eq_true rfl) (Nat.le_of_ble_eq_true rfl) (Nat.le_of_ble_eq_true rfl) (Nat.le_of_ble_eq_true rfl) (kX8_firstFrom (from' := b + 1) (e := m + 1) hMT hX (by omega) (by omega) (by omega) ?_)
      intro T2 hk2
      have l28 : lv T2 28 0 0 := (hMT.rest hk2.rest).2.2.2.2.2.2.2.2.2.1
      refine g_if_lt dX8_comeUp_69 (tg := 76) (pc' := 72) (by decide) rfl (fun h69 => ?_) (fun h69 => ?_)
      · refine g_iconst (pc' := 77) (v := 0) dX8_comeUp_76 rfl rfl ?_
        refine g_zast (pc' := 78) (n := j) dX8_comeUp_77 rfl (by decide) rfl rfl (show j < 6 by omega) l28 rfl ?_
        refine giinc1 (pc' := 81) (c := 1) dX8_comeUp_78 rfl rfl (Nat.le_of_ble_eq_true rfl) rfl ?_
        refine g_goto dX8_comeUp_81 (pc' := 39) (by decide) ?_
        rw [nI_1]
        refine ih (j + 1) _ (hS.dk hk2).due ((mT.tr (mK_dK hk2).to2).tr mK2_28) (by omega) (fun i hi => ?_)
        have ei2 : aI T2 = aI T := congrArg (fun z => z.2.1) hk2.rest
        rw [aI_saI]
        by_cases q : i = j
        · subst q
          rw [if_pos ⟨rfl, rfl, rfl⟩, heq]
          first
            | (symm; exact bd_t (fun z => by rw [z] at h69; exact h69 (by decide)))
            | (symm; exact bd_f (fun z => z ((fT_ge (by omega)).mp h69)))
        · rw [if_neg (fun z => q z.2.2), ei2]
          exact hdue i (by omega)
      · refine g_iconst (pc' := 73) (v := 1) dX8_comeUp_72 rfl rfl ?_
        refine g_goto dX8_comeUp_73 (pc' := 77) (by decide) ?_
        refine g_zast (pc' := 78) (n := j) dX8_comeUp_77 rfl (by decide) rfl rfl (show j < 6 by omega) l28 rfl ?_
        refine giinc1 (pc' := 81) (c := 1) dX8_comeUp_78 rfl rfl (Nat.le_of_ble_eq_true rfl) rfl ?_
        refine g_goto dX8_comeUp_81 (pc' := 39) (by decide) ?_
        rw [nI_1]
        refine ih (j + 1) _ (hS.dk hk2).due ((mT.tr (mK_dK hk2).to2).tr mK2_28) (by omega) (fun i hi => ?_)
        have ei2 : aI T2 = aI T := congrArg (fun z => z.2.1) hk2.rest
        rw [aI_saI]
        by_cases q : i = j
        · subst q
          rw [if_pos ⟨rfl, rfl, rfl⟩, heq]
          first
            | (symm; exact bd_t (fun z => by rw [z] at h69; exact h69 (by decide)))
            | (symm; exact bd_f (fun z => z ((fT_ge (by omega)).mp h69)))
        · rw [if_neg (fun z => q z.2.2), ei2]
          exact hdue i (by omega)
  have LP1 : ∀ (f k : Nat) (T : gS) (_ : k + f = 36) (hS : R0 (gk C k) T) (mT : mK2 S T), gG E mX8_comeUp (gBof 9 0 0 ad [] Q) 2 [some (vR 8 0 0), some (vI (nI k))] [] T 0 0 := by
    intro f
    induction f with
    | zero =>
      intro k T hk hS mT
      have e : k = 36 := by omega
      subst e
      refine g_iload_n (pc' := 3) dX8_comeUp_2 rfl rfl ?_
      refine g_bipush (pc' := 5) (v := 36) dX8_comeUp_3 rfl rfl ?_
      refine g_icmp_ge dX8_comeUp_5 (tg := 37) (pc' := 8) (by decide) rfl (fun h5 => ?_) (fun h5 => absurd (by decide) h5)
      refine g_iconst (pc' := 38) (v := 0) dX8_comeUp_37 rfl rfl ?_
      refine gistore_n1 (pc' := 39) dX8_comeUp_38 rfl (Nat.le_of_ble_eq_true rfl) rfl ?_
      rw [gk_36 hR] at hS
      exact LP2 (jn C) 0 T hS mT (by omega) (fun i hi => absurd hi (Nat.not_lt_zero _))
    | succ f ih =>
      intro k T hk hS mT
      have hMT := hM.mk2 mT
      obtain ⟨l8, l20, l21, l22, l23, l24, l25, l26, l27, l28, l29, l30, l31, l32, l33, l34, l35, r262, r265, r266, r267, r268, r269, r270, r271, r272, r273, r274, r275, r276, r277, r278, r280⟩ := id hMT
      have gK := gk_go (C := C) (fun j hj => hR.c6 hj) k
      obtain ⟨y9, y1, y2, y3⟩ := gK.2 (tl C) hR.2.1.1 (by omega)
      have tlk := tl_of y1 (by omega)
      have hst : (k / 6 < jn C ∧ k % 6 < jc C (k / 6)) → aI T 32 0 k = fI (gk C k) 163 (k / 6) (k % 6) := fun z => by
        have h9 := (hS.st (j := k / 6) (t := k % 6) (by rw [jn_go gK]; exact z.1) (by rw [jc_go gK]; exact z.2)).1
        rw [show 6 * (k / 6) + k % 6 = k by omega] at h9
        exact h9
      by_cases hvv : k / 6 < jn C ∧ k % 6 < jc C (k / 6) ∧ fI (gk C k) 163 (k / 6) (k % 6) = 3
      · obtain ⟨hv1, hv2, hv3⟩ := hvv
        have h3 : aI T 32 0 k = 3 := by rw [hst ⟨hv1, hv2⟩]; exact hv3
        refine g_iload_n (pc' := 3) dX8_comeUp_2 rfl rfl ?_
        refine g_bipush (pc' := 5) (v := 36) dX8_comeUp_3 rfl rfl ?_
        refine g_icmp_ge dX8_comeUp_5 (tg := 37) (pc' := 8) (by decide) rfl (fun h5 => absurd h5 (by rw [show (36 : Int32) = nI 36 from rfl, nI_leI (by decide) (by omega)]; omega)) (fun h5 => ?_)
        refine g_aload_n (pc' := 9) dX8_comeUp_8 rfl rfl ?_
        refine ggX8_54 (pc' := 12) rfl dX8_comeUp_9 rfl l8 r276 ?_
        refine g_iload_n (pc' := 13) dX8_comeUp_12 rfl rfl ?_
        refine g_iald (pc' := 14) (n := k) dX8_comeUp_13 rfl (by decide) rfl rfl (show k < 36 by omega) l32 ?_
        refine g_iconst (pc' := 15) (v := 3) dX8_comeUp_14 rfl rfl ?_
        refine g_icmp_ne dX8_comeUp_15 (tg := 31) (pc' := 18) (by decide) rfl (fun h15 => absurd h3 h15) (fun h15 => ?_)
        refine g_aload_n (pc' := 19) dX8_comeUp_18 rfl rfl ?_
        refine g_iload_n (pc' := 20) dX8_comeUp_19 rfl rfl ?_
        refine g_bipush (pc' := 22) (v := 6) dX8_comeUp_20 rfl rfl ?_
        refine g_idiv (pc' := 23) dX8_comeUp_22 rfl (by decide) ?_
        rw [show (6 : Int32) = nI 6 from rfl, pk_div (by omega) (by decide) (by decide)]
        refine g_iload_n (pc' := 24) dX8_comeUp_23 rfl rfl ?_
        refine g_bipush (pc' := 26) (v := 6) dX8_comeUp_24 rfl rfl ?_
        refine g_irem (pc' := 27) dX8_comeUp_26 rfl (by decide) ?_
        rw [show (6 : Int32) = nI 6 from rfl, nI_rem (by omega) (by decide) (by decide)]
        refine g_iconst (pc' := 28) (v := 0) dX8_comeUp_27 rfl rfl ?_
        refine gcv3 (pc' := 31) cwX8_210 cf8 dX8_comeUp_28 rfl l8 (Nat.le_of_ble_eq_true rfl) (Nat.le_of_ble_eq_true rfl) (Nat.le_of_ble_eq_true rfl) (Nat.le_of_ble_eq_true rfl) (Nat.le_of_ble_eq_true rfl) (kX8_endTask (C := gk C k) (j := k / 6) (t := k % 6) hMT hS (by rw [jn_go (gk_go (fun j hj => hR.c6 hj) k)]; exact hv1) (by rw [jc_go (gk_go (fun j hj => hR.c6 hj) k)]; exact hv2) (by omega) ?_)
        intro T' hT9 m9
        refine giinc1 (pc' := 34) (c := 1) dX8_comeUp_31 rfl rfl (Nat.le_of_ble_eq_true rfl) rfl ?_
        refine g_goto dX8_comeUp_34 (pc' := 2) (by decide) ?_
        rw [nI_1]
        exact ih (k + 1) _ (by omega) (by rw [gk, if_pos ⟨hv1, hv2, hv3⟩]; exact hT9) (mT.tr m9.to2)
      · have hnv := hvv
        have hn3 : ¬ aI T 32 0 k = 3 := fun z => by
          by_cases hq : k / 6 < jn C ∧ k % 6 < jc C (k / 6)
          · exact hvv ⟨hq.1, hq.2, by rw [← hst hq]; exact z⟩
          · have h0 := (hS.2.2.1.2.1 (k / 6) (k % 6) (by omega) (by omega) (by rw [jn_go gK, jc_go gK]; omega)).1
            rw [show 6 * (k / 6) + k % 6 = k by omega, z] at h0
            exact absurd h0 (by decide)
        refine g_iload_n (pc' := 3) dX8_comeUp_2 rfl rfl ?_
        refine g_bipush (pc' := 5) (v := 36) dX8_comeUp_3 rfl rfl ?_
        refine g_icmp_ge dX8_comeUp_5 (tg := 37) (pc' := 8) (by decide) rfl (fun h5 => absurd h5 (by rw [show (36 : Int32) = nI 36 from rfl, nI_leI (by decide) (by omega)]; omega)) (fun h5 => ?_)
        refine g_aload_n (pc' := 9) dX8_comeUp_8 rfl rfl ?_
        refine ggX8_54 (pc' := 12) rfl dX8_comeUp_9 rfl l8 r276 ?_
        refine g_iload_n (pc' := 13) dX8_comeUp_12 rfl rfl ?_
        refine g_iald (pc' := 14) (n := k) dX8_comeUp_13 rfl (by decide) rfl rfl (show k < 36 by omega) l32 ?_
        refine g_iconst (pc' := 15) (v := 3) dX8_comeUp_14 rfl rfl ?_
        refine g_icmp_ne dX8_comeUp_15 (tg := 31) (pc' := 18) (by decide) rfl (fun h15 => ?_) (fun h15 => absurd h15 hn3)
        refine giinc1 (pc' := 34) (c := 1) dX8_comeUp_31 rfl rfl (Nat.le_of_ble_eq_true rfl) rfl ?_
        refine g_goto dX8_comeUp_34 (pc' := 2) (by decide) ?_
        rw [nI_1]
        exact ih (k + 1) _ (by omega) (by rw [gk, if_neg hnv]; exact hS) mT
  refine g_iconst (pc' := 1) (v := 0) dX8_comeUp_0 rfl rfl ?_
  refine gistore_n1 (pc' := 2) dX8_comeUp_1 rfl (Nat.le_of_ble_eq_true rfl) rfl ?_
  exact LP1 36 0 S (by omega) hR mK.rf.to2

