/-! THE MODEL (13): pass -/
theorem R0.hs {C S : gS} {j m : Nat} (h : R0 C S) : R0 (tHS C j m) S := by
  unfold tHS
  split
  · exact h.turn
  · exact h
theorem tl_go {d : Nat → Bool} {b : Nat} {S S' : gS} (g : tGo d b S S') (h : fI S 97 0 0 = nI (tl S)) (hb : tl S + b < 2 ^ 30) : tl S' ≤ tl S + b := by
  obtain ⟨y, y1, y2, y3⟩ := g.2 (tl S) h hb
  rw [tl_of y1 (by omega)]; exact y3
set_option maxRecDepth 100000 in
set_option maxHeartbeats 2000000 in
theorem kX8_pass {E : gE} {S : gS} {C C1 : gS} {r : Option gV} {n : Int32} {m x : Nat} {Q : Option gV → gS → Prop} (hM : ModS S) (hR : Rel C S) (hG : GoodD C x m) (hm2 : m < 20000000) (ho : oPass C m n r C1) (hb : x + 90100 < 2 ^ 30) (hQ : ∀ T' v, Rel C1 T' → pK S T' → aM [1, 3] r (fI T' 256 0 0) v → Q (some (vI v)) T') : gRun E mX8_pass 9 0 0 [vR 8 0 0, vI n] S [] Q := by
  refine gRun_of (ls := [some (vR 8 0 0), some (vI n), none, none, none]) rfl (Nat.le_of_ble_eq_true rfl) rfl (fun ad => ?_)
  obtain ⟨hD, hd, hm, hs, hs6, hx⟩ := hG
  have hnow : fI S 257 0 0 = nI m := hR.1.1.2.1.trans hm
  have l8 : lv S 8 0 0 := hM.1
  rcases ho with ⟨h0, rfl, rfl⟩ | ⟨k, hk1, hk2, rfl, ⟨h0, rfl, rfl⟩ | ⟨h0, hdn, rfl, rfl⟩ | ⟨h0, hdn, rfl, rfl⟩⟩
  · skip
    refine g_aload_n (pc' := 1) dX8_pass_0 rfl rfl ?_
    refine g_iload_n (pc' := 2) dX8_pass_1 rfl rfl ?_
    refine g_iconst (pc' := 3) (v := 1) dX8_pass_2 rfl rfl ?_
    refine g_icmp_lt dX8_pass_3 (tg := 13) (pc' := 6) (by decide) rfl (fun h3 => ?_) (fun h3 => ?_)
    · refine g_iconst (pc' := 14) (v := 1) dX8_pass_13 rfl rfl ?_
      refine g_goto dX8_pass_14 (pc' := 33) (by decide) ?_
      refine gpX8_66 (pc' := 36) rfl dX8_pass_33 rfl l8 ?_
      refine g_aload_n (pc' := 37) dX8_pass_36 rfl rfl ?_
      refine ggX8_66 (pc' := 40) rfl dX8_pass_37 rfl l8 ?_
      rw [fI_at]
      refine g_if_le dX8_pass_40 (tg := 45) (pc' := 43) (by decide) rfl (fun h40 => absurd h40 (by decide)) (fun h40 => ?_)
      refine g_iconst (pc' := 44) (v := 0) dX8_pass_43 rfl rfl ?_
      refine g_iret dX8_pass_44 rfl rfl (Nat.le_of_ble_eq_true rfl) (Nat.le_of_ble_eq_true rfl) ?_
      exact hQ _ 0 hR.code (pK_sfI (by decide)) (aM_t (i := 0) (by decide) rfl)
    · refine g_iload_n (pc' := 7) dX8_pass_6 rfl rfl ?_
      refine g_sipush (pc' := 10) (v := 5000) dX8_pass_7 rfl rfl ?_
      refine g_icmp_le dX8_pass_10 (tg := 17) (pc' := 13) (by decide) rfl (fun h10 => ?_) (fun h10 => ?_)
      · exfalso
        refine h0 ⟨?_, h10⟩
        rw [Int32.le_iff_toInt_le]
        rw [Int32.lt_iff_toInt_lt] at h3
        omega
      · refine g_iconst (pc' := 14) (v := 1) dX8_pass_13 rfl rfl ?_
        refine g_goto dX8_pass_14 (pc' := 33) (by decide) ?_
        refine gpX8_66 (pc' := 36) rfl dX8_pass_33 rfl l8 ?_
        refine g_aload_n (pc' := 37) dX8_pass_36 rfl rfl ?_
        refine ggX8_66 (pc' := 40) rfl dX8_pass_37 rfl l8 ?_
        rw [fI_at]
        refine g_if_le dX8_pass_40 (tg := 45) (pc' := 43) (by decide) rfl (fun h40 => absurd h40 (by decide)) (fun h40 => ?_)
        refine g_iconst (pc' := 44) (v := 0) dX8_pass_43 rfl rfl ?_
        refine g_iret dX8_pass_44 rfl rfl (Nat.le_of_ble_eq_true rfl) (Nat.le_of_ble_eq_true rfl) ?_
        exact hQ _ 0 hR.code (pK_sfI (by decide)) (aM_t (i := 0) (by decide) rfl)
  · skip
    refine g_aload_n (pc' := 1) dX8_pass_0 rfl rfl ?_
    refine g_iload_n (pc' := 2) dX8_pass_1 rfl rfl ?_
    refine g_iconst (pc' := 3) (v := 1) dX8_pass_2 rfl rfl ?_
    refine g_icmp_lt dX8_pass_3 (tg := 13) (pc' := 6) (by decide) rfl (fun h3 => absurd h3 (by rw [show (1 : Int32) = nI 1 from rfl, nI_ltI (by omega) (by decide)]; omega)) (fun h3 => ?_)
    refine g_iload_n (pc' := 7) dX8_pass_6 rfl rfl ?_
    refine g_sipush (pc' := 10) (v := 5000) dX8_pass_7 rfl rfl ?_
    refine g_icmp_le dX8_pass_10 (tg := 17) (pc' := 13) (by decide) rfl (fun h10 => ?_) (fun h10 => absurd (by rw [show (5000 : Int32) = nI 5000 from rfl, nI_leI (by omega) (by decide)]; exact hk2) h10)
    refine g_aload_n (pc' := 18) dX8_pass_17 rfl rfl ?_
    refine ggX8_173 (pc' := 21) rfl dX8_pass_18 rfl l8 ?_
    refine g_iload_n (pc' := 22) dX8_pass_21 rfl rfl ?_
    refine g_iadd (pc' := 23) dX8_pass_22 rfl ?_
    rw [hnow, nI_add]
    refine g_ldc (pc' := 25) dX8_pass_23 rfl ckX8_156 ?_
    refine g_icmp_lt dX8_pass_25 (tg := 32) (pc' := 28) (by decide) rfl (fun h25 => absurd h25 (by rw [show (20000000 : Int32) = nI 20000000 from rfl, nI_ltI (by omega) (by decide)]; omega)) (fun h25 => ?_)
    refine g_iconst (pc' := 29) (v := 2) dX8_pass_28 rfl rfl ?_
    refine g_goto dX8_pass_29 (pc' := 33) (by decide) ?_
    refine gpX8_66 (pc' := 36) rfl dX8_pass_33 rfl l8 ?_
    refine g_aload_n (pc' := 37) dX8_pass_36 rfl rfl ?_
    refine ggX8_66 (pc' := 40) rfl dX8_pass_37 rfl l8 ?_
    rw [fI_at]
    refine g_if_le dX8_pass_40 (tg := 45) (pc' := 43) (by decide) rfl (fun h40 => absurd h40 (by decide)) (fun h40 => ?_)
    refine g_iconst (pc' := 44) (v := 0) dX8_pass_43 rfl rfl ?_
    refine g_iret dX8_pass_44 rfl rfl (Nat.le_of_ble_eq_true rfl) (Nat.le_of_ble_eq_true rfl) ?_
    exact hQ _ 0 hR.code (pK_sfI (by decide)) (aM_t (i := 1) (by decide) rfl)
  · skip
    refine g_aload_n (pc' := 1) dX8_pass_0 rfl rfl ?_
    refine g_iload_n (pc' := 2) dX8_pass_1 rfl rfl ?_
    refine g_iconst (pc' := 3) (v := 1) dX8_pass_2 rfl rfl ?_
    refine g_icmp_lt dX8_pass_3 (tg := 13) (pc' := 6) (by decide) rfl (fun h3 => absurd h3 (by rw [show (1 : Int32) = nI 1 from rfl, nI_ltI (by omega) (by decide)]; omega)) (fun h3 => ?_)
    refine g_iload_n (pc' := 7) dX8_pass_6 rfl rfl ?_
    refine g_sipush (pc' := 10) (v := 5000) dX8_pass_7 rfl rfl ?_
    refine g_icmp_le dX8_pass_10 (tg := 17) (pc' := 13) (by decide) rfl (fun h10 => ?_) (fun h10 => absurd (by rw [show (5000 : Int32) = nI 5000 from rfl, nI_leI (by omega) (by decide)]; exact hk2) h10)
    refine g_aload_n (pc' := 18) dX8_pass_17 rfl rfl ?_
    refine ggX8_173 (pc' := 21) rfl dX8_pass_18 rfl l8 ?_
    refine g_iload_n (pc' := 22) dX8_pass_21 rfl rfl ?_
    refine g_iadd (pc' := 23) dX8_pass_22 rfl ?_
    rw [hnow, nI_add]
    refine g_ldc (pc' := 25) dX8_pass_23 rfl ckX8_156 ?_
    refine g_icmp_lt dX8_pass_25 (tg := 32) (pc' := 28) (by decide) rfl (fun h25 => ?_) (fun h25 => absurd (by rw [show (20000000 : Int32) = nI 20000000 from rfl, nI_ltI (by omega) (by decide)]; omega) h25)
    refine g_iconst (pc' := 33) (v := 0) dX8_pass_32 rfl rfl ?_
    refine gpX8_66 (pc' := 36) rfl dX8_pass_33 rfl l8 ?_
    refine g_aload_n (pc' := 37) dX8_pass_36 rfl rfl ?_
    refine ggX8_66 (pc' := 40) rfl dX8_pass_37 rfl l8 ?_
    rw [fI_at]
    refine g_if_le dX8_pass_40 (tg := 45) (pc' := 43) (by decide) rfl (fun h40 => ?_) (fun h40 => absurd (by decide) h40)
    refine g_aload_n (pc' := 46) dX8_pass_45 rfl rfl ?_
    refine ggX8_193 (pc' := 49) rfl dX8_pass_46 rfl l8 ?_
    refine g_if_eq dX8_pass_49 (tg := 64) (pc' := 52) (by decide) rfl (fun h49 => absurd h49 (by rw [show fI (sfI S 256 0 0 0) 259 0 0 = fI C 232 0 0 from hR.1.1.2.2.2.1]; exact hdn)) (fun h49 => ?_)
    refine g_aload_n (pc' := 53) dX8_pass_52 rfl rfl ?_
    refine g_aload_n (pc' := 54) dX8_pass_53 rfl rfl ?_
    refine ggX8_173 (pc' := 57) rfl dX8_pass_54 rfl l8 ?_
    rw [show fI (sfI S 256 0 0 0) 257 0 0 = nI m from hnow]
    refine g_iload_n (pc' := 58) dX8_pass_57 rfl rfl ?_
    refine g_iadd (pc' := 59) dX8_pass_58 rfl ?_
    rw [nI_add]
    refine gpX8_173 (pc' := 62) rfl dX8_pass_59 rfl l8 ?_
    refine g_iconst (pc' := 63) (v := 0) dX8_pass_62 rfl rfl ?_
    refine g_iret dX8_pass_63 rfl rfl (Nat.le_of_ble_eq_true rfl) (Nat.le_of_ble_eq_true rfl) ?_
    refine hQ _ _ ?_ ((pK_sfI (by decide)).tr (pK_sfI (by decide))) aM_v
    obtain ⟨q1, q2, q3, q4, q5, q6⟩ := hR.1.1
    exact hR.rn ⟨q1, rfl, q3, q4, q5, q6⟩ rfl (fun g x y hg => fI_ne (by omega)) rfl rfl rfl rfl rfl
  · have LP : ∀ (f i s : Nat) (C' T : gS) (y u : Nat) (w4 : Option gV) (_ : i + f = k) (hG : GoodD C' y u) (hRT : Rel C' T) (hpT : pK S T) (h256 : fI T 256 0 0 = 0) (_ : u + f < 20000000) (_ : y + 18 * f + 60 < 2 ^ 30) (_ : s + 6 * f ≤ 30000) (hv : tPass f s C' = tPass k 0 C), gG E mX8_pass (gBof 9 0 0 ad [] Q) 68 [some (vR 8 0 0), some (vI (nI k)), some (vI (nI s)), some (vI (nI i)), w4] [] T 0 0 := by
      intro f
      induction f with
      | zero =>
        intro i s C' T y u w4 hi hG hRT hpT h256 hu hy hs2 hv
        have e : i = k := by omega
        subst e
        have fin0 : Q (some (vI (nI s))) T := by
          have e1 : tPass 0 s C' = (s, C') := rfl
          rw [e1] at hv
          rw [← hv] at hQ
          exact hQ T _ hRT hpT (h256.symm ▸ aM_v)
        have l8 := (hM.pk hpT).1
        refine g_iload_n (pc' := 69) dX8_pass_68 rfl rfl ?_
        refine g_iload_n (pc' := 70) dX8_pass_69 rfl rfl ?_
        refine g_icmp_ge dX8_pass_70 (tg := 133) (pc' := 73) (by decide) rfl (fun h70 => ?_) (fun h70 => absurd (Int32.le_refl _) h70)
        refine g_iload_n (pc' := 134) dX8_pass_133 rfl rfl ?_
        refine g_iret dX8_pass_134 rfl rfl (Nat.le_of_ble_eq_true rfl) (Nat.le_of_ble_eq_true rfl) ?_
        exact fin0
      | succ f ih =>
        intro i s C' T y u w4 hi hG hRT hpT h256 hu hy hs2 hv
        have hMT0 := hM.pk hpT
        obtain ⟨l8, -⟩ := id hMT0
        obtain ⟨hDT, hdT, hmT, hsT, hs6T, hxT⟩ := id hG
        have hmc : (fI C' 231 0 0).toNatClampNeg = u := by rw [hmT, nI_clamp (by omega)]
        have hnT : fI T 257 0 0 = nI u := hRT.1.1.2.1.trans hmT
        have hj6 := hRT.1.j6
        have htl : tl C' = y := tl_of hxT (by omega)
        have hR1 : Rel (sfI C' 231 0 0 (nI (u + 1))) (sfI T 257 0 0 (nI (u + 1))) := by
          obtain ⟨q1, q2, q3, q4, q5, q6⟩ := hRT.1.1
          exact hRT.rn ⟨q1, rfl, q3, q4, q5, q6⟩ rfl (fun g x y hg => fI_ne (by omega)) rfl rfl rfl rfl rfl
        have IN : ∀ (k2 j : Nat) (T2 : gS) (_ : j + k2 = jn C') (hS2 : R0 (tSJ (u + 1) j (sfI C' 231 0 0 (nI (u + 1)))) T2) (m2 : mK2 (sfI T 257 0 0 (nI (u + 1))) T2), gG E mX8_pass (gBof 9 0 0 ad [] Q) 86 [some (vR 8 0 0), some (vI (nI k)), some (vI (nI s)), some (vI (nI i)), some (vI (nI j))] [] T2 0 0 := by
          intro k2
          induction k2 with
          | zero =>
            intro j T2 hk hS2 m2
            have e : j = jn C' := by omega
            subst e
            have gJ := tSJ_go (m := u + 1) (jn C') (sfI C' 231 0 0 (nI (u + 1)))
            have hMT : ModS T2 := (hMT0.of rfl rfl : ModS (sfI T 257 0 0 (nI (u + 1)))).mk2 m2
            obtain ⟨l8, -⟩ := id hMT
            have hjobs : fI T2 264 0 0 = nI (jn C') := by rw [hS2.jobs, jn_go1 gJ]; rfl
            have hsl0 : slN (tSJ (u + 1) (jn C') (sfI C' 231 0 0 (nI (u + 1)))) = slN C' := (slN_keep (d := d1) gJ.1 rfl).trans rfl
            have hsl2 : slN (tSJ (u + 1) (jn C') (sfI C' 231 0 0 (nI (u + 1)))) ≤ 6 := by rw [hsl0]; exact hs6T
            have hsl1 : fI (tSJ (u + 1) (jn C') (sfI C' 231 0 0 (nI (u + 1)))) 230 0 0 = nI (slN (tSJ (u + 1) (jn C') (sfI C' 231 0 0 (nI (u + 1))))) := by rw [hsl0]; exact (gJ.1.2.2.2.2.1 230 0 0 rfl).trans hsT
            have htl2 := tl_go gJ hR1.1.2.1.1 (by show tl C' + _ < _; omega)
            have htl3 : tl (sfI C' 231 0 0 (nI (u + 1))) = tl C' := rfl
            refine g_iload (pc' := 88) dX8_pass_86 rfl rfl ?_
            refine g_aload_n (pc' := 89) dX8_pass_88 rfl rfl ?_
            refine ggX8_98 (pc' := 92) rfl dX8_pass_89 rfl l8 ?_
            refine g_icmp_ge dX8_pass_92 (tg := 120) (pc' := 95) (by decide) rfl (fun h92 => ?_) (fun h92 => absurd (by rw [hjobs]; exact Int32.le_refl _) h92)
            refine g_iload_n (pc' := 121) dX8_pass_120 rfl rfl ?_
            refine g_aload_n (pc' := 122) dX8_pass_121 rfl rfl ?_
            refine gcv0 (pc' := 125) cwX8_200 cf8 dX8_pass_122 rfl l8 (Nat.le_of_ble_eq_true rfl) (Nat.le_of_ble_eq_true rfl) (Nat.le_of_ble_eq_true rfl) (Nat.le_of_ble_eq_true rfl) (Nat.le_of_ble_eq_true rfl) (kX8_start (C := tSJ (u + 1) (jn C') (sfI C' 231 0 0 (nI (u + 1)))) hMT hS2 hsl1 hsl2 (by omega) ?_)
            intro T3 hT3 m3
            refine g_iadd (pc' := 126) dX8_pass_125 rfl ?_
            rw [nI_add]
            refine gistore_n2 (pc' := 127) dX8_pass_126 rfl (Nat.le_of_ble_eq_true rfl) rfl ?_
            refine giinc3 (pc' := 130) (c := 1) dX8_pass_127 rfl rfl (Nat.le_of_ble_eq_true rfl) rfl ?_
            refine g_goto dX8_pass_130 (pc' := 68) (by decide) ?_
            rw [nI_1]
            have m9 := m2.tr m3.to2
            have e9 : (tStep C') = tStartS (tSJ (u + 1) (jn C') (sfI C' 231 0 0 (nI (u + 1)))) := by rw [tStep, hmc, hmT, nI_1]
            rw [← e9] at hT3 ⊢
            obtain ⟨y2, q1, q2⟩ := tStep_good hG (by omega) (by omega)
            have q3 := tStep_le (S := C') hs6T
            refine ih (i + 1) (s + (tStep C').1) (tStep C').2 _ y2 (u + 1) _ (by omega) q2 (hR1.run ?_ m9 hT3) (hpT.tr ((pK_sfI (by decide)).tr m9.pk)) ((m9.2.2.2.2.1 256 0 0 rfl).trans h256) (by omega) (by omega) (by omega) hv
            rw [e9]
            exact (gJ.1.up (fun _ z => d12 z)).tr ((tStartS_go hsl2).1.up (fun _ z => d12 (d01 z)))
          | succ k2 ih2 =>
            intro j T2 hk hS2 m2
            have gJ := tSJ_go (m := u + 1) j (sfI C' 231 0 0 (nI (u + 1)))
            have hMT : ModS T2 := (hMT0.of rfl rfl : ModS (sfI T 257 0 0 (nI (u + 1)))).mk2 m2
            obtain ⟨l8, -⟩ := id hMT
            have hjobs : fI T2 264 0 0 = nI (jn C') := by rw [hS2.jobs, jn_go1 gJ]; rfl
            have hn2 : fI T2 257 0 0 = nI (u + 1) := (m2.2.2.2.2.1 257 0 0 rfl).trans rfl
            have hj : j < jn C' := by omega
            obtain ⟨yy, L, hx, hx2, hx3⟩ := hR1.2.1 j hj
            have hXT := hx.mk2 m2
            have hEq : eHolds (tSJ (u + 1) j (sfI C' 231 0 0 (nI (u + 1)))) j (u + 1) = mHo yy (u + 1) := by
              rw [eHolds_keep (C := sfI C' 231 0 0 (nI (u + 1))) (by rw [gJ.1.2.2.2.1]) (gJ.1.2.2.2.2.1 33 j 0 rfl)]
              exact RX.holds hx hx2 hx3 (by omega)
            have hjh : j < jn (tHS (tSJ (u + 1) j (sfI C' 231 0 0 (nI (u + 1)))) j (u + 1)) := by rw [jn_go1 (gJ.tr tHS_go)]; exact hj
            have htl2 := tl_go (gJ.tr (tHS_go (j := j) (m := u + 1))) hR1.1.2.1.1 (by show tl C' + _ < _; omega)
            have htl3 : tl (sfI C' 231 0 0 (nI (u + 1))) = tl C' := rfl
            refine g_iload (pc' := 88) dX8_pass_86 rfl rfl ?_
            refine g_aload_n (pc' := 89) dX8_pass_88 rfl rfl ?_
            refine ggX8_98 (pc' := 92) rfl dX8_pass_89 rfl l8 ?_
            refine g_icmp_ge dX8_pass_92 (tg := 120) (pc' := 95) (by decide) rfl (fun h92 => absurd h92 (by rw [hjobs, nI_leI (by omega) (by omega)]; omega)) (fun h92 => ?_)
            refine g_aload_n (pc' := 96) dX8_pass_95 rfl rfl ?_
            refine g_iload (pc' := 98) dX8_pass_96 rfl rfl ?_
            refine g_aload_n (pc' := 99) dX8_pass_98 rfl rfl ?_
            refine ggX8_173 (pc' := 102) rfl dX8_pass_99 rfl l8 ?_
            rw [hn2]
            refine gcv2 (pc' := 105) cwX8_163 cf8 dX8_pass_102 rfl l8 (Nat.le_of_ble_eq_true rfl) (Nat.le_of_ble_eq_true rfl) (Nat.le_of_ble_eq_true rfl) (Nat.le_of_ble_eq_true rfl) (Nat.le_of_ble_eq_true rfl) (kX8_holdsAt hMT hXT (by omega) (by omega) ?_)
            intro T3 hk3
            obtain ⟨l8, -⟩ := id (hMT.mk (mK_dK hk3))
            refine g_if_eq dX8_pass_105 (tg := 114) (pc' := 108) (by decide) rfl (fun h105 => ?_) (fun h105 => ?_)
            · refine giinc4 (pc' := 117) (c := 1) dX8_pass_114 rfl rfl (Nat.le_of_ble_eq_true rfl) rfl ?_
              refine g_goto dX8_pass_117 (pc' := 86) (by decide) ?_
              rw [nI_1]
              first
                | (refine ih2 (j + 1) T3 (by omega) ?_ (m2.tr (mK_dK hk3).to2)
                   rw [tSJ, tHF, if_neg (by rw [hEq, bI_f.mp h105]; decide)]
                   exact (hS2.dk hk3).hs)
                | (skip
                   refine ih2 (j + 1) T4 (by omega) ?_ ((m2.tr (mK_dK hk3).to2).tr m4.to2)
                   rw [tSJ, tHF, if_pos (by rw [hEq]; exact bbp h105)]
                   exact hT4)
            · refine g_aload_n (pc' := 109) dX8_pass_108 rfl rfl ?_
              refine g_iload (pc' := 111) dX8_pass_109 rfl rfl ?_
              refine gcv1 (pc' := 114) cwX8_197 cf8 dX8_pass_111 rfl l8 (Nat.le_of_ble_eq_true rfl) (Nat.le_of_ble_eq_true rfl) (Nat.le_of_ble_eq_true rfl) (Nat.le_of_ble_eq_true rfl) (Nat.le_of_ble_eq_true rfl) (kX8_fire (C := tHS (tSJ (u + 1) j (sfI C' 231 0 0 (nI (u + 1)))) j (u + 1)) (hMT.mk (mK_dK hk3)) (hS2.dk hk3).hs hjh (by omega) ?_)
              intro T4 hT4 m4
              refine giinc4 (pc' := 117) (c := 1) dX8_pass_114 rfl rfl (Nat.le_of_ble_eq_true rfl) rfl ?_
              refine g_goto dX8_pass_117 (pc' := 86) (by decide) ?_
              rw [nI_1]
              first
                | (refine ih2 (j + 1) T3 (by omega) ?_ (m2.tr (mK_dK hk3).to2)
                   rw [tSJ, tHF, if_neg (by rw [hEq, bI_f.mp h105]; decide)]
                   exact (hS2.dk hk3).hs)
                | (skip
                   refine ih2 (j + 1) T4 (by omega) ?_ ((m2.tr (mK_dK hk3).to2).tr m4.to2)
                   rw [tSJ, tHF, if_pos (by rw [hEq]; exact bbp h105)]
                   exact hT4)
        refine g_iload_n (pc' := 69) dX8_pass_68 rfl rfl ?_
        refine g_iload_n (pc' := 70) dX8_pass_69 rfl rfl ?_
        refine g_icmp_ge dX8_pass_70 (tg := 133) (pc' := 73) (by decide) rfl (fun h70 => absurd h70 (by rw [nI_leI (by omega) (by omega)]; omega)) (fun h70 => ?_)
        refine g_aload_n (pc' := 74) dX8_pass_73 rfl rfl ?_
        refine g_aload_n (pc' := 75) dX8_pass_74 rfl rfl ?_
        refine ggX8_173 (pc' := 78) rfl dX8_pass_75 rfl l8 ?_
        rw [hnT]
        refine g_iconst (pc' := 79) (v := 1) dX8_pass_78 rfl rfl ?_
        refine g_iadd (pc' := 80) dX8_pass_79 rfl ?_
        rw [nI_1]
        refine gpX8_173 (pc' := 83) rfl dX8_pass_80 rfl l8 ?_
        refine g_iconst (pc' := 84) (v := 0) dX8_pass_83 rfl rfl ?_
        refine gistore4 (pc' := 86) dX8_pass_84 rfl (Nat.le_of_ble_eq_true rfl) rfl ?_
        exact IN (jn C') 0 _ (by omega) hR1.1 mK.rf.to2
    refine g_aload_n (pc' := 1) dX8_pass_0 rfl rfl ?_
    refine g_iload_n (pc' := 2) dX8_pass_1 rfl rfl ?_
    refine g_iconst (pc' := 3) (v := 1) dX8_pass_2 rfl rfl ?_
    refine g_icmp_lt dX8_pass_3 (tg := 13) (pc' := 6) (by decide) rfl (fun h3 => absurd h3 (by rw [show (1 : Int32) = nI 1 from rfl, nI_ltI (by omega) (by decide)]; omega)) (fun h3 => ?_)
    refine g_iload_n (pc' := 7) dX8_pass_6 rfl rfl ?_
    refine g_sipush (pc' := 10) (v := 5000) dX8_pass_7 rfl rfl ?_
    refine g_icmp_le dX8_pass_10 (tg := 17) (pc' := 13) (by decide) rfl (fun h10 => ?_) (fun h10 => absurd (by rw [show (5000 : Int32) = nI 5000 from rfl, nI_leI (by omega) (by decide)]; exact hk2) h10)
    refine g_aload_n (pc' := 18) dX8_pass_17 rfl rfl ?_
    refine ggX8_173 (pc' := 21) rfl dX8_pass_18 rfl l8 ?_
    refine g_iload_n (pc' := 22) dX8_pass_21 rfl rfl ?_
    refine g_iadd (pc' := 23) dX8_pass_22 rfl ?_
    rw [hnow, nI_add]
    refine g_ldc (pc' := 25) dX8_pass_23 rfl ckX8_156 ?_
    refine g_icmp_lt dX8_pass_25 (tg := 32) (pc' := 28) (by decide) rfl (fun h25 => ?_) (fun h25 => absurd (by rw [show (20000000 : Int32) = nI 20000000 from rfl, nI_ltI (by omega) (by decide)]; omega) h25)
    refine g_iconst (pc' := 33) (v := 0) dX8_pass_32 rfl rfl ?_
    refine gpX8_66 (pc' := 36) rfl dX8_pass_33 rfl l8 ?_
    refine g_aload_n (pc' := 37) dX8_pass_36 rfl rfl ?_
    refine ggX8_66 (pc' := 40) rfl dX8_pass_37 rfl l8 ?_
    rw [fI_at]
    refine g_if_le dX8_pass_40 (tg := 45) (pc' := 43) (by decide) rfl (fun h40 => ?_) (fun h40 => absurd (by decide) h40)
    refine g_aload_n (pc' := 46) dX8_pass_45 rfl rfl ?_
    refine ggX8_193 (pc' := 49) rfl dX8_pass_46 rfl l8 ?_
    refine g_if_eq dX8_pass_49 (tg := 64) (pc' := 52) (by decide) rfl (fun h49 => ?_) (fun h49 => absurd (by rw [show fI (sfI S 256 0 0 0) 259 0 0 = fI C 232 0 0 from hR.1.1.2.2.2.1]; exact hdn) h49)
    refine g_iconst (pc' := 65) (v := 0) dX8_pass_64 rfl rfl ?_
    refine gistore_n2 (pc' := 66) dX8_pass_65 rfl (Nat.le_of_ble_eq_true rfl) rfl ?_
    refine g_iconst (pc' := 67) (v := 0) dX8_pass_66 rfl rfl ?_
    refine gistore_n3 (pc' := 68) dX8_pass_67 rfl (Nat.le_of_ble_eq_true rfl) rfl ?_
    exact LP k 0 0 C _ x m _ (by omega) ⟨hD, hd, hm, hs, hs6, hx⟩ hR.code (pK_sfI (by decide)) rfl (by omega) (by omega) (by omega) rfl

