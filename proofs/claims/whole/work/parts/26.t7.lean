/-! THE CLASS (7): ending, starting, steps -/
theorem tLogS_x {S : gS} {k m j t : Int32} {x : Nat} (hx : fI S 97 0 0 = nI x) (hb : x < 2 ^ 30) : fI (tLogS S k m j t) 97 0 0 = nI (x + 1) := by
  show nI (tl S + 1) = _
  rw [tl_of hx (by omega)]
set_option maxRecDepth 100000 in
set_option maxHeartbeats 2000000 in
theorem kX7_leaveOutBehind {E : gE} {S : gS} {j f x : Nat} {Q : Option gV → gS → Prop} (hD : DeskOk S) (hj : j < jn S) (hf : f < jc S j) (hx : fI S 97 0 0 = nI x) (hb : x + 6 < 2 ^ 30) (hQ : Q none (tLeave j (jc S j - (f + 1)) (f + 1) (1 <<< (nI f &&& 31)) S)) : gRun E mX7_leaveOutBehind 2 0 0 [vR 7 0 0, vI (nI j), vI (nI f)] S [] Q := by
  refine gRun_of (ls := [some (vR 7 0 0), some (vI (nI j)), some (vI (nI f)), none, none, none, none]) rfl (Nat.le_of_ble_eq_true rfl) rfl (fun ad => ?_)
  obtain ⟨l7, l4, l6, l0, l3, l10, l11, l13, l14, r224, r225, r226, r227, r128, r129, r192, r96⟩ := id hD.1
  have hn := hD.2.1
  have hn6 := hD.2.2.1
  obtain ⟨hJ, ra, l1, l12, r65, r32⟩ := hD.2.2.2 j hj
  have l2 := hJ.1
  have hc6 := hJ.2.2.2.2.1
  have L : ∀ (k t : Nat) (lost : Int32) (T : gS) (x' : Nat) (_ : t + k = jc S j) (hDT : DeskOk T) (hjT : j < jn T) (hcT : jc T j = jc S j) (hJT : JobOk T j (jc S j)) (hxT : fI T 97 0 0 = nI x') (hbT : x' + k < 2 ^ 30) (hv : tLeave j k t lost T = tLeave j (jc S j - (f + 1)) (f + 1) (1 <<< (nI f &&& 31)) S) {w6 : Option gV}, gG E mX7_leaveOutBehind (gBof 2 0 0 ad [] Q) 17 [some (vR 7 0 0), some (vI (nI j)), some (vI (nI f)), some (vR 2 j 0), some (vI lost), some (vI (nI t)), w6] [] T 0 0 := by
    intro k
    induction k with
    | zero =>
      intro t lost T x' hk hDT hjT hcT hJT hxT hbT hv w6
      refine g_iload (pc' := 19) dX7_leaveOutBehind_17 rfl rfl ?_
      refine g_aload_n (pc' := 20) dX7_leaveOutBehind_19 rfl rfl ?_
      refine ggX7_93 (pc' := 23) rfl dX7_leaveOutBehind_20 rfl hJT.1 ?_
      refine g_icmp_ge dX7_leaveOutBehind_23 (tg := 94) (pc' := 26) (by decide) rfl (fun h23 => ?_) (fun h23 => absurd (by rw [hJT.2.2.2.1, nI_leI (by omega) (by omega)]; omega) h23)
      refine g_vret dX7_leaveOutBehind_94 rfl (Nat.le_of_ble_eq_true rfl) (Nat.le_of_ble_eq_true rfl) ?_
      exact gqv hQ hv.symm
    | succ k ih =>
      intro t lost T x' hk hDT hjT hcT hJT hxT hbT hv w6
      have htc : t < jc S j := by omega
      refine g_iload (pc' := 19) dX7_leaveOutBehind_17 rfl rfl ?_
      refine g_aload_n (pc' := 20) dX7_leaveOutBehind_19 rfl rfl ?_
      refine ggX7_93 (pc' := 23) rfl dX7_leaveOutBehind_20 rfl hJT.1 ?_
      refine g_icmp_ge dX7_leaveOutBehind_23 (tg := 94) (pc' := 26) (by decide) rfl (fun h23 => absurd h23 (by rw [hJT.2.2.2.1, nI_leI (by omega) (by omega)]; omega)) (fun h23 => ?_)
      refine g_aload_n (pc' := 27) dX7_leaveOutBehind_26 rfl rfl ?_
      refine ggX7_157 (pc' := 30) rfl dX7_leaveOutBehind_27 rfl hJT.1 hJT.2.2.1 ?_
      refine g_iload (pc' := 32) dX7_leaveOutBehind_30 rfl rfl ?_
      refine g_aaldT (pc' := 33) (n := t) dX7_leaveOutBehind_32 rfl (by decide) rfl rfl (show t < 6 by omega) hJT.2.1 (hJT.2.2.2.2.2 t htc).2 ?_
      refine gastore6 (pc' := 35) dX7_leaveOutBehind_33 rfl (Nat.le_of_ble_eq_true rfl) rfl ?_
      refine g_aload (pc' := 37) dX7_leaveOutBehind_35 rfl rfl ?_
      refine ggX7_238 (pc' := 40) rfl dX7_leaveOutBehind_37 rfl (hJT.2.2.2.2.2 t htc).1 ?_
      refine g_iload (pc' := 42) dX7_leaveOutBehind_40 rfl rfl ?_
      refine g_iand (pc' := 43) dX7_leaveOutBehind_42 rfl ?_
      refine g_if_eq dX7_leaveOutBehind_43 (tg := 88) (pc' := 46) (by decide) rfl (fun h43 => ?_) (fun h43 => ?_)
      · refine giinc5 (pc' := 91) (c := 1) dX7_leaveOutBehind_88 rfl rfl (Nat.le_of_ble_eq_true rfl) rfl ?_
        refine g_goto dX7_leaveOutBehind_91 (pc' := 17) (by decide) ?_
        rw [nI_1]
        first
          | (refine ih (t + 1) lost T x' (by omega) hDT hjT hcT hJT hxT (by omega) ?_
             rw [← hv, tLeave, if_pos h43])
          | (refine ih (t + 1) _ T x' (by omega) hDT hjT hcT hJT hxT (by omega) ?_
             rw [← hv, tLeave, if_neg h43, if_pos h62])
          | (have gT := (tGo_sfI (d := d0) (S := T) (g := 163) (j := j) (t := t) (v := 6) rfl (by decide)).tr (tLogS_go (k := 7) (m := fI T 231 0 0) (j := nI j) (t := nI t))
             refine ih (t + 1) _ (tLogS (sfI T 163 j t 6) 7 (fI T 231 0 0) (nI j) (nI t)) (x' + 1) (by omega) (hDT.go gT) (by rw [tKeep_jn (gT.1.up (fun _ z => d12 (d01 z)))]; exact hjT) (by rw [tKeep_jc (gT.1.up (fun _ z => d12 (d01 z)))]; exact hcT) (hJT.keep gT.1 rfl) (tLogS_x hxT (by omega)) (by omega) ?_
             rw [← hv, tLeave, if_neg h43, if_neg h62])
      · refine g_iload (pc' := 48) dX7_leaveOutBehind_46 rfl rfl ?_
        refine g_iconst (pc' := 49) (v := 1) dX7_leaveOutBehind_48 rfl rfl ?_
        refine g_iload (pc' := 51) dX7_leaveOutBehind_49 rfl rfl ?_
        refine g_ishl (pc' := 52) dX7_leaveOutBehind_51 rfl ?_
        refine g_ior (pc' := 53) dX7_leaveOutBehind_52 rfl ?_
        refine gistore4 (pc' := 55) dX7_leaveOutBehind_53 rfl (Nat.le_of_ble_eq_true rfl) rfl ?_
        refine g_aload (pc' := 57) dX7_leaveOutBehind_55 rfl rfl ?_
        refine ggX7_161 (pc' := 60) rfl dX7_leaveOutBehind_57 rfl (hJT.2.2.2.2.2 t htc).1 ?_
        refine g_bipush (pc' := 62) (v := 6) dX7_leaveOutBehind_60 rfl rfl ?_
        refine g_icmp_eq dX7_leaveOutBehind_62 (tg := 88) (pc' := 65) (by decide) rfl (fun h62 => ?_) (fun h62 => ?_)
        · refine giinc5 (pc' := 91) (c := 1) dX7_leaveOutBehind_88 rfl rfl (Nat.le_of_ble_eq_true rfl) rfl ?_
          refine g_goto dX7_leaveOutBehind_91 (pc' := 17) (by decide) ?_
          rw [nI_1]
          first
            | (refine ih (t + 1) lost T x' (by omega) hDT hjT hcT hJT hxT (by omega) ?_
               rw [← hv, tLeave, if_pos h43])
            | (refine ih (t + 1) _ T x' (by omega) hDT hjT hcT hJT hxT (by omega) ?_
               rw [← hv, tLeave, if_neg h43, if_pos h62])
            | (have gT := (tGo_sfI (d := d0) (S := T) (g := 163) (j := j) (t := t) (v := 6) rfl (by decide)).tr (tLogS_go (k := 7) (m := fI T 231 0 0) (j := nI j) (t := nI t))
               refine ih (t + 1) _ (tLogS (sfI T 163 j t 6) 7 (fI T 231 0 0) (nI j) (nI t)) (x' + 1) (by omega) (hDT.go gT) (by rw [tKeep_jn (gT.1.up (fun _ z => d12 (d01 z)))]; exact hjT) (by rw [tKeep_jc (gT.1.up (fun _ z => d12 (d01 z)))]; exact hcT) (hJT.keep gT.1 rfl) (tLogS_x hxT (by omega)) (by omega) ?_
               rw [← hv, tLeave, if_neg h43, if_neg h62])
        · refine g_aload (pc' := 67) dX7_leaveOutBehind_65 rfl rfl ?_
          refine g_bipush (pc' := 69) (v := 6) dX7_leaveOutBehind_67 rfl rfl ?_
          refine gpX7_161 (pc' := 72) rfl dX7_leaveOutBehind_69 rfl (hJT.2.2.2.2.2 t htc).1 ?_
          refine g_aload_n (pc' := 73) dX7_leaveOutBehind_72 rfl rfl ?_
          obtain ⟨l7, l4, l6, l0, l3, l10, l11, l13, l14, r224, r225, r226, r227, r128, r129, r192, r96⟩ := hDT.1
          have l7 : lv (sfI T 163 j t 6) 7 0 0 := l7
          refine ggX7_26 (pc' := 76) rfl dX7_leaveOutBehind_73 rfl l7 r226 ?_
          refine g_bipush (pc' := 78) (v := 7) dX7_leaveOutBehind_76 rfl rfl ?_
          refine g_aload_n (pc' := 79) dX7_leaveOutBehind_78 rfl rfl ?_
          refine ggX7_46 (pc' := 82) rfl dX7_leaveOutBehind_79 rfl l7 ?_
          refine g_iload_n (pc' := 83) dX7_leaveOutBehind_82 rfl rfl ?_
          refine g_iload (pc' := 85) dX7_leaveOutBehind_83 rfl rfl ?_
          refine gcv4 (pc' := 88) cwX7_209 cf3 dX7_leaveOutBehind_85 rfl l3 (Nat.le_of_ble_eq_true rfl) (Nat.le_of_ble_eq_true rfl) (Nat.le_of_ble_eq_true rfl) (Nat.le_of_ble_eq_true rfl) (Nat.le_of_ble_eq_true rfl) (kLog l3 l13 r96 hxT (by omega) ?_)
          refine giinc5 (pc' := 91) (c := 1) dX7_leaveOutBehind_88 rfl rfl (Nat.le_of_ble_eq_true rfl) rfl ?_
          refine g_goto dX7_leaveOutBehind_91 (pc' := 17) (by decide) ?_
          rw [nI_1]
          first
            | (refine ih (t + 1) lost T x' (by omega) hDT hjT hcT hJT hxT (by omega) ?_
               rw [← hv, tLeave, if_pos h43])
            | (refine ih (t + 1) _ T x' (by omega) hDT hjT hcT hJT hxT (by omega) ?_
               rw [← hv, tLeave, if_neg h43, if_pos h62])
            | (have gT := (tGo_sfI (d := d0) (S := T) (g := 163) (j := j) (t := t) (v := 6) rfl (by decide)).tr (tLogS_go (k := 7) (m := fI T 231 0 0) (j := nI j) (t := nI t))
               refine ih (t + 1) _ (tLogS (sfI T 163 j t 6) 7 (fI T 231 0 0) (nI j) (nI t)) (x' + 1) (by omega) (hDT.go gT) (by rw [tKeep_jn (gT.1.up (fun _ z => d12 (d01 z)))]; exact hjT) (by rw [tKeep_jc (gT.1.up (fun _ z => d12 (d01 z)))]; exact hcT) (hJT.keep gT.1 rfl) (tLogS_x hxT (by omega)) (by omega) ?_
               rw [← hv, tLeave, if_neg h43, if_neg h62])
  refine g_aload_n (pc' := 1) dX7_leaveOutBehind_0 rfl rfl ?_
  refine ggX7_32 (pc' := 4) rfl dX7_leaveOutBehind_1 rfl l7 r227 ?_
  refine g_iload_n (pc' := 5) dX7_leaveOutBehind_4 rfl rfl ?_
  refine g_aaldJ (pc' := 6) (n := j) dX7_leaveOutBehind_5 rfl (by decide) rfl rfl (show j < 6 by omega) l14 ra ?_
  refine gastore_n3 (pc' := 7) dX7_leaveOutBehind_6 rfl (Nat.le_of_ble_eq_true rfl) rfl ?_
  refine g_iconst (pc' := 8) (v := 1) dX7_leaveOutBehind_7 rfl rfl ?_
  refine g_iload_n (pc' := 9) dX7_leaveOutBehind_8 rfl rfl ?_
  refine g_ishl (pc' := 10) dX7_leaveOutBehind_9 rfl ?_
  refine gistore4 (pc' := 12) dX7_leaveOutBehind_10 rfl (Nat.le_of_ble_eq_true rfl) rfl ?_
  refine g_iload_n (pc' := 13) dX7_leaveOutBehind_12 rfl rfl ?_
  refine g_iconst (pc' := 14) (v := 1) dX7_leaveOutBehind_13 rfl rfl ?_
  refine g_iadd (pc' := 15) dX7_leaveOutBehind_14 rfl ?_
  refine gistore5 (pc' := 17) dX7_leaveOutBehind_15 rfl (Nat.le_of_ble_eq_true rfl) rfl ?_
  rw [nI_1]
  exact L (jc S j - (f + 1)) (f + 1) _ S x (by omega) hD hj rfl hJ hx (by omega) rfl

set_option maxRecDepth 100000 in
set_option maxHeartbeats 2000000 in
theorem kX7_endTask {E : gE} {S : gS} {j t x : Nat} {w : Int32} {Q : Option gV → gS → Prop} (hD : DeskOk S) (hj : j < jn S) (ht : t < jc S j) (hx : fI S 97 0 0 = nI x) (hb : x + 8 < 2 ^ 30) (hQ : Q none (tEnd S j t w)) : gRun E mX7_endTask 4 0 0 [vR 7 0 0, vI (nI j), vI (nI t), vI w] S [] Q := by
  refine gRun_of (ls := [some (vR 7 0 0), some (vI (nI j)), some (vI (nI t)), some (vI w), none]) rfl (Nat.le_of_ble_eq_true rfl) rfl (fun ad => ?_)
  obtain ⟨l7, l4, l6, l0, l3, l10, l11, l13, l14, r224, r225, r226, r227, r128, r129, r192, r96⟩ := id hD.1
  have hn := hD.2.1
  have hn6 := hD.2.2.1
  obtain ⟨hJ, ra, l1, l12, r65, r32⟩ := hD.2.2.2 j hj
  have l2 := hJ.1
  refine g_aload_n (pc' := 1) dX7_endTask_0 rfl rfl ?_
  refine ggX7_32 (pc' := 4) rfl dX7_endTask_1 rfl l7 r227 ?_
  refine g_iload_n (pc' := 5) dX7_endTask_4 rfl rfl ?_
  refine g_aaldJ (pc' := 6) (n := j) dX7_endTask_5 rfl (by decide) rfl rfl (show j < 6 by omega) l14 ra ?_
  refine ggX7_157 (pc' := 9) rfl dX7_endTask_6 rfl l2 hJ.2.2.1 ?_
  refine g_iload_n (pc' := 10) dX7_endTask_9 rfl rfl ?_
  refine g_aaldT (pc' := 11) (n := t) dX7_endTask_10 rfl (by decide) rfl rfl (show t < 6 by have := hJ.2.2.2.2.1; omega) hJ.2.1 (hJ.2.2.2.2.2 t ht).2 ?_
  refine gastore4 (pc' := 13) dX7_endTask_11 rfl (Nat.le_of_ble_eq_true rfl) rfl ?_
  refine g_iload_n (pc' := 14) dX7_endTask_13 rfl rfl ?_
  refine g_if_eq dX7_endTask_14 (tg := 40) (pc' := 17) (by decide) rfl (fun h14 => ?_) (fun h14 => ?_)
  · refine g_aload (pc' := 42) dX7_endTask_40 rfl rfl ?_
    refine g_aload_n (pc' := 43) dX7_endTask_42 rfl rfl ?_
    refine ggX7_46 (pc' := 46) rfl dX7_endTask_43 rfl l7 ?_
    refine gcv1 (pc' := 49) cwX7_231 cf5 dX7_endTask_46 rfl (hJ.2.2.2.2.2 t ht).1 (Nat.le_of_ble_eq_true rfl) (Nat.le_of_ble_eq_true rfl) (Nat.le_of_ble_eq_true rfl) (Nat.le_of_ble_eq_true rfl) (Nat.le_of_ble_eq_true rfl) (kX5_tryAgain (hJ.2.2.2.2.2 t ht).1 ?_)
    refine g_if_eq dX7_endTask_49 (tg := 69) (pc' := 52) (by decide) rfl (fun h49 => ?_) (fun h49 => ?_)
    · have gT := tTry_go (S := S) (j := j) (t := t) (m := fI S 231 0 0)
      have hDT := hD.go gT
      obtain ⟨y0, hy0, hy1, hy2⟩ := gT.2 x hx (by omega)
      have ey : y0 = x := by omega
      rw [ey] at hy0
      obtain ⟨l7, l4, l6, l0, l3, l10, l11, l13, l14, r224, r225, r226, r227, r128, r129, r192, r96⟩ := hDT.1
      have hjT : j < jn (tTry S j t (fI S 231 0 0)) := by rw [tKeep_jn (gT.1.up (fun _ z => d12 (d01 z)))]; exact hj
      have ecT : jc (tTry S j t (fI S 231 0 0)) j = jc S j := tKeep_jc (gT.1.up (fun _ z => d12 (d01 z))) j
      have htT : t < jc (tTry S j t (fI S 231 0 0)) j := by rw [ecT]; exact ht
      refine g_aload (pc' := 71) dX7_endTask_69 rfl rfl ?_
      refine g_iconst (pc' := 72) (v := 5) dX7_endTask_71 rfl rfl ?_
      refine gpX7_161 (pc' := 75) rfl dX7_endTask_72 rfl ((hDT.2.2.2 j hjT).1.2.2.2.2.2 t htT).1 ?_
      refine g_aload_n (pc' := 76) dX7_endTask_75 rfl rfl ?_
      refine ggX7_26 (pc' := 79) rfl dX7_endTask_76 rfl l7 r226 ?_
      refine g_bipush (pc' := 81) (v := 6) dX7_endTask_79 rfl rfl ?_
      refine g_aload_n (pc' := 82) dX7_endTask_81 rfl rfl ?_
      refine ggX7_46 (pc' := 85) rfl dX7_endTask_82 rfl l7 ?_
      rw [show fI (sfI (tTry S j t (fI S 231 0 0)) 163 j t 5) 231 0 0 = fI S 231 0 0 from gT.1.2.2.2.2.1 231 0 0 rfl]
      refine g_iload_n (pc' := 86) dX7_endTask_85 rfl rfl ?_
      refine g_iload_n (pc' := 87) dX7_endTask_86 rfl rfl ?_
      refine gcv4 (pc' := 90) cwX7_209 cf3 dX7_endTask_87 rfl l3 (Nat.le_of_ble_eq_true rfl) (Nat.le_of_ble_eq_true rfl) (Nat.le_of_ble_eq_true rfl) (Nat.le_of_ble_eq_true rfl) (Nat.le_of_ble_eq_true rfl) (kLog l3 l13 r96 hy0 (by omega) ?_)
      have gT2 := (gT.tr (tGo_sfI (d := d0) (g := 163) (j := j) (t := t) (v := 5) rfl (by decide))).tr (tLogS_go (k := 6) (m := fI S 231 0 0) (j := nI j) (t := nI t))
      have hDT2 := hD.go gT2
      have hjT2 : j < jn (tLogS (sfI (tTry S j t (fI S 231 0 0)) 163 j t 5) 6 (fI S 231 0 0) (nI j) (nI t)) := by rw [tKeep_jn (gT2.1.up (fun _ z => d12 (d01 z)))]; exact hj
      have ecT2 : jc (tLogS (sfI (tTry S j t (fI S 231 0 0)) 163 j t 5) 6 (fI S 231 0 0) (nI j) (nI t)) j = jc S j := tKeep_jc (gT2.1.up (fun _ z => d12 (d01 z))) j
      have htT2 : t < jc (tLogS (sfI (tTry S j t (fI S 231 0 0)) 163 j t 5) 6 (fI S 231 0 0) (nI j) (nI t)) j := by rw [ecT2]; exact ht
      have l7 : lv (tLogS (sfI (tTry S j t (fI S 231 0 0)) 163 j t 5) 6 (fI S 231 0 0) (nI j) (nI t)) 7 0 0 := hDT2.1.1
      refine g_aload_n (pc' := 91) dX7_endTask_90 rfl rfl ?_
      refine g_iload_n (pc' := 92) dX7_endTask_91 rfl rfl ?_
      refine g_iload_n (pc' := 93) dX7_endTask_92 rfl rfl ?_
      refine gcv2 (pc' := 96) cwX7_234 cf7 dX7_endTask_93 rfl l7 (Nat.le_of_ble_eq_true rfl) (Nat.le_of_ble_eq_true rfl) (Nat.le_of_ble_eq_true rfl) (Nat.le_of_ble_eq_true rfl) (Nat.le_of_ble_eq_true rfl) (kX7_leaveOutBehind (x := _) (hDT2) hjT2 htT2 (tLogS_x hy0 (by omega)) (by omega) ?_)
      have gE0 := tEnd0_go (S := S) (j := j) (t := t) (w := w) hJ.2.2.2.2.1
      obtain ⟨y, hy, hy1, hy2⟩ := gE0.2 x hx (by omega)
      have hE1 := hD.go gE0
      have hjE : j < jn (tEnd0 S j t w) := by rw [tKeep_jn (gE0.1.up (fun _ z => d12 (d01 z)))]; exact hj
      have l7 := hE1.1.1
      refine gG.eqS (S' := tEnd0 S j t w) (by
        unfold tEnd0
        first
          | (rw [if_neg h14]; try rfl
             done)
          | (rw [bI_f] at h49
             rw [if_pos h14, if_pos (by simpa using h49)]; try rfl
             done)
          | (rw [bI_f] at h49
             rw [if_pos h14, if_neg (by rw [h49]; decide)]
             rw [ecT2]; try rfl
             done)) ?_
      refine g_aload_n (pc' := 97) dX7_endTask_96 rfl rfl ?_
      refine g_iload_n (pc' := 98) dX7_endTask_97 rfl rfl ?_
      refine gcv1 (pc' := 101) cwX7_216 cf7 dX7_endTask_98 rfl l7 (Nat.le_of_ble_eq_true rfl) (Nat.le_of_ble_eq_true rfl) (Nat.le_of_ble_eq_true rfl) (Nat.le_of_ble_eq_true rfl) (Nat.le_of_ble_eq_true rfl) (kX7_closeRunIfOver hE1 hjE hy (by omega) ?_)
      refine g_vret dX7_endTask_101 rfl (Nat.le_of_ble_eq_true rfl) (Nat.le_of_ble_eq_true rfl) ?_
      exact hQ
    · have gT := tTry_go (S := S) (j := j) (t := t) (m := fI S 231 0 0)
      have hDT := hD.go gT
      obtain ⟨y0, hy0, hy1, hy2⟩ := gT.2 x hx (by omega)
      have ey : y0 = x := by omega
      rw [ey] at hy0
      obtain ⟨l7, l4, l6, l0, l3, l10, l11, l13, l14, r224, r225, r226, r227, r128, r129, r192, r96⟩ := hDT.1
      refine g_aload_n (pc' := 53) dX7_endTask_52 rfl rfl ?_
      refine ggX7_26 (pc' := 56) rfl dX7_endTask_53 rfl l7 r226 ?_
      refine g_iconst (pc' := 57) (v := 5) dX7_endTask_56 rfl rfl ?_
      refine g_aload_n (pc' := 58) dX7_endTask_57 rfl rfl ?_
      refine ggX7_46 (pc' := 61) rfl dX7_endTask_58 rfl l7 ?_
      rw [gT.1.2.2.2.2.1 231 0 0 rfl]
      refine g_iload_n (pc' := 62) dX7_endTask_61 rfl rfl ?_
      refine g_iload_n (pc' := 63) dX7_endTask_62 rfl rfl ?_
      refine gcv4 (pc' := 66) cwX7_209 cf3 dX7_endTask_63 rfl l3 (Nat.le_of_ble_eq_true rfl) (Nat.le_of_ble_eq_true rfl) (Nat.le_of_ble_eq_true rfl) (Nat.le_of_ble_eq_true rfl) (Nat.le_of_ble_eq_true rfl) (kLog l3 l13 r96 hy0 (by omega) ?_)
      refine g_goto dX7_endTask_66 (pc' := 96) (by decide) ?_
      have gE0 := tEnd0_go (S := S) (j := j) (t := t) (w := w) hJ.2.2.2.2.1
      obtain ⟨y, hy, hy1, hy2⟩ := gE0.2 x hx (by omega)
      have hE1 := hD.go gE0
      have hjE : j < jn (tEnd0 S j t w) := by rw [tKeep_jn (gE0.1.up (fun _ z => d12 (d01 z)))]; exact hj
      have l7 := hE1.1.1
      refine gG.eqS (S' := tEnd0 S j t w) (by
        unfold tEnd0
        first
          | (rw [if_neg h14]; try rfl
             done)
          | (rw [bI_f] at h49
             rw [if_pos h14, if_pos (by simpa using h49)]; try rfl
             done)
          | (rw [bI_f] at h49
             rw [if_pos h14, if_neg (by rw [h49]; decide)]
             rw [ecT2]; try rfl
             done)) ?_
      refine g_aload_n (pc' := 97) dX7_endTask_96 rfl rfl ?_
      refine g_iload_n (pc' := 98) dX7_endTask_97 rfl rfl ?_
      refine gcv1 (pc' := 101) cwX7_216 cf7 dX7_endTask_98 rfl l7 (Nat.le_of_ble_eq_true rfl) (Nat.le_of_ble_eq_true rfl) (Nat.le_of_ble_eq_true rfl) (Nat.le_of_ble_eq_true rfl) (Nat.le_of_ble_eq_true rfl) (kX7_closeRunIfOver hE1 hjE hy (by omega) ?_)
      refine g_vret dX7_endTask_101 rfl (Nat.le_of_ble_eq_true rfl) (Nat.le_of_ble_eq_true rfl) ?_
      exact hQ
  · refine g_aload (pc' := 19) dX7_endTask_17 rfl rfl ?_
    refine g_iconst (pc' := 20) (v := 4) dX7_endTask_19 rfl rfl ?_
    refine gpX7_161 (pc' := 23) rfl dX7_endTask_20 rfl (hJ.2.2.2.2.2 t ht).1 ?_
    refine g_aload_n (pc' := 24) dX7_endTask_23 rfl rfl ?_
    refine ggX7_26 (pc' := 27) rfl dX7_endTask_24 rfl l7 r226 ?_
    refine g_iconst (pc' := 28) (v := 4) dX7_endTask_27 rfl rfl ?_
    refine g_aload_n (pc' := 29) dX7_endTask_28 rfl rfl ?_
    refine ggX7_46 (pc' := 32) rfl dX7_endTask_29 rfl l7 ?_
    refine g_iload_n (pc' := 33) dX7_endTask_32 rfl rfl ?_
    refine g_iload_n (pc' := 34) dX7_endTask_33 rfl rfl ?_
    refine gcv4 (pc' := 37) cwX7_209 cf3 dX7_endTask_34 rfl l3 (Nat.le_of_ble_eq_true rfl) (Nat.le_of_ble_eq_true rfl) (Nat.le_of_ble_eq_true rfl) (Nat.le_of_ble_eq_true rfl) (Nat.le_of_ble_eq_true rfl) (kLog (x := x) l3 l13 r96 hx (by omega) ?_)
    refine g_goto dX7_endTask_37 (pc' := 96) (by decide) ?_
    have gE0 := tEnd0_go (S := S) (j := j) (t := t) (w := w) hJ.2.2.2.2.1
    obtain ⟨y, hy, hy1, hy2⟩ := gE0.2 x hx (by omega)
    have hE1 := hD.go gE0
    have hjE : j < jn (tEnd0 S j t w) := by rw [tKeep_jn (gE0.1.up (fun _ z => d12 (d01 z)))]; exact hj
    have l7 := hE1.1.1
    refine gG.eqS (S' := tEnd0 S j t w) (by
      unfold tEnd0
      first
        | (rw [if_neg h14]; try rfl
           done)
        | (rw [bI_f] at h49
           rw [if_pos h14, if_pos (by simpa using h49)]; try rfl
           done)
        | (rw [bI_f] at h49
           rw [if_pos h14, if_neg (by rw [h49]; decide)]
           rw [ecT2]; try rfl
           done)) ?_
    refine g_aload_n (pc' := 97) dX7_endTask_96 rfl rfl ?_
    refine g_iload_n (pc' := 98) dX7_endTask_97 rfl rfl ?_
    refine gcv1 (pc' := 101) cwX7_216 cf7 dX7_endTask_98 rfl l7 (Nat.le_of_ble_eq_true rfl) (Nat.le_of_ble_eq_true rfl) (Nat.le_of_ble_eq_true rfl) (Nat.le_of_ble_eq_true rfl) (Nat.le_of_ble_eq_true rfl) (kX7_closeRunIfOver hE1 hjE hy (by omega) ?_)
    refine g_vret dX7_endTask_101 rfl (Nat.le_of_ble_eq_true rfl) (Nat.le_of_ble_eq_true rfl) ?_
    exact hQ

