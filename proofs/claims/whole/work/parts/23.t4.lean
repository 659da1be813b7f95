/-! THE CLASS (4): Expression, Job -/
def eBit (x : Int64) (n : Nat) : Bool := x.toBitVec.getLsbD n
theorem lcmp0 {a b : Int64} : lg_cmp a b = 0 ↔ a = b := by
  unfold lg_cmp
  constructor
  · intro h
    split at h
    · exact absurd h (by decide)
    · split at h
      · assumption
      · exact absurd h (by decide)
  · rintro rfl
    rw [if_neg Int64.lt_irrefl, if_pos rfl]
theorem eBit_0 {x : Int64} {n : Nat} (hn : n < 64) : lg_cmp ((x.toUInt64 >>> ((nI n).toInt64.toUInt64 &&& Int64.toUInt64 63)).toInt64 &&& 1) 0 = 0 ↔ eBit x n = false := by
  rw [lcmp0, wb_cu n hn]
  exact ts_bit hn (by simp; omega)
def eTime (S : gS) (j t : Nat) : Bool := eBit (aL S 12 j 0) (t % 60) && eBit (aL S 12 j 1) (t / 60)
noncomputable def eDay (S : gS) (j w : Nat) : Bool := eBit (aL S 12 j 3) (dM w) && (if fI S 33 j 0 = 0 then (eBit (aL S 12 j 2) (dD w) || eBit (aL S 12 j 4) ((w + 6) % 7)) else (eBit (aL S 12 j 2) (dD w) && eBit (aL S 12 j 4) ((w + 6) % 7)))
def fT (p : Nat → Bool) : Nat → Nat → Int32
  | 0, _ => -1
  | k + 1, t => if p t = true then nI t else fT p k (t + 1)
set_option maxRecDepth 100000 in
set_option maxHeartbeats 2000000 in
theorem kX1_has {E : gE} {S : gS} {j f n : Nat} {Q : Option gV → gS → Prop} (l1 : lv S 1 j 0) (l12 : lv S 12 j 0) (r32 : fR S 32 j 0 = some (12, j, 0)) (hf : f < 5) (hn : n < 64) (hQ : Q (some (vI (bI (eBit (aL S 12 j f) n)))) S) : gRun E mX1_has 1 0 0 [vR 1 j 0, vI (nI f), vI (nI n)] S [] Q := by
  refine gRun_of (ls := [some (vR 1 j 0), some (vI (nI f)), some (vI (nI n))]) rfl (Nat.le_of_ble_eq_true rfl) rfl (fun ad => ?_)
  refine g_aload_n (pc' := 1) dX1_has_0 rfl rfl ?_
  refine ggX1_15 (pc' := 4) rfl dX1_has_1 rfl l1 r32 ?_
  refine g_iload_n (pc' := 5) dX1_has_4 rfl rfl ?_
  refine g_lald (pc' := 6) (n := f) dX1_has_5 rfl (by decide) rfl rfl (show f < 5 from hf) l12 ?_
  refine g_iload_n (pc' := 7) dX1_has_6 rfl rfl ?_
  refine g_lushr (pc' := 8) dX1_has_7 rfl ?_
  refine g_lconst (pc' := 9) (v := 1) dX1_has_8 rfl rfl ?_
  refine g_land (pc' := 10) dX1_has_9 rfl ?_
  refine g_lconst (pc' := 11) (v := 0) dX1_has_10 rfl rfl ?_
  refine g_lcmp (pc' := 12) dX1_has_11 rfl ?_
  refine g_if_eq dX1_has_12 (tg := 19) (pc' := 15) (by decide) rfl (fun h12 => ?_) (fun h12 => ?_)
  · refine g_iconst (pc' := 20) (v := 0) dX1_has_19 rfl rfl ?_
    refine g_iret dX1_has_20 rfl rfl (Nat.le_of_ble_eq_true rfl) (Nat.le_of_ble_eq_true rfl) ?_
    rw [eBit_0 hn] at h12
    exact gq hQ (by simp only [bI] at *; simp_all)
  · refine g_iconst (pc' := 16) (v := 1) dX1_has_15 rfl rfl ?_
    refine g_goto dX1_has_16 (pc' := 20) (by decide) ?_
    refine g_iret dX1_has_20 rfl rfl (Nat.le_of_ble_eq_true rfl) (Nat.le_of_ble_eq_true rfl) ?_
    rw [eBit_0 hn] at h12
    exact gq hQ (by simp only [bI] at *; simp_all)

set_option maxRecDepth 100000 in
set_option maxHeartbeats 2000000 in
theorem kX1_hasTime {E : gE} {S : gS} {j t : Nat} {Q : Option gV → gS → Prop} (l1 : lv S 1 j 0) (l12 : lv S 12 j 0) (r32 : fR S 32 j 0 = some (12, j, 0)) (ht : t < 1440) (hQ : Q (some (vI (bI (eTime S j t)))) S) : gRun E mX1_hasTime 2 0 0 [vR 1 j 0, vI (nI t)] S [] Q := by
  refine gRun_of (ls := [some (vR 1 j 0), some (vI (nI t))]) rfl (Nat.le_of_ble_eq_true rfl) rfl (fun ad => ?_)
  refine g_aload_n (pc' := 1) dX1_hasTime_0 rfl rfl ?_
  refine g_iconst (pc' := 2) (v := 0) dX1_hasTime_1 rfl rfl ?_
  refine g_iload_n (pc' := 3) dX1_hasTime_2 rfl rfl ?_
  refine g_bipush (pc' := 5) (v := 60) dX1_hasTime_3 rfl rfl ?_
  refine g_irem (pc' := 6) dX1_hasTime_5 rfl (by decide) ?_
  rw [show (60 : Int32) = nI 60 from rfl, nI_rem (by omega) (by decide) (by decide), show (0 : Int32) = nI 0 from rfl]
  refine gcv2 (pc' := 9) cwX1_24 cf1 dX1_hasTime_6 rfl l1 (Nat.le_of_ble_eq_true rfl) (Nat.le_of_ble_eq_true rfl) (Nat.le_of_ble_eq_true rfl) (Nat.le_of_ble_eq_true rfl) (Nat.le_of_ble_eq_true rfl) (kX1_has (f := 0) (n := t % 60) l1 l12 r32 (by omega) (by omega) ?_)
  refine g_if_eq dX1_hasTime_9 (tg := 28) (pc' := 12) (by decide) rfl (fun h9 => ?_) (fun h9 => ?_)
  · refine g_iconst (pc' := 29) (v := 0) dX1_hasTime_28 rfl rfl ?_
    refine g_iret dX1_hasTime_29 rfl rfl (Nat.le_of_ble_eq_true rfl) (Nat.le_of_ble_eq_true rfl) ?_
    simp only [bI_f] at *
    exact gq hQ (by simp_all [bI, eTime])
  · refine g_aload_n (pc' := 13) dX1_hasTime_12 rfl rfl ?_
    refine g_iconst (pc' := 14) (v := 1) dX1_hasTime_13 rfl rfl ?_
    refine g_iload_n (pc' := 15) dX1_hasTime_14 rfl rfl ?_
    refine g_bipush (pc' := 17) (v := 60) dX1_hasTime_15 rfl rfl ?_
    refine g_idiv (pc' := 18) dX1_hasTime_17 rfl (by decide) ?_
    rw [show (60 : Int32) = nI 60 from rfl, pk_div (by omega) (by decide) (by decide), show (1 : Int32) = nI 1 from rfl]
    refine gcv2 (pc' := 21) cwX1_24 cf1 dX1_hasTime_18 rfl l1 (Nat.le_of_ble_eq_true rfl) (Nat.le_of_ble_eq_true rfl) (Nat.le_of_ble_eq_true rfl) (Nat.le_of_ble_eq_true rfl) (Nat.le_of_ble_eq_true rfl) (kX1_has (f := 1) (n := t / 60) l1 l12 r32 (by omega) (by omega) ?_)
    refine g_if_eq dX1_hasTime_21 (tg := 28) (pc' := 24) (by decide) rfl (fun h21 => ?_) (fun h21 => ?_)
    · refine g_iconst (pc' := 29) (v := 0) dX1_hasTime_28 rfl rfl ?_
      refine g_iret dX1_hasTime_29 rfl rfl (Nat.le_of_ble_eq_true rfl) (Nat.le_of_ble_eq_true rfl) ?_
      simp only [bI_f] at *
      exact gq hQ (by simp_all [bI, eTime])
    · refine g_iconst (pc' := 25) (v := 1) dX1_hasTime_24 rfl rfl ?_
      refine g_goto dX1_hasTime_25 (pc' := 29) (by decide) ?_
      refine g_iret dX1_hasTime_29 rfl rfl (Nat.le_of_ble_eq_true rfl) (Nat.le_of_ble_eq_true rfl) ?_
      simp only [bI_f] at *
      exact gq hQ (by simp_all [bI, eTime])

set_option maxRecDepth 100000 in
set_option maxHeartbeats 2000000 in
theorem kX1_hasDay {E : gE} {S : gS} {j w : Nat} {Q : Option gV → gS → Prop} (l1 : lv S 1 j 0) (l12 : lv S 12 j 0) (r32 : fR S 32 j 0 = some (12, j, 0)) (l0 : lv S 0 0 0) (hd : DayOk S w) (hQ : Q (some (vI (bI (eDay S j w)))) S) : gRun E mX1_hasDay 2 0 0 [vR 1 j 0, vR 0 0 0] S [] Q := by
  refine gRun_of (ls := [some (vR 1 j 0), some (vR 0 0 0), none, none]) rfl (Nat.le_of_ble_eq_true rfl) rfl (fun ad => ?_)
  refine g_aload_n (pc' := 1) dX1_hasDay_0 rfl rfl ?_
  refine g_iconst (pc' := 2) (v := 3) dX1_hasDay_1 rfl rfl ?_
  refine g_aload_n (pc' := 3) dX1_hasDay_2 rfl rfl ?_
  refine ggX1_28 (pc' := 6) rfl dX1_hasDay_3 rfl l0 ?_
  rw [hd.2.2.2.1, show (3 : Int32) = nI 3 from rfl]
  have hm := dM_in w
  have hdd := dD_in w
  refine gcv2 (pc' := 9) cwX1_24 cf1 dX1_hasDay_6 rfl l1 (Nat.le_of_ble_eq_true rfl) (Nat.le_of_ble_eq_true rfl) (Nat.le_of_ble_eq_true rfl) (Nat.le_of_ble_eq_true rfl) (Nat.le_of_ble_eq_true rfl) (kX1_has (f := 3) (n := dM w) l1 l12 r32 (by omega) (by omega) ?_)
  refine g_if_ne dX1_hasDay_9 (tg := 14) (pc' := 12) (by decide) rfl (fun h9 => ?_) (fun h9 => ?_)
  · refine g_aload_n (pc' := 15) dX1_hasDay_14 rfl rfl ?_
    refine g_iconst (pc' := 16) (v := 2) dX1_hasDay_15 rfl rfl ?_
    refine g_aload_n (pc' := 17) dX1_hasDay_16 rfl rfl ?_
    refine ggX1_34 (pc' := 20) rfl dX1_hasDay_17 rfl l0 ?_
    rw [hd.2.2.2.2, show (2 : Int32) = nI 2 from rfl]
    refine gcv2 (pc' := 23) cwX1_24 cf1 dX1_hasDay_20 rfl l1 (Nat.le_of_ble_eq_true rfl) (Nat.le_of_ble_eq_true rfl) (Nat.le_of_ble_eq_true rfl) (Nat.le_of_ble_eq_true rfl) (Nat.le_of_ble_eq_true rfl) (kX1_has (f := 2) (n := dD w) l1 l12 r32 (by omega) (by omega) ?_)
    refine gistore_n2 (pc' := 24) dX1_hasDay_23 rfl (Nat.le_of_ble_eq_true rfl) rfl ?_
    refine g_aload_n (pc' := 25) dX1_hasDay_24 rfl rfl ?_
    refine g_iconst (pc' := 26) (v := 4) dX1_hasDay_25 rfl rfl ?_
    refine g_aload_n (pc' := 27) dX1_hasDay_26 rfl rfl ?_
    refine gcv0 (pc' := 30) cwX1_37 cf0 dX1_hasDay_27 rfl l0 (Nat.le_of_ble_eq_true rfl) (Nat.le_of_ble_eq_true rfl) (Nat.le_of_ble_eq_true rfl) (Nat.le_of_ble_eq_true rfl) (Nat.le_of_ble_eq_true rfl) (kX0_weekday (w := w) l0 hd.2.1 (by have := hd.1; omega) ?_)
    rw [show (4 : Int32) = nI 4 from rfl]
    refine gcv2 (pc' := 33) cwX1_24 cf1 dX1_hasDay_30 rfl l1 (Nat.le_of_ble_eq_true rfl) (Nat.le_of_ble_eq_true rfl) (Nat.le_of_ble_eq_true rfl) (Nat.le_of_ble_eq_true rfl) (Nat.le_of_ble_eq_true rfl) (kX1_has (f := 4) (n := (w + 6) % 7) l1 l12 r32 (by omega) (by omega) ?_)
    refine gistore_n3 (pc' := 34) dX1_hasDay_33 rfl (Nat.le_of_ble_eq_true rfl) rfl ?_
    refine g_aload_n (pc' := 35) dX1_hasDay_34 rfl rfl ?_
    refine ggX1_20 (pc' := 38) rfl dX1_hasDay_35 rfl l1 ?_
    refine g_if_eq dX1_hasDay_38 (tg := 57) (pc' := 41) (by decide) rfl (fun h38 => ?_) (fun h38 => ?_)
    · refine g_iload_n (pc' := 58) dX1_hasDay_57 rfl rfl ?_
      refine g_if_ne dX1_hasDay_58 (tg := 65) (pc' := 61) (by decide) rfl (fun h58 => ?_) (fun h58 => ?_)
      · refine g_iconst (pc' := 66) (v := 1) dX1_hasDay_65 rfl rfl ?_
        refine g_goto dX1_hasDay_66 (pc' := 70) (by decide) ?_
        refine g_iret dX1_hasDay_70 rfl rfl (Nat.le_of_ble_eq_true rfl) (Nat.le_of_ble_eq_true rfl) ?_
        simp only [bI_f] at *
        exact gq hQ (by simp_all [bI, eDay])
      · refine g_iload_n (pc' := 62) dX1_hasDay_61 rfl rfl ?_
        refine g_if_eq dX1_hasDay_62 (tg := 69) (pc' := 65) (by decide) rfl (fun h62 => ?_) (fun h62 => ?_)
        · refine g_iconst (pc' := 70) (v := 0) dX1_hasDay_69 rfl rfl ?_
          refine g_iret dX1_hasDay_70 rfl rfl (Nat.le_of_ble_eq_true rfl) (Nat.le_of_ble_eq_true rfl) ?_
          simp only [bI_f] at *
          exact gq hQ (by simp_all [bI, eDay])
        · refine g_iconst (pc' := 66) (v := 1) dX1_hasDay_65 rfl rfl ?_
          refine g_goto dX1_hasDay_66 (pc' := 70) (by decide) ?_
          refine g_iret dX1_hasDay_70 rfl rfl (Nat.le_of_ble_eq_true rfl) (Nat.le_of_ble_eq_true rfl) ?_
          simp only [bI_f] at *
          exact gq hQ (by simp_all [bI, eDay])
    · refine g_iload_n (pc' := 42) dX1_hasDay_41 rfl rfl ?_
      refine g_if_eq dX1_hasDay_42 (tg := 53) (pc' := 45) (by decide) rfl (fun h42 => ?_) (fun h42 => ?_)
      · refine g_iconst (pc' := 54) (v := 0) dX1_hasDay_53 rfl rfl ?_
        refine g_goto dX1_hasDay_54 (pc' := 70) (by decide) ?_
        refine g_iret dX1_hasDay_70 rfl rfl (Nat.le_of_ble_eq_true rfl) (Nat.le_of_ble_eq_true rfl) ?_
        simp only [bI_f] at *
        exact gq hQ (by simp_all [bI, eDay])
      · refine g_iload_n (pc' := 46) dX1_hasDay_45 rfl rfl ?_
        refine g_if_eq dX1_hasDay_46 (tg := 53) (pc' := 49) (by decide) rfl (fun h46 => ?_) (fun h46 => ?_)
        · refine g_iconst (pc' := 54) (v := 0) dX1_hasDay_53 rfl rfl ?_
          refine g_goto dX1_hasDay_54 (pc' := 70) (by decide) ?_
          refine g_iret dX1_hasDay_70 rfl rfl (Nat.le_of_ble_eq_true rfl) (Nat.le_of_ble_eq_true rfl) ?_
          simp only [bI_f] at *
          exact gq hQ (by simp_all [bI, eDay])
        · refine g_iconst (pc' := 50) (v := 1) dX1_hasDay_49 rfl rfl ?_
          refine g_goto dX1_hasDay_50 (pc' := 70) (by decide) ?_
          refine g_iret dX1_hasDay_70 rfl rfl (Nat.le_of_ble_eq_true rfl) (Nat.le_of_ble_eq_true rfl) ?_
          simp only [bI_f] at *
          exact gq hQ (by simp_all [bI, eDay])
  · refine g_iconst (pc' := 13) (v := 0) dX1_hasDay_12 rfl rfl ?_
    refine g_iret dX1_hasDay_13 rfl rfl (Nat.le_of_ble_eq_true rfl) (Nat.le_of_ble_eq_true rfl) ?_
    simp only [bI_f] at *
    exact gq hQ (by simp_all [bI, eDay])

set_option maxRecDepth 100000 in
set_option maxHeartbeats 2000000 in
theorem kX1_firstTime {E : gE} {S : gS} {j t : Nat} {Q : Option gV → gS → Prop} (l1 : lv S 1 j 0) (l12 : lv S 12 j 0) (r32 : fR S 32 j 0 = some (12, j, 0)) (ht : t ≤ 1440) (hQ : Q (some (vI (fT (eTime S j) (1440 - t) t))) S) : gRun E mX1_firstTime 3 0 0 [vR 1 j 0, vI (nI t)] S [] Q := by
  refine gRun_of (ls := [some (vR 1 j 0), some (vI (nI t)), none]) rfl (Nat.le_of_ble_eq_true rfl) rfl (fun ad => ?_)
  have L : ∀ k i : Nat, i + k = 1440 → fT (eTime S j) k i = fT (eTime S j) (1440 - t) t → gG E mX1_firstTime (gBof 3 0 0 ad [] Q) 2 [some (vR 1 j 0), some (vI (nI t)), some (vI (nI i))] [] S 0 0 := by
    intro k
    induction k with
    | zero =>
      intro i hk hv
      have hend : True → Q (some (vI (-1))) S := fun _ => gq hQ hv.symm
      refine g_iload_n (pc' := 3) dX1_firstTime_2 rfl rfl ?_
      refine g_sipush (pc' := 6) (v := 1440) dX1_firstTime_3 rfl rfl ?_
      refine g_icmp_ge dX1_firstTime_6 (tg := 25) (pc' := 9) (by decide) rfl (fun h6 => ?_) (fun h6 => absurd (by rw [show (1440 : Int32) = nI 1440 from rfl, nI_leI (by decide) (by omega)]; omega) h6)
      refine g_iconst (pc' := 26) (v := (-1)) dX1_firstTime_25 rfl rfl ?_
      refine g_iret dX1_firstTime_26 rfl rfl (Nat.le_of_ble_eq_true rfl) (Nat.le_of_ble_eq_true rfl) ?_
      exact hend trivial
    | succ k ih =>
      intro i hk hv
      refine g_iload_n (pc' := 3) dX1_firstTime_2 rfl rfl ?_
      refine g_sipush (pc' := 6) (v := 1440) dX1_firstTime_3 rfl rfl ?_
      refine g_icmp_ge dX1_firstTime_6 (tg := 25) (pc' := 9) (by decide) rfl (fun h6 => absurd h6 (by rw [show (1440 : Int32) = nI 1440 from rfl, nI_leI (by decide) (by omega)]; omega)) (fun h6 => ?_)
      refine g_aload_n (pc' := 10) dX1_firstTime_9 rfl rfl ?_
      refine g_iload_n (pc' := 11) dX1_firstTime_10 rfl rfl ?_
      refine gcv1 (pc' := 14) cwX1_41 cf1 dX1_firstTime_11 rfl l1 (Nat.le_of_ble_eq_true rfl) (Nat.le_of_ble_eq_true rfl) (Nat.le_of_ble_eq_true rfl) (Nat.le_of_ble_eq_true rfl) (Nat.le_of_ble_eq_true rfl) (kX1_hasTime (t := i) l1 l12 r32 (by omega) ?_)
      refine g_if_eq dX1_firstTime_14 (tg := 19) (pc' := 17) (by decide) rfl (fun h14 => ?_) (fun h14 => ?_)
      · refine giinc2 (pc' := 22) (c := 1) dX1_firstTime_19 rfl rfl (Nat.le_of_ble_eq_true rfl) rfl ?_
        refine g_goto dX1_firstTime_22 (pc' := 2) (by decide) ?_
        rw [bI_f] at h14
        rw [nI_1]
        exact ih (i + 1) (by omega) (by rw [← hv, fT, if_neg (by simp [h14])])
      · refine g_iload_n (pc' := 18) dX1_firstTime_17 rfl rfl ?_
        refine g_iret dX1_firstTime_18 rfl rfl (Nat.le_of_ble_eq_true rfl) (Nat.le_of_ble_eq_true rfl) ?_
        rw [bI_f] at h14
        exact gq hQ (by rw [← hv, fT, if_pos (by simpa using h14)])
  refine g_iload_n (pc' := 1) dX1_firstTime_0 rfl rfl ?_
  refine gistore_n2 (pc' := 2) dX1_firstTime_1 rfl (Nat.le_of_ble_eq_true rfl) rfl ?_
  exact L (1440 - t) t (by omega) rfl

set_option maxRecDepth 100000 in
set_option maxHeartbeats 2000000 in
theorem kX1_init {E : gE} {S : gS} {j : Nat} {b : Int32} {Q : Option gV → gS → Prop} (l1 : lv S 1 j 0) (l11 : lv S 11 0 0) (hf : (12, j, 0) ∉ gL S) (hb : b = 0 ∨ b = 1) (hQ : Q none (sfI (sfR (scl S 11 0 12 j) 32 j 0 (some (12, j, 0))) 33 j 0 b)) : gRun E mX1_init 2 1 5 [vR 1 j 0, vR 11 0 0, vI b] S [(12, j, 0)] Q := by
  refine gRun_of (ls := [some (vR 1 j 0), some (vR 11 0 0), some (vI b)]) rfl (Nat.le_of_ble_eq_true rfl) rfl (fun ad => ?_)
  refine g_aload_n (pc' := 1) dX1_init_0 rfl rfl ?_
  refine g_objInit (pc' := 4) oiX1 oi1 oi2 dX1_init_1 rfl (Nat.le_of_ble_eq_true rfl) (Nat.le_of_ble_eq_true rfl) ?_
  refine g_aload_n (pc' := 5) dX1_init_4 rfl rfl ?_
  refine g_aload_n (pc' := 6) dX1_init_5 rfl rfl ?_
  refine g_clone (pc' := 9) (k0 := 11) (j0 := 0) (k := 12) (j := j) rfl dX1_init_6 rfl (by decide) rfl (by decide) rfl rfl l11 hf (List.mem_singleton.mpr rfl) (by simp [gNo]) (by simp [gNo]) (Nat.le_of_ble_eq_true rfl) (Nat.le_of_ble_eq_true rfl) (Nat.le_of_ble_eq_true rfl) (Nat.le_of_ble_eq_true rfl) ?_
  have l1 : lv (scl S 11 0 12 j) 1 j 0 := List.mem_append_left _ l1
  have l12 : lv (scl S 11 0 12 j) 12 j 0 := List.mem_append_right _ (List.mem_singleton.mpr rfl)
  refine g_castA (pc' := 12) (by decide) rfl clX1_10 dX1_init_9 rfl l12 ?_
  refine gpX1_15 (pc' := 15) rfl rfl dX1_init_12 rfl l1 l12 ?_
  refine g_aload_n (pc' := 16) dX1_init_15 rfl rfl ?_
  refine g_iload_n (pc' := 17) dX1_init_16 rfl rfl ?_
  refine gpX1_20 (pc' := 20) rfl rfl dX1_init_17 rfl l1 hb ?_
  refine g_vret dX1_init_20 rfl (Nat.le_of_ble_eq_true rfl) (Nat.le_of_ble_eq_true rfl) ?_
  exact hQ

def JobOk (S : gS) (j c : Nat) : Prop := lv S 2 j 0 ∧ lv S 15 j 0 ∧ fR S 66 j 0 = some (15, j, 0) ∧ fI S 67 j 0 = nI c ∧ c ≤ 6 ∧ ∀ t, t < c → lv S 5 j t ∧ aR S 15 j t = some (5, j, t)
def tAllB (S : gS) (j : Nat) : Nat → gS
  | 0 => S
  | n + 1 => tBegin (tAllB S j n) j n
theorem tAllB_st (S : gS) (j : Nat) : ∀ n, (tAllB S j n).2 = S.2
  | 0 => rfl
  | n + 1 => tAllB_st S j n
theorem tAllB_I (S : gS) (j : Nat) {g j' t' : Nat} (h1 : ¬ g = 163) (h2 : ¬ g = 164) : ∀ n, fI (tAllB S j n) g j' t' = fI S g j' t'
  | 0 => rfl
  | n + 1 => by
    rw [tAllB, tBegin, fI_sfI, if_neg (fun z => h2 z.1), fI_sfI, if_neg (fun z => h1 z.1)]
    exact tAllB_I S j h1 h2 n
theorem JobOk.of {S S' : gS} {j c : Nat} (h : JobOk S j c) (h2 : S'.2 = S.2) (h3 : fI S' 67 j 0 = fI S 67 j 0) : JobOk S' j c := by
  obtain ⟨a1, a2, a3, a4, a5, a6⟩ := h
  have e1 : gL S' = gL S := congrArg (fun z => z.2.2.2.2) h2
  have e2 : fR S' = fR S := congrArg (fun z => z.1) h2
  have e3 : aR S' = aR S := congrArg (fun z => z.2.2.2.1) h2
  exact ⟨by rw [lv, e1]; exact a1, by rw [lv, e1]; exact a2, by rw [e2]; exact a3, by rw [h3]; exact a4, a5, fun t ht => ⟨by rw [lv, e1]; exact (a6 t ht).1, by rw [e3]; exact (a6 t ht).2⟩⟩
def tJBegin (S : gS) (j c : Nat) : gS := tAllB (sfI (sfI S 69 j 0 (fI S 69 j 0 + 1)) 68 j 0 1) j c
def tCR (S : gS) (j : Nat) : Nat → Nat
  | 0 => 0
  | n + 1 => if fI S 163 j n = 3 then tCR S j n + 1 else tCR S j n
theorem tCR_le (S : gS) (j : Nat) : ∀ n, tCR S j n ≤ n
  | 0 => Nat.le_refl _
  | n + 1 => by have := tCR_le S j n; unfold tCR; split <;> omega
def tDone (S : gS) (j : Nat) : Nat → Int32
  | 0 => 0
  | n + 1 => if fI S 163 j n = 4 then tDone S j n ||| (1 <<< (nI n &&& 31)) else tDone S j n
def tFR (S : gS) (j : Nat) (now : Int32) : Nat → Nat → Int32
  | 0, _ => -1
  | k + 1, t => if tReady S j t now (tDone S j t) = true then nI t else tFR S j now k (t + 1)
set_option maxRecDepth 100000 in
set_option maxHeartbeats 2000000 in
theorem kX2_allTasks {E : gE} {S : gS} {j c : Nat} {Q : Option gV → gS → Prop} (hJ : JobOk S j c) (hQ : Q (some (vI (nI (2 ^ c - 1)))) S) : gRun E mX2_allTasks 1 0 0 [vR 2 j 0] S [] Q := by
  refine gRun_of (ls := [some (vR 2 j 0)]) rfl (Nat.le_of_ble_eq_true rfl) rfl (fun ad => ?_)
  obtain ⟨l2, l15, r66, hc, hc6, ht⟩ := id hJ
  refine g_iconst (pc' := 1) (v := 1) dX2_allTasks_0 rfl rfl ?_
  refine g_aload_n (pc' := 2) dX2_allTasks_1 rfl rfl ?_
  refine ggX2_17 (pc' := 5) rfl dX2_allTasks_2 rfl l2 ?_
  refine g_ishl (pc' := 6) dX2_allTasks_5 rfl ?_
  refine g_iconst (pc' := 7) (v := 1) dX2_allTasks_6 rfl rfl ?_
  refine g_isub (pc' := 8) dX2_allTasks_7 rfl ?_
  refine g_iret dX2_allTasks_8 rfl rfl (Nat.le_of_ble_eq_true rfl) (Nat.le_of_ble_eq_true rfl) ?_
  exact gq hQ (by rw [hc]; exact (by decide : ∀ c, c < 7 → nI (2 ^ c - 1) = 1 <<< (nI c &&& 31) - 1) c (by omega))

set_option maxRecDepth 100000 in
set_option maxHeartbeats 2000000 in
theorem kX2_addTask {E : gE} {S : gS} {j c : Nat} {Q : Option gV → gS → Prop} (hJ : JobOk S j c) (hc5 : c < 6) (l5 : lv S 5 j c) (hQ : Q (some (vI (nI c))) (sfI (saR S 15 j c (some (5, j, c))) 67 j 0 (nI (c + 1)))) : gRun E mX2_addTask 1 0 0 [vR 2 j 0, vR 5 j c] S [] Q := by
  refine gRun_of (ls := [some (vR 2 j 0), some (vR 5 j c)]) rfl (Nat.le_of_ble_eq_true rfl) rfl (fun ad => ?_)
  obtain ⟨l2, l15, r66, hc, hc6, ht⟩ := id hJ
  refine g_aload_n (pc' := 1) dX2_addTask_0 rfl rfl ?_
  refine ggX2_11 (pc' := 4) rfl dX2_addTask_1 rfl l2 r66 ?_
  refine g_aload_n (pc' := 5) dX2_addTask_4 rfl rfl ?_
  refine ggX2_17 (pc' := 8) rfl dX2_addTask_5 rfl l2 ?_
  refine g_aload_n (pc' := 9) dX2_addTask_8 rfl rfl ?_
  refine g_aastT (pc' := 10) (n := c) dX2_addTask_9 rfl (by decide) rfl hc (show c < 6 from hc5) l15 l5 ?_
  refine g_aload_n (pc' := 11) dX2_addTask_10 rfl rfl ?_
  refine g_dup (pc' := 12) dX2_addTask_11 rfl rfl ?_
  refine ggX2_17 (pc' := 15) rfl dX2_addTask_12 rfl l2 ?_
  refine g_dup_x1 (pc' := 16) dX2_addTask_15 rfl rfl rfl ?_
  refine g_iconst (pc' := 17) (v := 1) dX2_addTask_16 rfl rfl ?_
  refine g_iadd (pc' := 18) dX2_addTask_17 rfl ?_
  refine gpX2_17 (pc' := 21) rfl dX2_addTask_18 rfl l2 ?_
  refine g_iret dX2_addTask_21 rfl rfl (Nat.le_of_ble_eq_true rfl) (Nat.le_of_ble_eq_true rfl) ?_
  exact gq2 hQ hc.symm (by rw [← nI_1, ← hc]; rfl)

set_option maxRecDepth 100000 in
set_option maxHeartbeats 2000000 in
theorem kX2_begin {E : gE} {S : gS} {j c : Nat} {Q : Option gV → gS → Prop} (hJ : JobOk S j c) (hQ : Q none (tJBegin S j c)) : gRun E mX2_begin 2 0 0 [vR 2 j 0] S [] Q := by
  refine gRun_of (ls := [some (vR 2 j 0), none]) rfl (Nat.le_of_ble_eq_true rfl) rfl (fun ad => ?_)
  obtain ⟨l2, l15, r66, hc, hc6, ht⟩ := id hJ
  have L : ∀ k i : Nat, i + k = c → gG E mX2_begin (gBof 2 0 0 ad [] Q) 17 [some (vR 2 j 0), some (vI (nI i))] [] (tAllB (sfI (sfI S 69 j 0 (fI S 69 j 0 + 1)) 68 j 0 1) j i) 0 0 := by
    intro k
    induction k with
    | zero =>
      intro i hk
      have hJ1 : JobOk (tAllB (sfI (sfI S 69 j 0 (fI S 69 j 0 + 1)) 68 j 0 1) j i) j c := hJ.of (tAllB_st _ j i) (tAllB_I _ j (by decide) (by decide) i)
      refine g_iload_n (pc' := 18) dX2_begin_17 rfl rfl ?_
      refine g_aload_n (pc' := 19) dX2_begin_18 rfl rfl ?_
      refine ggX2_17 (pc' := 22) rfl dX2_begin_19 rfl hJ1.1 ?_
      refine g_icmp_ge dX2_begin_22 (tg := 40) (pc' := 25) (by decide) rfl (fun h22 => ?_) (fun h22 => absurd (by rw [hJ1.2.2.2.1, nI_leI (by omega) (by omega)]; omega) h22)
      refine g_vret dX2_begin_40 rfl (Nat.le_of_ble_eq_true rfl) (Nat.le_of_ble_eq_true rfl) ?_
      have e : i = c := by omega
      subst e
      exact hQ
    | succ k ih =>
      intro i hk
      have hJ1 : JobOk (tAllB (sfI (sfI S 69 j 0 (fI S 69 j 0 + 1)) 68 j 0 1) j i) j c := hJ.of (tAllB_st _ j i) (tAllB_I _ j (by decide) (by decide) i)
      refine g_iload_n (pc' := 18) dX2_begin_17 rfl rfl ?_
      refine g_aload_n (pc' := 19) dX2_begin_18 rfl rfl ?_
      refine ggX2_17 (pc' := 22) rfl dX2_begin_19 rfl hJ1.1 ?_
      refine g_icmp_ge dX2_begin_22 (tg := 40) (pc' := 25) (by decide) rfl (fun h22 => absurd h22 (by rw [hJ1.2.2.2.1, nI_leI (by omega) (by omega)]; omega)) (fun h22 => ?_)
      refine g_aload_n (pc' := 26) dX2_begin_25 rfl rfl ?_
      refine ggX2_11 (pc' := 29) rfl dX2_begin_26 rfl hJ1.1 hJ1.2.2.1 ?_
      refine g_iload_n (pc' := 30) dX2_begin_29 rfl rfl ?_
      refine g_aaldT (pc' := 31) (n := i) dX2_begin_30 rfl (by decide) rfl rfl (show i < 6 by omega) hJ1.2.1 (hJ1.2.2.2.2.2 i (by omega)).2 ?_
      refine gcv0 (pc' := 34) cwX2_38 cf5 dX2_begin_31 rfl (hJ1.2.2.2.2.2 i (by omega)).1 (Nat.le_of_ble_eq_true rfl) (Nat.le_of_ble_eq_true rfl) (Nat.le_of_ble_eq_true rfl) (Nat.le_of_ble_eq_true rfl) (Nat.le_of_ble_eq_true rfl) (kX5_begin (hJ1.2.2.2.2.2 i (by omega)).1 ?_)
      refine giinc1 (pc' := 37) (c := 1) dX2_begin_34 rfl rfl (Nat.le_of_ble_eq_true rfl) rfl ?_
      refine g_goto dX2_begin_37 (pc' := 17) (by decide) ?_
      rw [nI_1]
      exact ih (i + 1) (by omega)
  refine g_aload_n (pc' := 1) dX2_begin_0 rfl rfl ?_
  refine g_dup (pc' := 2) dX2_begin_1 rfl rfl ?_
  refine ggX2_25 (pc' := 5) rfl dX2_begin_2 rfl l2 ?_
  refine g_iconst (pc' := 6) (v := 1) dX2_begin_5 rfl rfl ?_
  refine g_iadd (pc' := 7) dX2_begin_6 rfl ?_
  refine gpX2_25 (pc' := 10) rfl dX2_begin_7 rfl l2 ?_
  refine g_aload_n (pc' := 11) dX2_begin_10 rfl rfl ?_
  refine g_iconst (pc' := 12) (v := 1) dX2_begin_11 rfl rfl ?_
  refine gpX2_21 (pc' := 15) rfl dX2_begin_12 rfl l2 (Or.inr rfl) ?_
  refine g_iconst (pc' := 16) (v := 0) dX2_begin_15 rfl rfl ?_
  refine gistore_n1 (pc' := 17) dX2_begin_16 rfl (Nat.le_of_ble_eq_true rfl) rfl ?_
  exact L c 0 (by omega)

set_option maxRecDepth 100000 in
set_option maxHeartbeats 2000000 in
theorem kX2_isAllOver {E : gE} {S : gS} {j c : Nat} {Q : Option gV → gS → Prop} (hJ : JobOk S j c) (hQ : Q (some (vI (bI (decide (∀ t, t < c → tOver S j t = true))))) S) : gRun E mX2_isAllOver 2 0 0 [vR 2 j 0] S [] Q := by
  refine gRun_of (ls := [some (vR 2 j 0), none]) rfl (Nat.le_of_ble_eq_true rfl) rfl (fun ad => ?_)
  obtain ⟨l2, l15, r66, hc, hc6, ht⟩ := id hJ
  have L : ∀ k i : Nat, i + k = c → (∀ t, t < i → tOver S j t = true) → gG E mX2_isAllOver (gBof 2 0 0 ad [] Q) 2 [some (vR 2 j 0), some (vI (nI i))] [] S 0 0 := by
    intro k
    induction k with
    | zero =>
      intro i hk hv
      refine g_iload_n (pc' := 3) dX2_isAllOver_2 rfl rfl ?_
      refine g_aload_n (pc' := 4) dX2_isAllOver_3 rfl rfl ?_
      refine ggX2_17 (pc' := 7) rfl dX2_isAllOver_4 rfl l2 ?_
      refine g_icmp_ge dX2_isAllOver_7 (tg := 30) (pc' := 10) (by decide) rfl (fun h7 => ?_) (fun h7 => absurd (by rw [hc, nI_leI (by omega) (by omega)]; omega) h7)
      refine g_iconst (pc' := 31) (v := 1) dX2_isAllOver_30 rfl rfl ?_
      refine g_iret dX2_isAllOver_31 rfl rfl (Nat.le_of_ble_eq_true rfl) (Nat.le_of_ble_eq_true rfl) ?_
      exact gq hQ (bd_t (fun t ht => hv t (by omega)))
    | succ k ih =>
      intro i hk hv
      refine g_iload_n (pc' := 3) dX2_isAllOver_2 rfl rfl ?_
      refine g_aload_n (pc' := 4) dX2_isAllOver_3 rfl rfl ?_
      refine ggX2_17 (pc' := 7) rfl dX2_isAllOver_4 rfl l2 ?_
      refine g_icmp_ge dX2_isAllOver_7 (tg := 30) (pc' := 10) (by decide) rfl (fun h7 => absurd h7 (by rw [hc, nI_leI (by omega) (by omega)]; omega)) (fun h7 => ?_)
      refine g_aload_n (pc' := 11) dX2_isAllOver_10 rfl rfl ?_
      refine ggX2_11 (pc' := 14) rfl dX2_isAllOver_11 rfl l2 r66 ?_
      refine g_iload_n (pc' := 15) dX2_isAllOver_14 rfl rfl ?_
      refine g_aaldT (pc' := 16) (n := i) dX2_isAllOver_15 rfl (by decide) rfl rfl (show i < 6 by omega) l15 (ht i (by omega)).2 ?_
      refine gcv0 (pc' := 19) cwX2_41 cf5 dX2_isAllOver_16 rfl (ht i (by omega)).1 (Nat.le_of_ble_eq_true rfl) (Nat.le_of_ble_eq_true rfl) (Nat.le_of_ble_eq_true rfl) (Nat.le_of_ble_eq_true rfl) (Nat.le_of_ble_eq_true rfl) (kX5_isOver (ht i (by omega)).1 ?_)
      refine g_if_ne dX2_isAllOver_19 (tg := 24) (pc' := 22) (by decide) rfl (fun h19 => ?_) (fun h19 => ?_)
      · refine giinc1 (pc' := 27) (c := 1) dX2_isAllOver_24 rfl rfl (Nat.le_of_ble_eq_true rfl) rfl ?_
        refine g_goto dX2_isAllOver_27 (pc' := 2) (by decide) ?_
        rw [nI_1]
        exact ih (i + 1) (by omega) (fun t ht => by
          rcases Nat.lt_or_ge t i with q | q
          · exact hv t q
          · rw [show t = i by omega]
            rw [bI_f] at h19
            simpa using h19)
      · refine g_iconst (pc' := 23) (v := 0) dX2_isAllOver_22 rfl rfl ?_
        refine g_iret dX2_isAllOver_23 rfl rfl (Nat.le_of_ble_eq_true rfl) (Nat.le_of_ble_eq_true rfl) ?_
        rw [bI_f] at h19
        exact gq hQ (bd_f (fun z => by rw [z i (by omega)] at h19; cases h19))
  refine g_iconst (pc' := 1) (v := 0) dX2_isAllOver_0 rfl rfl ?_
  refine gistore_n1 (pc' := 2) dX2_isAllOver_1 rfl (Nat.le_of_ble_eq_true rfl) rfl ?_
  exact L c 0 (by omega) (fun t h => absurd h (Nat.not_lt_zero t))

set_option maxRecDepth 100000 in
set_option maxHeartbeats 2000000 in
theorem kX2_countRunning {E : gE} {S : gS} {j c : Nat} {Q : Option gV → gS → Prop} (hJ : JobOk S j c) (hQ : Q (some (vI (nI (tCR S j c)))) S) : gRun E mX2_countRunning 1 0 0 [vR 2 j 0] S [] Q := by
  refine gRun_of (ls := [some (vR 2 j 0), none, none]) rfl (Nat.le_of_ble_eq_true rfl) rfl (fun ad => ?_)
  obtain ⟨l2, l15, r66, hc, hc6, ht⟩ := id hJ
  have L : ∀ k i : Nat, i + k = c → gG E mX2_countRunning (gBof 1 0 0 ad [] Q) 4 [some (vR 2 j 0), some (vI (nI (tCR S j i))), some (vI (nI i))] [] S 0 0 := by
    intro k
    induction k with
    | zero =>
      intro i hk
      refine g_iload_n (pc' := 5) dX2_countRunning_4 rfl rfl ?_
      refine g_aload_n (pc' := 6) dX2_countRunning_5 rfl rfl ?_
      refine ggX2_17 (pc' := 9) rfl dX2_countRunning_6 rfl l2 ?_
      refine g_icmp_ge dX2_countRunning_9 (tg := 34) (pc' := 12) (by decide) rfl (fun h9 => ?_) (fun h9 => absurd (by rw [hc, nI_leI (by omega) (by omega)]; omega) h9)
      refine g_iload_n (pc' := 35) dX2_countRunning_34 rfl rfl ?_
      refine g_iret dX2_countRunning_35 rfl rfl (Nat.le_of_ble_eq_true rfl) (Nat.le_of_ble_eq_true rfl) ?_
      have e : i = c := by omega
      subst e
      exact hQ
    | succ k ih =>
      intro i hk
      refine g_iload_n (pc' := 5) dX2_countRunning_4 rfl rfl ?_
      refine g_aload_n (pc' := 6) dX2_countRunning_5 rfl rfl ?_
      refine ggX2_17 (pc' := 9) rfl dX2_countRunning_6 rfl l2 ?_
      refine g_icmp_ge dX2_countRunning_9 (tg := 34) (pc' := 12) (by decide) rfl (fun h9 => absurd h9 (by rw [hc, nI_leI (by omega) (by omega)]; omega)) (fun h9 => ?_)
      refine g_aload_n (pc' := 13) dX2_countRunning_12 rfl rfl ?_
      refine ggX2_11 (pc' := 16) rfl dX2_countRunning_13 rfl l2 r66 ?_
      refine g_iload_n (pc' := 17) dX2_countRunning_16 rfl rfl ?_
      refine g_aaldT (pc' := 18) (n := i) dX2_countRunning_17 rfl (by decide) rfl rfl (show i < 6 by omega) l15 (ht i (by omega)).2 ?_
      refine ggX2_45 (pc' := 21) rfl dX2_countRunning_18 rfl (ht i (by omega)).1 ?_
      refine g_iconst (pc' := 22) (v := 3) dX2_countRunning_21 rfl rfl ?_
      refine g_icmp_ne dX2_countRunning_22 (tg := 28) (pc' := 25) (by decide) rfl (fun h22 => ?_) (fun h22 => ?_)
      · refine giinc2 (pc' := 31) (c := 1) dX2_countRunning_28 rfl rfl (Nat.le_of_ble_eq_true rfl) rfl ?_
        refine g_goto dX2_countRunning_31 (pc' := 4) (by decide) ?_
        first
          | (have e : tCR S j (i + 1) = tCR S j i + 1 := if_pos h22
             rw [nI_1, nI_1, ← e]; exact ih (i + 1) (by omega))
          | (have e : tCR S j (i + 1) = tCR S j i := if_neg h22
             rw [nI_1, ← e]; exact ih (i + 1) (by omega))
      · refine giinc1 (pc' := 28) (c := 1) dX2_countRunning_25 rfl rfl (Nat.le_of_ble_eq_true rfl) rfl ?_
        refine giinc2 (pc' := 31) (c := 1) dX2_countRunning_28 rfl rfl (Nat.le_of_ble_eq_true rfl) rfl ?_
        refine g_goto dX2_countRunning_31 (pc' := 4) (by decide) ?_
        first
          | (have e : tCR S j (i + 1) = tCR S j i + 1 := if_pos h22
             rw [nI_1, nI_1, ← e]; exact ih (i + 1) (by omega))
          | (have e : tCR S j (i + 1) = tCR S j i := if_neg h22
             rw [nI_1, ← e]; exact ih (i + 1) (by omega))
  refine g_iconst (pc' := 1) (v := 0) dX2_countRunning_0 rfl rfl ?_
  refine gistore_n1 (pc' := 2) dX2_countRunning_1 rfl (Nat.le_of_ble_eq_true rfl) rfl ?_
  refine g_iconst (pc' := 3) (v := 0) dX2_countRunning_2 rfl rfl ?_
  refine gistore_n2 (pc' := 4) dX2_countRunning_3 rfl (Nat.le_of_ble_eq_true rfl) rfl ?_
  exact L c 0 (by omega)

set_option maxRecDepth 100000 in
set_option maxHeartbeats 2000000 in
theorem kX2_firstReady {E : gE} {S : gS} {j c : Nat} {now : Int32} {Q : Option gV → gS → Prop} (hJ : JobOk S j c) (hQ : Q (some (vI (tFR S j now c 0))) S) : gRun E mX2_firstReady 2 0 0 [vR 2 j 0, vI now] S [] Q := by
  refine gRun_of (ls := [some (vR 2 j 0), some (vI now), none, none]) rfl (Nat.le_of_ble_eq_true rfl) rfl (fun ad => ?_)
  obtain ⟨l2, l15, r66, hc, hc6, ht⟩ := id hJ
  have L : ∀ k i : Nat, i + k = c → tFR S j now k i = tFR S j now c 0 → gG E mX2_firstReady (gBof 2 0 0 ad [] Q) 4 [some (vR 2 j 0), some (vI now), some (vI (tDone S j i)), some (vI (nI i))] [] S 0 0 := by
    intro k
    induction k with
    | zero =>
      intro i hk hv
      refine g_iload_n (pc' := 5) dX2_firstReady_4 rfl rfl ?_
      refine g_aload_n (pc' := 6) dX2_firstReady_5 rfl rfl ?_
      refine ggX2_17 (pc' := 9) rfl dX2_firstReady_6 rfl l2 ?_
      refine g_icmp_ge dX2_firstReady_9 (tg := 53) (pc' := 12) (by decide) rfl (fun h9 => ?_) (fun h9 => absurd (by rw [hc, nI_leI (by omega) (by omega)]; omega) h9)
      refine g_iconst (pc' := 54) (v := (-1)) dX2_firstReady_53 rfl rfl ?_
      refine g_iret dX2_firstReady_54 rfl rfl (Nat.le_of_ble_eq_true rfl) (Nat.le_of_ble_eq_true rfl) ?_
      exact gq hQ hv.symm
    | succ k ih =>
      intro i hk hv
      refine g_iload_n (pc' := 5) dX2_firstReady_4 rfl rfl ?_
      refine g_aload_n (pc' := 6) dX2_firstReady_5 rfl rfl ?_
      refine ggX2_17 (pc' := 9) rfl dX2_firstReady_6 rfl l2 ?_
      refine g_icmp_ge dX2_firstReady_9 (tg := 53) (pc' := 12) (by decide) rfl (fun h9 => absurd h9 (by rw [hc, nI_leI (by omega) (by omega)]; omega)) (fun h9 => ?_)
      refine g_aload_n (pc' := 13) dX2_firstReady_12 rfl rfl ?_
      refine ggX2_11 (pc' := 16) rfl dX2_firstReady_13 rfl l2 r66 ?_
      refine g_iload_n (pc' := 17) dX2_firstReady_16 rfl rfl ?_
      refine g_aaldT (pc' := 18) (n := i) dX2_firstReady_17 rfl (by decide) rfl rfl (show i < 6 by omega) l15 (ht i (by omega)).2 ?_
      refine g_iload_n (pc' := 19) dX2_firstReady_18 rfl rfl ?_
      refine g_iload_n (pc' := 20) dX2_firstReady_19 rfl rfl ?_
      refine gcv2 (pc' := 23) cwX2_48 cf5 dX2_firstReady_20 rfl (ht i (by omega)).1 (Nat.le_of_ble_eq_true rfl) (Nat.le_of_ble_eq_true rfl) (Nat.le_of_ble_eq_true rfl) (Nat.le_of_ble_eq_true rfl) (Nat.le_of_ble_eq_true rfl) (kX5_isReady (ht i (by omega)).1 ?_)
      refine g_if_eq dX2_firstReady_23 (tg := 28) (pc' := 26) (by decide) rfl (fun h23 => ?_) (fun h23 => ?_)
      · refine g_aload_n (pc' := 29) dX2_firstReady_28 rfl rfl ?_
        refine ggX2_11 (pc' := 32) rfl dX2_firstReady_29 rfl l2 r66 ?_
        refine g_iload_n (pc' := 33) dX2_firstReady_32 rfl rfl ?_
        refine g_aaldT (pc' := 34) (n := i) dX2_firstReady_33 rfl (by decide) rfl rfl (show i < 6 by omega) l15 (ht i (by omega)).2 ?_
        refine ggX2_45 (pc' := 37) rfl dX2_firstReady_34 rfl (ht i (by omega)).1 ?_
        refine g_iconst (pc' := 38) (v := 4) dX2_firstReady_37 rfl rfl ?_
        refine g_icmp_ne dX2_firstReady_38 (tg := 47) (pc' := 41) (by decide) rfl (fun h38 => ?_) (fun h38 => ?_)
        · refine giinc3 (pc' := 50) (c := 1) dX2_firstReady_47 rfl rfl (Nat.le_of_ble_eq_true rfl) rfl ?_
          refine g_goto dX2_firstReady_50 (pc' := 4) (by decide) ?_
          have hz : tFR S j now k (i + 1) = tFR S j now c 0 := by
            rw [bI_f] at h23
            rw [← hv, tFR, if_neg (by simp [h23])]
          first
            | (have e : tDone S j (i + 1) = tDone S j i ||| (1 <<< (nI i &&& 31)) := if_pos h38
               rw [nI_1, ← e]; exact ih (i + 1) (by omega) hz)
            | (have e : tDone S j (i + 1) = tDone S j i := if_neg h38
               rw [nI_1, ← e]; exact ih (i + 1) (by omega) hz)
        · refine g_iload_n (pc' := 42) dX2_firstReady_41 rfl rfl ?_
          refine g_iconst (pc' := 43) (v := 1) dX2_firstReady_42 rfl rfl ?_
          refine g_iload_n (pc' := 44) dX2_firstReady_43 rfl rfl ?_
          refine g_ishl (pc' := 45) dX2_firstReady_44 rfl ?_
          refine g_ior (pc' := 46) dX2_firstReady_45 rfl ?_
          refine gistore_n2 (pc' := 47) dX2_firstReady_46 rfl (Nat.le_of_ble_eq_true rfl) rfl ?_
          refine giinc3 (pc' := 50) (c := 1) dX2_firstReady_47 rfl rfl (Nat.le_of_ble_eq_true rfl) rfl ?_
          refine g_goto dX2_firstReady_50 (pc' := 4) (by decide) ?_
          have hz : tFR S j now k (i + 1) = tFR S j now c 0 := by
            rw [bI_f] at h23
            rw [← hv, tFR, if_neg (by simp [h23])]
          first
            | (have e : tDone S j (i + 1) = tDone S j i ||| (1 <<< (nI i &&& 31)) := if_pos h38
               rw [nI_1, ← e]; exact ih (i + 1) (by omega) hz)
            | (have e : tDone S j (i + 1) = tDone S j i := if_neg h38
               rw [nI_1, ← e]; exact ih (i + 1) (by omega) hz)
      · refine g_iload_n (pc' := 27) dX2_firstReady_26 rfl rfl ?_
        refine g_iret dX2_firstReady_27 rfl rfl (Nat.le_of_ble_eq_true rfl) (Nat.le_of_ble_eq_true rfl) ?_
        rw [bI_f] at h23
        exact gq hQ (by rw [← hv, tFR, if_pos (by simpa using h23)])
  refine g_iconst (pc' := 1) (v := 0) dX2_firstReady_0 rfl rfl ?_
  refine gistore_n2 (pc' := 2) dX2_firstReady_1 rfl (Nat.le_of_ble_eq_true rfl) rfl ?_
  refine g_iconst (pc' := 3) (v := 0) dX2_firstReady_2 rfl rfl ?_
  refine gistore_n3 (pc' := 4) dX2_firstReady_3 rfl (Nat.le_of_ble_eq_true rfl) rfl ?_
  exact L c 0 (by omega) rfl

