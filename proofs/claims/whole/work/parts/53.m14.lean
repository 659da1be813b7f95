/-! THE MODEL (14): type and task -/
theorem b255 : ∀ j, j < 64 → (255 : Int64).toBitVec.getLsbD j = decide (j < 8) := by decide +kernel
theorem sh255 {r i : Nat} (hr : r < 2 ^ 64) (hi : i < 8) : (lN r >>> ((nI (8 * i)).toInt64 &&& 63)) &&& 255 = lN (rowB r i) := by
  rw [wb_c (8 * i) (by omega)]
  apply wb_inj
  apply BitVec.eq_of_getLsbD_eq
  intro j hj
  rw [Int64.toBitVec_and, BitVec.getLsbD_and, Int64.toBitVec_shiftRight, b255 j hj]
  show (((lN r).toBitVec.sshiftRight ((lN (8 * i)).toBitVec.smod 64).toNat).getLsbD j && decide (j < 8)) = _
  rw [wb_tb, wb_tb, wb_sm _ (by omega), BitVec.toNat_ofNat, Nat.mod_eq_of_lt (by omega), BitVec.getLsbD_sshiftRight, wb_tb, BitVec.getLsbD_ofNat]
  unfold rowB
  rw [BitVec.getLsbD_ofNat, show (256 : Nat) = 2 ^ 8 from rfl, Nat.testBit_mod_two_pow, Nat.testBit_div_two_pow]
  by_cases c : j < 8
  · have c2 : j + 8 * i < 64 := by omega
    simp [c, c2, hj, Nat.not_le.mpr hj, BitVec.getLsbD_ofNat, Nat.add_comm]
  · simp [c]
theorem rowz {b : Nat} (h : b < 256) : lg_cmp (lN b) 0 = 0 ↔ b = 0 := by
  rw [lcmp0, show (0 : Int64) = lN 0 from rfl, pk_lEQ (by omega) (by decide)]
def mCpy (r l : Nat) : Nat → gS → gS
  | 0, S => S
  | n + 1, S => saI (mCpy r l n S) 20 0 (l + n) (nI (rowB r n))
theorem mCpy_keep (r l : Nat) (S : gS) : ∀ n, fI (mCpy r l n S) = fI S ∧ gL (mCpy r l n S) = gL S ∧ fR (mCpy r l n S) = fR S ∧ aR (mCpy r l n S) = aR S ∧ aL (mCpy r l n S) = aL S ∧ (∀ k, k ≠ 20 → aI (mCpy r l n S) k = aI S k) ∧ ∀ i, aI (mCpy r l n S) 20 0 i = if l ≤ i ∧ i < l + n then nI (rowB r (i - l)) else aI S 20 0 i
  | 0 => ⟨rfl, rfl, rfl, rfl, rfl, fun _ _ => rfl, fun i => by rw [if_neg (by omega)]; rfl⟩
  | n + 1 => by
    obtain ⟨h1, h2, h3, h4, h5, h6, h7⟩ := mCpy_keep r l S n
    refine ⟨h1, h2, h3, h4, h5, fun k hk => ?_, fun i => ?_⟩
    · rw [← h6 k hk]
      funext j t
      exact if_neg (fun z => hk z.1)
    · rw [mCpy, aI_saI, h7]
      by_cases e : i = l + n
      · rw [if_pos ⟨rfl, rfl, e⟩, if_pos (by omega), e, Nat.add_sub_cancel_left]
      · rw [if_neg (fun z => e z.2.2)]
        by_cases c : l ≤ i ∧ i < l + n
        · rw [if_pos c, if_pos (by omega)]
        · rw [if_neg c, if_neg (by omega)]
theorem R0.view {C C' S S' : gS} (h : R0 C S) (f : ∀ g x y, (g < 128 ∨ 134 ≤ g) → g ≠ 193 → fI C' g x y = fI C g x y) (g : aI C' 13 = aI C 13) (a : ∀ g x y, g ≠ 256 → g ≠ 261 → fI S' g x y = fI S g x y) (b : ∀ k, 22 < k → k ≠ 28 → aI S' k = aI S k) : R0 C' S' := by
  have ej : jn C' = jn C := by unfold jn; rw [f 228 0 0 (by decide) (by decide)]
  have ec : ∀ j, jc C' j = jc C j := fun j => by unfold jc; rw [f 67 j 0 (by decide) (by decide)]
  have et : tl C' = tl C := by unfold tl; rw [f 97 0 0 (by decide) (by decide)]
  unfold R0 RN LG RJ RB JK TK at *
  simp (disch := first | decide | omega) only [ej, ec, et, f, g, a, b]
  exact h
set_option maxRecDepth 100000 in
set_option maxHeartbeats 2000000 in
theorem kX8_type {E : gE} {S : gS} {C : gS} {a : Nat} {Q : Option gV → gS → Prop} (hM : ModS S) (hR : Rel C S) (hX : TextOk C) (ha : a < 2 ^ 64) (hQ : ∀ T', Rel (tType C a).2 T' → pK S T' → Q (some (vI (bI (tType C a).1))) T') : gRun E mX8_type 1 0 0 [vR 8 0 0, vL (lN a)] S [] Q := by
  refine gRun_of (ls := [some (vR 8 0 0), some (vL (lN a)), none, none, none, none]) rfl (Nat.le_of_ble_eq_true rfl) rfl (fun ad => ?_)
  obtain ⟨l8, l20, l21, l22, l23, l24, l25, l26, l27, l28, l29, l30, l31, l32, l33, l34, l35, r262, r265, r266, r267, r268, r269, r270, r271, r272, r273, r274, r275, r276, r277, r278, r280⟩ := id hM
  have hx60 := hX.2.1
  have htyp : fI (sfI S 256 0 0 0) 261 0 0 = nI (xl C) := hR.2.2.1.trans hX.1
  have EX : ∀ (n : Nat) (B : Bool) (w5 : Option gV) (_ : n ≤ 8) (hE1 : B = true → xAdd a 8 0 = some n) (hE2 : B = false → xAdd a 8 0 = none), gG E mX8_type (gBof 1 0 0 ad [] Q) 77 [some (vR 8 0 0), some (vL (lN a)), none, some (vI (nI n)), some (vI (bI B)), w5] [] (sfI S 256 0 0 0) 0 0 := by
    intro n B w5 hn hE1 hE2
    have CP : xl C + n ≤ 60 → xAdd a 8 0 = some n → ∀ (f k : Nat) (_ : k + f = n), gG E mX8_type (gBof 1 0 0 ad [] Q) 98 [some (vR 8 0 0), some (vL (lN a)), none, some (vI (nI n)), some (vI (bI B)), some (vI (nI k))] [] (mCpy a (xl C) k (sfI S 256 0 0 0)) 0 0 := by
      intro h60 hxa f
      induction f with
      | zero =>
        intro k hk
        have e9 : k = n := by omega
        subst e9
        obtain ⟨c1, c2, c3, c4, c5, c6, c7⟩ := mCpy_keep a (xl C) (sfI S 256 0 0 0) k
        have hty2 : fI (mCpy a (xl C) k (sfI S 256 0 0 0)) 261 0 0 = nI (xl C) := by rw [c1]; exact htyp
        have hMT : ModS (mCpy a (xl C) k (sfI S 256 0 0 0)) := hM.of c2 c3
        obtain ⟨l8, l20, l21, l22, l23, l24, l25, l26, l27, l28, l29, l30, l31, l32, l33, l34, l35, r262, r265, r266, r267, r268, r269, r270, r271, r272, r273, r274, r275, r276, r277, r278, r280⟩ := id hMT
        have eT : tType C a = (true, tApp C a k) := by
          rw [tType, hxa]
          exact if_neg (by omega)
        have hok := tApp_ok hX h60 (fun i hi => (xAdd_in a 8 0 k hxa).2.2 i (Nat.zero_le _) hi)
        obtain ⟨d1, d2, d3, d4, d5, d6, d7⟩ := tCpy_keep a (xl C) C k
        have hQ2 : Q (some (vI 1)) (sfI (mCpy a (xl C) k (sfI S 256 0 0 0)) 261 0 0 (nI (xl C + k))) := by
          rw [eT] at hQ
          refine hQ _ ⟨hR.1.view (fun g x y _ hg => ?_) ?_ (fun g x y h1 h2 => ?_) (fun q h1 _ => ?_), fun j hj => ?_, ?_⟩ ⟨c2, c3, c4, c5, fun g j t hg => ?_, fun q hq => ?_⟩
          · rw [tApp, fI_ne hg, d5]
          · exact d6 13 (by decide)
          · rw [fI_ne h2, c1, fI_ne h1]
          · exact c6 q (by omega)
          · have hj2 : j < jn C := by
              have e5 : jn (tApp C a k) = jn C := by unfold jn; rw [tApp, fI_ne (by decide), d5]
              rw [e5] at hj; exact hj
            exact (hR.2.1 j hj2).of (by show aL (tCpy a (xl C) k C) 12 j = _; rw [d4]) (by rw [tApp, fI_ne (by decide), d5]) (fun i => by show aI (mCpy a (xl C) k (sfI S 256 0 0 0)) 21 0 i = _; rw [c6 21 (by decide)]; rfl) (fun i => by show aI (mCpy a (xl C) k (sfI S 256 0 0 0)) 22 0 i = _; rw [c6 22 (by decide)]; rfl)
          · refine ⟨fI_at.trans fI_at.symm, fun i hi => ?_⟩
            rw [hok.2.1] at hi
            show aI (mCpy a (xl C) k (sfI S 256 0 0 0)) 20 0 i = aI (tCpy a (xl C) k C) 10 0 i
            rw [c7, d7]
            by_cases c : xl C ≤ i ∧ i < xl C + k
            · rw [if_pos c, if_pos c]
            · rw [if_neg c, if_neg c]
              exact hR.2.2.2 i (by omega)
          · rw [fI_ne (by omega), c1, fI_ne (by omega)]
          · show aI (mCpy a (xl C) k (sfI S 256 0 0 0)) q = _
            rw [c6 q (by omega)]; rfl
        refine g_iload (pc' := 100) dX8_type_98 rfl rfl ?_
        refine g_iload_n (pc' := 101) dX8_type_100 rfl rfl ?_
        refine g_icmp_ge dX8_type_101 (tg := 134) (pc' := 104) (by decide) rfl (fun h101 => ?_) (fun h101 => absurd (Int32.le_refl _) h101)
        refine g_aload_n (pc' := 135) dX8_type_134 rfl rfl ?_
        refine g_aload_n (pc' := 136) dX8_type_135 rfl rfl ?_
        refine ggX8_71 (pc' := 139) rfl dX8_type_136 rfl l8 ?_
        rw [hty2]
        refine g_iload_n (pc' := 140) dX8_type_139 rfl rfl ?_
        refine g_iadd (pc' := 141) dX8_type_140 rfl ?_
        rw [nI_add]
        refine gpX8_71 (pc' := 144) rfl dX8_type_141 rfl l8 ?_
        refine g_iconst (pc' := 145) (v := 1) dX8_type_144 rfl rfl ?_
        refine g_iret dX8_type_145 rfl rfl (Nat.le_of_ble_eq_true rfl) (Nat.le_of_ble_eq_true rfl) ?_
        exact hQ2
      | succ f ih =>
        intro k hk
        obtain ⟨c1, c2, c3, c4, c5, c6, c7⟩ := mCpy_keep a (xl C) (sfI S 256 0 0 0) k
        have hty2 : fI (mCpy a (xl C) k (sfI S 256 0 0 0)) 261 0 0 = nI (xl C) := by rw [c1]; exact htyp
        have hMT : ModS (mCpy a (xl C) k (sfI S 256 0 0 0)) := hM.of c2 c3
        obtain ⟨l8, l20, l21, l22, l23, l24, l25, l26, l27, l28, l29, l30, l31, l32, l33, l34, l35, r262, r265, r266, r267, r268, r269, r270, r271, r272, r273, r274, r275, r276, r277, r278, r280⟩ := id hMT
        have hrb := rowB_lt a k
        refine g_iload (pc' := 100) dX8_type_98 rfl rfl ?_
        refine g_iload_n (pc' := 101) dX8_type_100 rfl rfl ?_
        refine g_icmp_ge dX8_type_101 (tg := 134) (pc' := 104) (by decide) rfl (fun h101 => absurd h101 (by rw [nI_leI (by omega) (by omega)]; omega)) (fun h101 => ?_)
        refine g_aload_n (pc' := 105) dX8_type_104 rfl rfl ?_
        refine ggX8_13 (pc' := 108) rfl dX8_type_105 rfl l8 r262 ?_
        refine g_aload_n (pc' := 109) dX8_type_108 rfl rfl ?_
        refine ggX8_71 (pc' := 112) rfl dX8_type_109 rfl l8 ?_
        rw [hty2]
        refine g_iload (pc' := 114) dX8_type_112 rfl rfl ?_
        refine g_iadd (pc' := 115) dX8_type_114 rfl ?_
        rw [nI_add]
        refine g_lload_n (pc' := 116) dX8_type_115 rfl rfl ?_
        refine g_bipush (pc' := 118) (v := 8) dX8_type_116 rfl rfl ?_
        refine g_iload (pc' := 120) dX8_type_118 rfl rfl ?_
        refine g_imul (pc' := 121) dX8_type_120 rfl ?_
        rw [show (8 : Int32) = nI 8 from rfl, pk_mul]
        refine g_lshr (pc' := 122) dX8_type_121 rfl ?_
        refine g_ldc2 (pc' := 125) dX8_type_122 rfl ckX8_69 ?_
        refine g_land (pc' := 126) dX8_type_125 rfl ?_
        rw [sh255 ha (by omega)]
        refine g_l2i (pc' := 127) dX8_type_126 rfl ?_
        rw [lN_i]
        refine g_iast (pc' := 128) (n := xl C + k) dX8_type_127 rfl (by decide) rfl rfl (show xl C + k < 60 by omega) l20 ?_
        refine giinc5 (pc' := 131) (c := 1) dX8_type_128 rfl rfl (Nat.le_of_ble_eq_true rfl) rfl ?_
        refine g_goto dX8_type_131 (pc' := 98) (by decide) ?_
        rw [nI_1]
        exact ih (k + 1) (by omega)
    refine g_iload (pc' := 79) dX8_type_77 rfl rfl ?_
    refine g_if_eq dX8_type_79 (tg := 93) (pc' := 82) (by decide) rfl (fun h79 => ?_) (fun h79 => ?_)
    · refine g_iconst (pc' := 94) (v := 0) dX8_type_93 rfl rfl ?_
      refine g_iret dX8_type_94 rfl rfl (Nat.le_of_ble_eq_true rfl) (Nat.le_of_ble_eq_true rfl) ?_
      first
        | (have e : tType C a = (false, C) := by rw [tType, hE2 (bI_f.mp h79)]
           rw [e] at hQ
           exact hQ _ hR.code (pK_sfI (by decide)))
        | (have e : tType C a = (false, C) := by
             rw [tType, hE1 (bbp h79)]
             rw [show (60 : Int32) = nI 60 from rfl, nI_leI (by omega) (by decide)] at h90
             exact if_pos (by omega)
           rw [e] at hQ
           exact hQ _ hR.code (pK_sfI (by decide)))
    · refine g_aload_n (pc' := 83) dX8_type_82 rfl rfl ?_
      refine ggX8_71 (pc' := 86) rfl dX8_type_83 rfl l8 ?_
      rw [htyp]
      refine g_iload_n (pc' := 87) dX8_type_86 rfl rfl ?_
      refine g_iadd (pc' := 88) dX8_type_87 rfl ?_
      rw [nI_add]
      refine g_bipush (pc' := 90) (v := 60) dX8_type_88 rfl rfl ?_
      refine g_icmp_le dX8_type_90 (tg := 95) (pc' := 93) (by decide) rfl (fun h90 => ?_) (fun h90 => ?_)
      · rw [show (60 : Int32) = nI 60 from rfl, nI_leI (by omega) (by decide)] at h90
        refine g_iconst (pc' := 96) (v := 0) dX8_type_95 rfl rfl ?_
        refine gistore5 (pc' := 98) dX8_type_96 rfl (Nat.le_of_ble_eq_true rfl) rfl ?_
        exact CP (h90) (hE1 (bbp h79)) n 0 (by omega)
      · refine g_iconst (pc' := 94) (v := 0) dX8_type_93 rfl rfl ?_
        refine g_iret dX8_type_94 rfl rfl (Nat.le_of_ble_eq_true rfl) (Nat.le_of_ble_eq_true rfl) ?_
        first
          | (have e : tType C a = (false, C) := by rw [tType, hE2 (bI_f.mp h79)]
             rw [e] at hQ
             exact hQ _ hR.code (pK_sfI (by decide)))
          | (have e : tType C a = (false, C) := by
               rw [tType, hE1 (bbp h79)]
               rw [show (60 : Int32) = nI 60 from rfl, nI_leI (by omega) (by decide)] at h90
               exact if_pos (by omega)
             rw [e] at hQ
             exact hQ _ hR.code (pK_sfI (by decide)))
  have LP : ∀ (k n : Nat) (B : Bool) (w5 : Option gV) (_ : 8 < n + k) (hB : (B = true → xAdd a 8 0 = xAdd a (8 - n) n) ∧ (B = false → xAdd a 8 0 = none)) (_ : n ≤ 8), gG E mX8_type (gBof 1 0 0 ad [] Q) 10 [some (vR 8 0 0), some (vL (lN a)), none, some (vI (nI n)), some (vI (bI B)), w5] [] (sfI S 256 0 0 0) 0 0 := by
    intro k
    induction k with
    | zero => intro n B w5 h1 h2 h3; omega
    | succ k ih0 =>
      intro n B w5 hk hB hn
      have ih : ∀ (n : Nat) (B : Bool) (w5 : Option gV) (_ : 8 < n + k ∧ n ≤ 8) (hB : (B = true → xAdd a 8 0 = xAdd a (8 - n) n) ∧ (B = false → xAdd a 8 0 = none)), gG E mX8_type (gBof 1 0 0 ad [] Q) 10 [some (vR 8 0 0), some (vL (lN a)), none, some (vI (nI n)), some (vI (bI B)), w5] [] (sfI S 256 0 0 0) 0 0 := fun n B w5 h hB => ih0 n B w5 h.1 hB h.2
      rcases Nat.lt_or_ge n 8 with c | c
      · have hrb := rowB_lt a n
        have hstep : xAdd a (8 - n) n = if rowB a n = 0 then some n else if rowB a n < 32 ∨ 126 < rowB a n then none else xAdd a (8 - (n + 1)) (n + 1) := by
          rw [show 8 - n = (8 - (n + 1)) + 1 by omega, xAdd]
        refine g_iload_n (pc' := 11) dX8_type_10 rfl rfl ?_
        refine g_bipush (pc' := 13) (v := 8) dX8_type_11 rfl rfl ?_
        refine g_icmp_ge dX8_type_13 (tg := 77) (pc' := 16) (by decide) rfl (fun h13 => absurd h13 (by rw [show (8 : Int32) = nI 8 from rfl, nI_leI (by decide) (by omega)]; omega)) (fun h13 => ?_)
        refine g_lload_n (pc' := 17) dX8_type_16 rfl rfl ?_
        refine g_bipush (pc' := 19) (v := 8) dX8_type_17 rfl rfl ?_
        refine g_iload_n (pc' := 20) dX8_type_19 rfl rfl ?_
        refine g_imul (pc' := 21) dX8_type_20 rfl ?_
        rw [show (8 : Int32) = nI 8 from rfl, pk_mul]
        refine g_lshr (pc' := 22) dX8_type_21 rfl ?_
        refine g_ldc2 (pc' := 25) dX8_type_22 rfl ckX8_69 ?_
        refine g_land (pc' := 26) dX8_type_25 rfl ?_
        rw [sh255 ha (by omega)]
        refine g_lconst (pc' := 27) (v := 0) dX8_type_26 rfl rfl ?_
        refine g_lcmp (pc' := 28) dX8_type_27 rfl ?_
        refine g_if_eq dX8_type_28 (tg := 77) (pc' := 31) (by decide) rfl (fun h28 => ?_) (fun h28 => ?_)
        · rw [rowz hrb] at h28
          refine EX n B _ (by omega) (fun h => ?_) (fun h => hB.2 h)
          rw [hB.1 h, hstep, if_pos h28]
        · rw [rowz hrb] at h28
          refine g_lload_n (pc' := 32) dX8_type_31 rfl rfl ?_
          refine g_bipush (pc' := 34) (v := 8) dX8_type_32 rfl rfl ?_
          refine g_iload_n (pc' := 35) dX8_type_34 rfl rfl ?_
          refine g_imul (pc' := 36) dX8_type_35 rfl ?_
          rw [show (8 : Int32) = nI 8 from rfl, pk_mul]
          refine g_lshr (pc' := 37) dX8_type_36 rfl ?_
          refine g_ldc2 (pc' := 40) dX8_type_37 rfl ckX8_69 ?_
          refine g_land (pc' := 41) dX8_type_40 rfl ?_
          rw [sh255 ha (by omega)]
          refine g_l2i (pc' := 42) dX8_type_41 rfl ?_
          rw [lN_i]
          refine gistore5 (pc' := 44) dX8_type_42 rfl (Nat.le_of_ble_eq_true rfl) rfl ?_
          refine g_iload (pc' := 46) dX8_type_44 rfl rfl ?_
          refine g_if_eq dX8_type_46 (tg := 67) (pc' := 49) (by decide) rfl (fun h46 => ?_) (fun h46 => ?_)
          · try rw [show (32 : Int32) = nI 32 from rfl, nI_ltI (by omega) (by decide)] at h53
            try rw [show (126 : Int32) = nI 126 from rfl, nI_ltI (by decide) (by omega)] at h60
            refine g_iconst (pc' := 68) (v := 0) dX8_type_67 rfl rfl ?_
            refine gistore4 (pc' := 70) dX8_type_68 rfl (Nat.le_of_ble_eq_true rfl) rfl ?_
            refine g_iload_n (pc' := 71) dX8_type_70 rfl rfl ?_
            refine g_iconst (pc' := 72) (v := 1) dX8_type_71 rfl rfl ?_
            refine g_iadd (pc' := 73) dX8_type_72 rfl ?_
            rw [nI_1]
            refine gistore_n3 (pc' := 74) dX8_type_73 rfl (Nat.le_of_ble_eq_true rfl) rfl ?_
            refine g_goto dX8_type_74 (pc' := 10) (by decide) ?_
            have hx : ∀ h : B = true, xAdd a 8 0 = if rowB a n < 32 ∨ 126 < rowB a n then none else xAdd a (8 - (n + 1)) (n + 1) := fun h => by rw [hB.1 h, hstep, if_neg h28]
            first
              | exact ih (n + 1) false _ (by omega) ⟨fun z => absurd z (by decide), fun _ => hB.2 (bI_f.mp h46)⟩
              | exact ih (n + 1) false _ (by omega) ⟨fun z => absurd z (by decide), fun _ => by rw [hx (bbp h46), if_pos (Or.inl h53)]⟩
              | exact ih (n + 1) false _ (by omega) ⟨fun z => absurd z (by decide), fun _ => by rw [hx (bbp h46), if_pos (Or.inr h60)]⟩
              | exact ih (n + 1) true _ (by omega) ⟨fun _ => by rw [hx (bbp h46), if_neg (by omega)], fun z => absurd z (by decide)⟩
          · refine g_iload (pc' := 51) dX8_type_49 rfl rfl ?_
            refine g_bipush (pc' := 53) (v := 32) dX8_type_51 rfl rfl ?_
            refine g_icmp_lt dX8_type_53 (tg := 67) (pc' := 56) (by decide) rfl (fun h53 => ?_) (fun h53 => ?_)
            · try rw [show (32 : Int32) = nI 32 from rfl, nI_ltI (by omega) (by decide)] at h53
              try rw [show (126 : Int32) = nI 126 from rfl, nI_ltI (by decide) (by omega)] at h60
              refine g_iconst (pc' := 68) (v := 0) dX8_type_67 rfl rfl ?_
              refine gistore4 (pc' := 70) dX8_type_68 rfl (Nat.le_of_ble_eq_true rfl) rfl ?_
              refine g_iload_n (pc' := 71) dX8_type_70 rfl rfl ?_
              refine g_iconst (pc' := 72) (v := 1) dX8_type_71 rfl rfl ?_
              refine g_iadd (pc' := 73) dX8_type_72 rfl ?_
              rw [nI_1]
              refine gistore_n3 (pc' := 74) dX8_type_73 rfl (Nat.le_of_ble_eq_true rfl) rfl ?_
              refine g_goto dX8_type_74 (pc' := 10) (by decide) ?_
              have hx : ∀ h : B = true, xAdd a 8 0 = if rowB a n < 32 ∨ 126 < rowB a n then none else xAdd a (8 - (n + 1)) (n + 1) := fun h => by rw [hB.1 h, hstep, if_neg h28]
              first
                | exact ih (n + 1) false _ (by omega) ⟨fun z => absurd z (by decide), fun _ => hB.2 (bI_f.mp h46)⟩
                | exact ih (n + 1) false _ (by omega) ⟨fun z => absurd z (by decide), fun _ => by rw [hx (bbp h46), if_pos (Or.inl h53)]⟩
                | exact ih (n + 1) false _ (by omega) ⟨fun z => absurd z (by decide), fun _ => by rw [hx (bbp h46), if_pos (Or.inr h60)]⟩
                | exact ih (n + 1) true _ (by omega) ⟨fun _ => by rw [hx (bbp h46), if_neg (by omega)], fun z => absurd z (by decide)⟩
            · refine g_iload (pc' := 58) dX8_type_56 rfl rfl ?_
              refine g_bipush (pc' := 60) (v := 126) dX8_type_58 rfl rfl ?_
              refine g_icmp_gt dX8_type_60 (tg := 67) (pc' := 63) (by decide) rfl (fun h60 => ?_) (fun h60 => ?_)
              · try rw [show (32 : Int32) = nI 32 from rfl, nI_ltI (by omega) (by decide)] at h53
                try rw [show (126 : Int32) = nI 126 from rfl, nI_ltI (by decide) (by omega)] at h60
                refine g_iconst (pc' := 68) (v := 0) dX8_type_67 rfl rfl ?_
                refine gistore4 (pc' := 70) dX8_type_68 rfl (Nat.le_of_ble_eq_true rfl) rfl ?_
                refine g_iload_n (pc' := 71) dX8_type_70 rfl rfl ?_
                refine g_iconst (pc' := 72) (v := 1) dX8_type_71 rfl rfl ?_
                refine g_iadd (pc' := 73) dX8_type_72 rfl ?_
                rw [nI_1]
                refine gistore_n3 (pc' := 74) dX8_type_73 rfl (Nat.le_of_ble_eq_true rfl) rfl ?_
                refine g_goto dX8_type_74 (pc' := 10) (by decide) ?_
                have hx : ∀ h : B = true, xAdd a 8 0 = if rowB a n < 32 ∨ 126 < rowB a n then none else xAdd a (8 - (n + 1)) (n + 1) := fun h => by rw [hB.1 h, hstep, if_neg h28]
                first
                  | exact ih (n + 1) false _ (by omega) ⟨fun z => absurd z (by decide), fun _ => hB.2 (bI_f.mp h46)⟩
                  | exact ih (n + 1) false _ (by omega) ⟨fun z => absurd z (by decide), fun _ => by rw [hx (bbp h46), if_pos (Or.inl h53)]⟩
                  | exact ih (n + 1) false _ (by omega) ⟨fun z => absurd z (by decide), fun _ => by rw [hx (bbp h46), if_pos (Or.inr h60)]⟩
                  | exact ih (n + 1) true _ (by omega) ⟨fun _ => by rw [hx (bbp h46), if_neg (by omega)], fun z => absurd z (by decide)⟩
              · try rw [show (32 : Int32) = nI 32 from rfl, nI_ltI (by omega) (by decide)] at h53
                try rw [show (126 : Int32) = nI 126 from rfl, nI_ltI (by decide) (by omega)] at h60
                refine g_iconst (pc' := 64) (v := 1) dX8_type_63 rfl rfl ?_
                refine g_goto dX8_type_64 (pc' := 68) (by decide) ?_
                refine gistore4 (pc' := 70) dX8_type_68 rfl (Nat.le_of_ble_eq_true rfl) rfl ?_
                refine g_iload_n (pc' := 71) dX8_type_70 rfl rfl ?_
                refine g_iconst (pc' := 72) (v := 1) dX8_type_71 rfl rfl ?_
                refine g_iadd (pc' := 73) dX8_type_72 rfl ?_
                rw [nI_1]
                refine gistore_n3 (pc' := 74) dX8_type_73 rfl (Nat.le_of_ble_eq_true rfl) rfl ?_
                refine g_goto dX8_type_74 (pc' := 10) (by decide) ?_
                have hx : ∀ h : B = true, xAdd a 8 0 = if rowB a n < 32 ∨ 126 < rowB a n then none else xAdd a (8 - (n + 1)) (n + 1) := fun h => by rw [hB.1 h, hstep, if_neg h28]
                first
                  | exact ih (n + 1) false _ (by omega) ⟨fun z => absurd z (by decide), fun _ => hB.2 (bI_f.mp h46)⟩
                  | exact ih (n + 1) false _ (by omega) ⟨fun z => absurd z (by decide), fun _ => by rw [hx (bbp h46), if_pos (Or.inl h53)]⟩
                  | exact ih (n + 1) false _ (by omega) ⟨fun z => absurd z (by decide), fun _ => by rw [hx (bbp h46), if_pos (Or.inr h60)]⟩
                  | exact ih (n + 1) true _ (by omega) ⟨fun _ => by rw [hx (bbp h46), if_neg (by omega)], fun z => absurd z (by decide)⟩
      · skip
        refine g_iload_n (pc' := 11) dX8_type_10 rfl rfl ?_
        refine g_bipush (pc' := 13) (v := 8) dX8_type_11 rfl rfl ?_
        refine g_icmp_ge dX8_type_13 (tg := 77) (pc' := 16) (by decide) rfl (fun h13 => ?_) (fun h13 => absurd (by rw [show (8 : Int32) = nI 8 from rfl, nI_leI (by decide) (by omega)]; omega) h13)
        exact EX n B _ (by omega) (fun h => by rw [(hB.1 h), show 8 - n = 0 by omega]; rfl) (fun h => hB.2 h)
  refine g_aload_n (pc' := 1) dX8_type_0 rfl rfl ?_
  refine g_iconst (pc' := 2) (v := 0) dX8_type_1 rfl rfl ?_
  refine gpX8_66 (pc' := 5) rfl dX8_type_2 rfl l8 ?_
  refine g_iconst (pc' := 6) (v := 0) dX8_type_5 rfl rfl ?_
  refine gistore_n3 (pc' := 7) dX8_type_6 rfl (Nat.le_of_ble_eq_true rfl) rfl ?_
  refine g_iconst (pc' := 8) (v := 1) dX8_type_7 rfl rfl ?_
  refine gistore4 (pc' := 10) dX8_type_8 rfl (Nat.le_of_ble_eq_true rfl) rfl ?_
  exact LP 9 0 true _ (by omega) ⟨fun _ => rfl, fun z => absurd z (by decide)⟩ (by omega)

