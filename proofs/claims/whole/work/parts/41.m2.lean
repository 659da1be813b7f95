/-! THE MODEL (2): the fault, the letters -/
def fK (n : Nat) (S S' : gS) : Prop := gL S' = gL S ∧ fR S' = fR S ∧ aR S' = aR S ∧ aL S' = aL S ∧ fI S' = fI S ∧ (∀ k, k ≠ 22 → aI S' k = aI S k) ∧ ∀ j i, (i < 5 * n ∨ 5 * n + 5 ≤ i) → aI S' 22 j i = aI S 22 j i
theorem fK.set {n i : Nat} {S S' : gS} {v : Int32} (h : fK n S S') (h1 : 5 * n ≤ i) (h2 : i < 5 * n + 5) : fK n S (saI S' 22 0 i v) := by
  obtain ⟨a1, a2, a3, a4, a5, a6, a7⟩ := h
  refine ⟨a1, a2, a3, a4, a5, fun k hk => ?_, fun j i' hi => ?_⟩
  · rw [← a6 k hk]
    funext j t
    exact if_neg (fun z => hk z.1)
  · rw [← a7 j i' hi]
    exact if_neg (fun z => by omega)
theorem fK.rf {n : Nat} {S : gS} : fK n S S := ⟨rfl, rfl, rfl, rfl, rfl, fun _ _ => rfl, fun _ _ _ => rfl⟩
theorem ModS.of {S S' : gS} (h : ModS S) (k1 : gL S' = gL S) (k2 : fR S' = fR S) : ModS S' := by
  unfold ModS lv at *
  rw [k1, k2]
  exact h
theorem TxM.of {S S' : gS} {x : Nat → Nat} {L : Nat} (h : TxM S x L) (k1 : fI S' 261 0 0 = fI S 261 0 0) (k2 : aI S' 20 = aI S 20) : TxM S' x L := by
  unfold TxM at *
  rw [k1, k2]
  exact h
def rdF (x : Nat → Nat) (f p : Nat) : Option Nat := match FE x f p with
  | .inl q => some q
  | .inr e => if x e = dueC f then rd x (4 - f) (f + 1) (e + 1) else some e
theorem rdF_eq {x : Nat → Nat} {f k p : Nat} (h : f + k = 4) : rd x (k + 1) f p = rdF x f p := by
  rw [rd, rdF, show 4 - f = k by omega]
  cases FE x f p <;> rfl
theorem mneg {q : Nat} (hq : q < 2 ^ 30) : ¬ (0 : Int32) ≤ -1 - nI q := by
  rw [Int32.not_le, Int32.lt_iff_toInt_lt, Int32.toInt_sub, nI_toInt (by omega), show (-1 : Int32).toInt = -1 from rfl, Int.bmod_eq_of_le (by omega) (by omega)]
  show -1 - (q : Int) < 0
  omega
theorem mnn (q : Nat) : (-1 - (-1 - nI q) : Int32) = nI q := by
  have h : (-1 : Int32) - nI q + nI q = -1 := Int32.sub_add_cancel _ _
  have h2 : nI q + (-1 - nI q) - (-1 - nI q) = nI q := Int32.add_sub_cancel _ _
  rw [Int32.add_comm (nI q), h] at h2
  exact h2
set_option maxRecDepth 100000 in
set_option maxHeartbeats 2000000 in
theorem kX8_faultOf {E : gE} {S : gS} {x : Nat → Nat} {L n : Nat} {Q : Option gV → gS → Prop} (hM : ModS S) (hT : TxM S x L) (hn : fI S 264 0 0 = nI n) (hn6 : n < 6) (hQ : ∀ S', fK n S S' → (rd x 5 0 0 = none → ∀ f, f < 5 → aI S' 22 0 (5 * n + f) = nI (fsx x f)) → Q (some (vI (oI (rd x 5 0 0)))) S') : gRun E mX8_faultOf 6 0 0 [vR 8 0 0] S [] Q := by
  refine gRun_of (ls := [some (vR 8 0 0), none, none, none]) rfl (Nat.le_of_ble_eq_true rfl) rfl (fun ad => ?_)
  obtain ⟨l8, l20, l21, l22, l23, l24, l25, l26, l27, l28, l29, l30, l31, l32, l33, l34, l35, r262, r265, r266, r267, r268, r269, r270, r271, r272, r273, r274, r275, r276, r277, r278, r280⟩ := id hM
  have LP : ∀ (k a f : Nat) (T : gS) (w : Option gV) (hk : L - a < k) (ha : a ≤ L) (hf : f < 5) (hK : fK n S T) (hfs : ∀ g, g ≤ f → aI T 22 0 (5 * n + g) = nI (fsx x g)) (hFE : FE x f (fsx x f) = FE x f a) (hrd : rd x 5 0 0 = rdF x f a), gG E mX8_faultOf (gBof 6 0 0 ad [] Q) 16 [some (vR 8 0 0), some (vI (nI a)), some (vI (nI f)), w] [] T 0 0 := by
    intro k
    induction k with
    | zero =>
      intro a f T w hk
      omega
    | succ k ih =>
      intro a f T w hk ha hf hK hfs hFE hrd
      have hL60 := hT.2.1
      have hT : TxM T x L := hT.of (by rw [hK.2.2.2.2.1]) (hK.2.2.2.2.2.1 20 (by decide))
      have hMT : ModS T := hM.of hK.1 hK.2.1
      have hnT : fI T 264 0 0 = nI n := by rw [hK.2.2.2.2.1]; exact hn
      have fin : (rd x 5 0 0 = none → f = 4) → Q (some (vI (oI (rd x 5 0 0)))) T := fun h => hQ T hK (fun hz g hg => hfs g (by have := h hz; omega))
      obtain ⟨l8, l20, l21, l22, l23, l24, l25, l26, l27, l28, l29, l30, l31, l32, l33, l34, l35, r262, r265, r266, r267, r268, r269, r270, r271, r272, r273, r274, r275, r276, r277, r278, r280⟩ := id hMT
      refine g_aload_n (pc' := 17) dX8_faultOf_16 rfl rfl ?_
      refine g_iload_n (pc' := 18) dX8_faultOf_17 rfl rfl ?_
      refine g_iload_n (pc' := 19) dX8_faultOf_18 rfl rfl ?_
      refine gcv2 (pc' := 22) cwX8_101 cf8 dX8_faultOf_19 rfl l8 (Nat.le_of_ble_eq_true rfl) (Nat.le_of_ble_eq_true rfl) (Nat.le_of_ble_eq_true rfl) (Nat.le_of_ble_eq_true rfl) (Nat.le_of_ble_eq_true rfl) (kX8_overItem hMT hT (by omega) hf ?_)
      cases e0 : item x a f with
      | inl q =>
        have hq := item_f hT.2.2.2 ha e0
        have hq5 : rd x 5 0 0 = some q := by rw [hrd, rdF, FE_l e0]
        rw [show ovI (Sum.inl q) = -1 - nI q from rfl]
        refine gistore_n1 (pc' := 23) dX8_faultOf_22 rfl (Nat.le_of_ble_eq_true rfl) rfl ?_
        refine g_iload_n (pc' := 24) dX8_faultOf_23 rfl rfl ?_
        refine g_if_ge dX8_faultOf_24 (tg := 31) (pc' := 27) (by decide) rfl (fun h24 => absurd h24 (mneg (by omega))) (fun h24 => ?_)
        refine g_iconst (pc' := 28) (v := (-1)) dX8_faultOf_27 rfl rfl ?_
        refine g_iload_n (pc' := 29) dX8_faultOf_28 rfl rfl ?_
        refine g_isub (pc' := 30) dX8_faultOf_29 rfl ?_
        refine g_iret dX8_faultOf_30 rfl rfl (Nat.le_of_ble_eq_true rfl) (Nat.le_of_ble_eq_true rfl) ?_
        rw [mnn]
        exact gq (fin (fun z => by cases hq5.symm.trans z)) (by rw [hq5]; rfl)
      | inr d =>
        obtain ⟨e, lo, hi, st⟩ := d
        have hin : a < L := by
          rcases Nat.lt_or_ge a L with q | q
          · exact q
          · rw [item_out hT.2.2.2 q] at e0; cases e0
        obtain ⟨he1, he2, -⟩ := item_in hT.2.2.2 ha e0
        have hFr := FE_r (f := f) hT.2.2.2 hT.2.1 e0
        rw [show ovI (Sum.inr (e, lo, hi, st)) = nI e from rfl]
        refine gistore_n1 (pc' := 23) dX8_faultOf_22 rfl (Nat.le_of_ble_eq_true rfl) rfl ?_
        refine g_iload_n (pc' := 24) dX8_faultOf_23 rfl rfl ?_
        refine g_if_ge dX8_faultOf_24 (tg := 31) (pc' := 27) (by decide) rfl (fun h24 => ?_) (fun h24 => absurd (nI_pos' (by omega)) h24)
        refine g_iload_n (pc' := 32) dX8_faultOf_31 rfl rfl ?_
        refine g_aload_n (pc' := 33) dX8_faultOf_32 rfl rfl ?_
        refine ggX8_71 (pc' := 36) rfl dX8_faultOf_33 rfl l8 ?_
        rw [hT.1]
        refine g_icmp_ne dX8_faultOf_36 (tg := 50) (pc' := 39) (by decide) rfl (fun h36 => ?_) (fun h36 => ?_)
        · rw [nI_eq (by omega) (by omega)] at h36
          have heL : e < L := by omega
          have hxe := hT.2.2.2.2 e heL
          refine g_aload_n (pc' := 51) dX8_faultOf_50 rfl rfl ?_
          refine g_iload_n (pc' := 52) dX8_faultOf_51 rfl rfl ?_
          refine gcv1 (pc' := 55) cwX8_74 cf8 dX8_faultOf_52 rfl l8 (Nat.le_of_ble_eq_true rfl) (Nat.le_of_ble_eq_true rfl) (Nat.le_of_ble_eq_true rfl) (Nat.le_of_ble_eq_true rfl) (Nat.le_of_ble_eq_true rfl) (kX8_typedAt hMT hT (by omega) ?_)
          refine g_bipush (pc' := 57) (v := 44) dX8_faultOf_55 rfl rfl ?_
          refine g_icmp_eq dX8_faultOf_57 (tg := 75) (pc' := 60) (by decide) rfl (fun h57 => ?_) (fun h57 => ?_)
          · try rw [show (44 : Int32) = nI 44 from rfl, nI_eq (Nat.lt_of_le_of_lt (hT.le _) (by decide)) (by decide)] at h57
            try rw [show (32 : Int32) = nI 32 from rfl, nI_eq (Nat.lt_of_le_of_lt (hT.le _) (by decide)) (by decide)] at h67
            try rw [show (4 : Int32) = nI 4 from rfl, nI_leI (by decide) (by omega)] at h72
            refine g_iconst (pc' := 76) (v := 1) dX8_faultOf_75 rfl rfl ?_
            refine g_goto dX8_faultOf_76 (pc' := 80) (by decide) ?_
            refine gistore_n3 (pc' := 81) dX8_faultOf_80 rfl (Nat.le_of_ble_eq_true rfl) rfl ?_
            refine g_iload_n (pc' := 82) dX8_faultOf_81 rfl rfl ?_
            refine g_if_ne dX8_faultOf_82 (tg := 87) (pc' := 85) (by decide) rfl (fun h82 => ?_) (fun h82 => absurd h82 (by decide))
            refine g_aload_n (pc' := 88) dX8_faultOf_87 rfl rfl ?_
            refine g_iload_n (pc' := 89) dX8_faultOf_88 rfl rfl ?_
            refine gcv1 (pc' := 92) cwX8_74 cf8 dX8_faultOf_89 rfl l8 (Nat.le_of_ble_eq_true rfl) (Nat.le_of_ble_eq_true rfl) (Nat.le_of_ble_eq_true rfl) (Nat.le_of_ble_eq_true rfl) (Nat.le_of_ble_eq_true rfl) (kX8_typedAt hMT hT (by omega) ?_)
            refine g_bipush (pc' := 94) (v := 32) dX8_faultOf_92 rfl rfl ?_
            refine g_icmp_ne dX8_faultOf_94 (tg := 117) (pc' := 97) (by decide) rfl (fun h94 => ?_) (fun h94 => ?_)
            · try rw [show (32 : Int32) = nI 32 from rfl, nI_eq (Nat.lt_of_le_of_lt (hT.le _) (by decide)) (by decide)] at h94
              refine g_iload_n (pc' := 118) dX8_faultOf_117 rfl rfl ?_
              refine g_iconst (pc' := 119) (v := 1) dX8_faultOf_118 rfl rfl ?_
              refine g_iadd (pc' := 120) dX8_faultOf_119 rfl ?_
              rw [nI_1]
              refine gistore_n1 (pc' := 121) dX8_faultOf_120 rfl (Nat.le_of_ble_eq_true rfl) rfl ?_
              refine g_goto dX8_faultOf_121 (pc' := 16) (by decide) ?_
              first
                | (exfalso; omega)
                | (refine ih (e + 1) f _ _ (by omega) (by omega) hf hK hfs (by rw [hFE, hFr, if_pos h57]) ?_
                   rw [hrd, rdF, hFr, if_pos h57]; rfl)
                | (have hFi : FE x f a = .inr e := by rw [hFr, if_neg h57]
                   have hdu : dueC f = 32 := if_neg (by omega)
                   have hfx : fsx x (f + 1) = e + 1 := by rw [fsx, hFE, hFi]
                   refine ih (e + 1) (f + 1) _ _ (by omega) (by omega) (by omega) (hK.set (by omega) (by omega)) (fun g hg => ?_) (by rw [hfx]) ?_
                   · rw [aI_saI]
                     by_cases q : g = f + 1
                     · subst q; rw [if_pos ⟨rfl, rfl, rfl⟩, hfx]
                     · rw [if_neg (fun z => q (by omega))]; exact hfs g (by omega)
                   · rw [hrd, rdF, hFi]
                     show (if x e = dueC f then rd x (4 - f) (f + 1) (e + 1) else some e) = _
                     rw [if_pos (by omega), show 4 - f = (3 - f) + 1 by omega, rdF_eq (by omega)])
            · try rw [show (32 : Int32) = nI 32 from rfl, nI_eq (Nat.lt_of_le_of_lt (hT.le _) (by decide)) (by decide)] at h94
              refine g_iload_n (pc' := 98) dX8_faultOf_97 rfl rfl ?_
              refine g_iconst (pc' := 99) (v := 1) dX8_faultOf_98 rfl rfl ?_
              refine g_iadd (pc' := 100) dX8_faultOf_99 rfl ?_
              rw [nI_1]
              refine gistore_n2 (pc' := 101) dX8_faultOf_100 rfl (Nat.le_of_ble_eq_true rfl) rfl ?_
              refine g_aload_n (pc' := 102) dX8_faultOf_101 rfl rfl ?_
              refine ggX8_23 (pc' := 105) rfl dX8_faultOf_102 rfl l8 r266 ?_
              refine g_iconst (pc' := 106) (v := 5) dX8_faultOf_105 rfl rfl ?_
              refine g_aload_n (pc' := 107) dX8_faultOf_106 rfl rfl ?_
              refine ggX8_98 (pc' := 110) rfl dX8_faultOf_107 rfl l8 ?_
              rw [hnT]
              refine g_imul (pc' := 111) dX8_faultOf_110 rfl ?_
              rw [show (5 : Int32) = nI 5 from rfl, pk_mul]
              refine g_iload_n (pc' := 112) dX8_faultOf_111 rfl rfl ?_
              refine g_iadd (pc' := 113) dX8_faultOf_112 rfl ?_
              rw [nI_add]
              refine g_iload_n (pc' := 114) dX8_faultOf_113 rfl rfl ?_
              refine g_iconst (pc' := 115) (v := 1) dX8_faultOf_114 rfl rfl ?_
              refine g_iadd (pc' := 116) dX8_faultOf_115 rfl ?_
              rw [nI_1]
              refine g_iast (pc' := 117) (n := 5 * n + (f + 1)) dX8_faultOf_116 rfl (by decide) rfl rfl (show 5 * n + (f + 1) < 30 by omega) l22 ?_
              try rw [show (32 : Int32) = nI 32 from rfl, nI_eq (Nat.lt_of_le_of_lt (hT.le _) (by decide)) (by decide)] at h94
              refine g_iload_n (pc' := 118) dX8_faultOf_117 rfl rfl ?_
              refine g_iconst (pc' := 119) (v := 1) dX8_faultOf_118 rfl rfl ?_
              refine g_iadd (pc' := 120) dX8_faultOf_119 rfl ?_
              rw [nI_1]
              refine gistore_n1 (pc' := 121) dX8_faultOf_120 rfl (Nat.le_of_ble_eq_true rfl) rfl ?_
              refine g_goto dX8_faultOf_121 (pc' := 16) (by decide) ?_
              first
                | (exfalso; omega)
                | (refine ih (e + 1) f _ _ (by omega) (by omega) hf hK hfs (by rw [hFE, hFr, if_pos h57]) ?_
                   rw [hrd, rdF, hFr, if_pos h57]; rfl)
                | (have hFi : FE x f a = .inr e := by rw [hFr, if_neg h57]
                   have hdu : dueC f = 32 := if_neg (by omega)
                   have hfx : fsx x (f + 1) = e + 1 := by rw [fsx, hFE, hFi]
                   refine ih (e + 1) (f + 1) _ _ (by omega) (by omega) (by omega) (hK.set (by omega) (by omega)) (fun g hg => ?_) (by rw [hfx]) ?_
                   · rw [aI_saI]
                     by_cases q : g = f + 1
                     · subst q; rw [if_pos ⟨rfl, rfl, rfl⟩, hfx]
                     · rw [if_neg (fun z => q (by omega))]; exact hfs g (by omega)
                   · rw [hrd, rdF, hFi]
                     show (if x e = dueC f then rd x (4 - f) (f + 1) (e + 1) else some e) = _
                     rw [if_pos (by omega), show 4 - f = (3 - f) + 1 by omega, rdF_eq (by omega)])
          · try rw [show (44 : Int32) = nI 44 from rfl, nI_eq (Nat.lt_of_le_of_lt (hT.le _) (by decide)) (by decide)] at h57
            refine g_aload_n (pc' := 61) dX8_faultOf_60 rfl rfl ?_
            refine g_iload_n (pc' := 62) dX8_faultOf_61 rfl rfl ?_
            refine gcv1 (pc' := 65) cwX8_74 cf8 dX8_faultOf_62 rfl l8 (Nat.le_of_ble_eq_true rfl) (Nat.le_of_ble_eq_true rfl) (Nat.le_of_ble_eq_true rfl) (Nat.le_of_ble_eq_true rfl) (Nat.le_of_ble_eq_true rfl) (kX8_typedAt hMT hT (by omega) ?_)
            refine g_bipush (pc' := 67) (v := 32) dX8_faultOf_65 rfl rfl ?_
            refine g_icmp_ne dX8_faultOf_67 (tg := 79) (pc' := 70) (by decide) rfl (fun h67 => ?_) (fun h67 => ?_)
            · try rw [show (32 : Int32) = nI 32 from rfl, nI_eq (Nat.lt_of_le_of_lt (hT.le _) (by decide)) (by decide)] at h67
              try rw [show (4 : Int32) = nI 4 from rfl, nI_leI (by decide) (by omega)] at h72
              refine g_iconst (pc' := 80) (v := 0) dX8_faultOf_79 rfl rfl ?_
              refine gistore_n3 (pc' := 81) dX8_faultOf_80 rfl (Nat.le_of_ble_eq_true rfl) rfl ?_
              refine g_iload_n (pc' := 82) dX8_faultOf_81 rfl rfl ?_
              refine g_if_ne dX8_faultOf_82 (tg := 87) (pc' := 85) (by decide) rfl (fun h82 => absurd (by decide) h82) (fun h82 => ?_)
              refine g_iload_n (pc' := 86) dX8_faultOf_85 rfl rfl ?_
              refine g_iret dX8_faultOf_86 rfl rfl (Nat.le_of_ble_eq_true rfl) (Nat.le_of_ble_eq_true rfl) ?_
              have hFi : FE x f a = .inr e := by rw [hFr, if_neg h57]
              have hr : rd x 5 0 0 = some e := by
                rw [hrd, rdF, hFi]
                refine if_neg ?_
                unfold dueC
                split <;> omega
              exact gq (fin (fun z => by cases hr.symm.trans z)) (by rw [hr]; rfl)
            · try rw [show (32 : Int32) = nI 32 from rfl, nI_eq (Nat.lt_of_le_of_lt (hT.le _) (by decide)) (by decide)] at h67
              refine g_iload_n (pc' := 71) dX8_faultOf_70 rfl rfl ?_
              refine g_iconst (pc' := 72) (v := 4) dX8_faultOf_71 rfl rfl ?_
              refine g_icmp_ge dX8_faultOf_72 (tg := 79) (pc' := 75) (by decide) rfl (fun h72 => ?_) (fun h72 => ?_)
              · try rw [show (32 : Int32) = nI 32 from rfl, nI_eq (Nat.lt_of_le_of_lt (hT.le _) (by decide)) (by decide)] at h67
                try rw [show (4 : Int32) = nI 4 from rfl, nI_leI (by decide) (by omega)] at h72
                refine g_iconst (pc' := 80) (v := 0) dX8_faultOf_79 rfl rfl ?_
                refine gistore_n3 (pc' := 81) dX8_faultOf_80 rfl (Nat.le_of_ble_eq_true rfl) rfl ?_
                refine g_iload_n (pc' := 82) dX8_faultOf_81 rfl rfl ?_
                refine g_if_ne dX8_faultOf_82 (tg := 87) (pc' := 85) (by decide) rfl (fun h82 => absurd (by decide) h82) (fun h82 => ?_)
                refine g_iload_n (pc' := 86) dX8_faultOf_85 rfl rfl ?_
                refine g_iret dX8_faultOf_86 rfl rfl (Nat.le_of_ble_eq_true rfl) (Nat.le_of_ble_eq_true rfl) ?_
                have hFi : FE x f a = .inr e := by rw [hFr, if_neg h57]
                have hr : rd x 5 0 0 = some e := by
                  rw [hrd, rdF, hFi]
                  refine if_neg ?_
                  unfold dueC
                  split <;> omega
                exact gq (fin (fun z => by cases hr.symm.trans z)) (by rw [hr]; rfl)
              · try rw [show (44 : Int32) = nI 44 from rfl, nI_eq (Nat.lt_of_le_of_lt (hT.le _) (by decide)) (by decide)] at h57
                try rw [show (32 : Int32) = nI 32 from rfl, nI_eq (Nat.lt_of_le_of_lt (hT.le _) (by decide)) (by decide)] at h67
                try rw [show (4 : Int32) = nI 4 from rfl, nI_leI (by decide) (by omega)] at h72
                refine g_iconst (pc' := 76) (v := 1) dX8_faultOf_75 rfl rfl ?_
                refine g_goto dX8_faultOf_76 (pc' := 80) (by decide) ?_
                refine gistore_n3 (pc' := 81) dX8_faultOf_80 rfl (Nat.le_of_ble_eq_true rfl) rfl ?_
                refine g_iload_n (pc' := 82) dX8_faultOf_81 rfl rfl ?_
                refine g_if_ne dX8_faultOf_82 (tg := 87) (pc' := 85) (by decide) rfl (fun h82 => ?_) (fun h82 => absurd h82 (by decide))
                refine g_aload_n (pc' := 88) dX8_faultOf_87 rfl rfl ?_
                refine g_iload_n (pc' := 89) dX8_faultOf_88 rfl rfl ?_
                refine gcv1 (pc' := 92) cwX8_74 cf8 dX8_faultOf_89 rfl l8 (Nat.le_of_ble_eq_true rfl) (Nat.le_of_ble_eq_true rfl) (Nat.le_of_ble_eq_true rfl) (Nat.le_of_ble_eq_true rfl) (Nat.le_of_ble_eq_true rfl) (kX8_typedAt hMT hT (by omega) ?_)
                refine g_bipush (pc' := 94) (v := 32) dX8_faultOf_92 rfl rfl ?_
                refine g_icmp_ne dX8_faultOf_94 (tg := 117) (pc' := 97) (by decide) rfl (fun h94 => ?_) (fun h94 => ?_)
                · try rw [show (32 : Int32) = nI 32 from rfl, nI_eq (Nat.lt_of_le_of_lt (hT.le _) (by decide)) (by decide)] at h94
                  refine g_iload_n (pc' := 118) dX8_faultOf_117 rfl rfl ?_
                  refine g_iconst (pc' := 119) (v := 1) dX8_faultOf_118 rfl rfl ?_
                  refine g_iadd (pc' := 120) dX8_faultOf_119 rfl ?_
                  rw [nI_1]
                  refine gistore_n1 (pc' := 121) dX8_faultOf_120 rfl (Nat.le_of_ble_eq_true rfl) rfl ?_
                  refine g_goto dX8_faultOf_121 (pc' := 16) (by decide) ?_
                  first
                    | (exfalso; omega)
                    | (refine ih (e + 1) f _ _ (by omega) (by omega) hf hK hfs (by rw [hFE, hFr, if_pos h57]) ?_
                       rw [hrd, rdF, hFr, if_pos h57]; rfl)
                    | (have hFi : FE x f a = .inr e := by rw [hFr, if_neg h57]
                       have hdu : dueC f = 32 := if_neg (by omega)
                       have hfx : fsx x (f + 1) = e + 1 := by rw [fsx, hFE, hFi]
                       refine ih (e + 1) (f + 1) _ _ (by omega) (by omega) (by omega) (hK.set (by omega) (by omega)) (fun g hg => ?_) (by rw [hfx]) ?_
                       · rw [aI_saI]
                         by_cases q : g = f + 1
                         · subst q; rw [if_pos ⟨rfl, rfl, rfl⟩, hfx]
                         · rw [if_neg (fun z => q (by omega))]; exact hfs g (by omega)
                       · rw [hrd, rdF, hFi]
                         show (if x e = dueC f then rd x (4 - f) (f + 1) (e + 1) else some e) = _
                         rw [if_pos (by omega), show 4 - f = (3 - f) + 1 by omega, rdF_eq (by omega)])
                · try rw [show (32 : Int32) = nI 32 from rfl, nI_eq (Nat.lt_of_le_of_lt (hT.le _) (by decide)) (by decide)] at h94
                  refine g_iload_n (pc' := 98) dX8_faultOf_97 rfl rfl ?_
                  refine g_iconst (pc' := 99) (v := 1) dX8_faultOf_98 rfl rfl ?_
                  refine g_iadd (pc' := 100) dX8_faultOf_99 rfl ?_
                  rw [nI_1]
                  refine gistore_n2 (pc' := 101) dX8_faultOf_100 rfl (Nat.le_of_ble_eq_true rfl) rfl ?_
                  refine g_aload_n (pc' := 102) dX8_faultOf_101 rfl rfl ?_
                  refine ggX8_23 (pc' := 105) rfl dX8_faultOf_102 rfl l8 r266 ?_
                  refine g_iconst (pc' := 106) (v := 5) dX8_faultOf_105 rfl rfl ?_
                  refine g_aload_n (pc' := 107) dX8_faultOf_106 rfl rfl ?_
                  refine ggX8_98 (pc' := 110) rfl dX8_faultOf_107 rfl l8 ?_
                  rw [hnT]
                  refine g_imul (pc' := 111) dX8_faultOf_110 rfl ?_
                  rw [show (5 : Int32) = nI 5 from rfl, pk_mul]
                  refine g_iload_n (pc' := 112) dX8_faultOf_111 rfl rfl ?_
                  refine g_iadd (pc' := 113) dX8_faultOf_112 rfl ?_
                  rw [nI_add]
                  refine g_iload_n (pc' := 114) dX8_faultOf_113 rfl rfl ?_
                  refine g_iconst (pc' := 115) (v := 1) dX8_faultOf_114 rfl rfl ?_
                  refine g_iadd (pc' := 116) dX8_faultOf_115 rfl ?_
                  rw [nI_1]
                  refine g_iast (pc' := 117) (n := 5 * n + (f + 1)) dX8_faultOf_116 rfl (by decide) rfl rfl (show 5 * n + (f + 1) < 30 by omega) l22 ?_
                  try rw [show (32 : Int32) = nI 32 from rfl, nI_eq (Nat.lt_of_le_of_lt (hT.le _) (by decide)) (by decide)] at h94
                  refine g_iload_n (pc' := 118) dX8_faultOf_117 rfl rfl ?_
                  refine g_iconst (pc' := 119) (v := 1) dX8_faultOf_118 rfl rfl ?_
                  refine g_iadd (pc' := 120) dX8_faultOf_119 rfl ?_
                  rw [nI_1]
                  refine gistore_n1 (pc' := 121) dX8_faultOf_120 rfl (Nat.le_of_ble_eq_true rfl) rfl ?_
                  refine g_goto dX8_faultOf_121 (pc' := 16) (by decide) ?_
                  first
                    | (exfalso; omega)
                    | (refine ih (e + 1) f _ _ (by omega) (by omega) hf hK hfs (by rw [hFE, hFr, if_pos h57]) ?_
                       rw [hrd, rdF, hFr, if_pos h57]; rfl)
                    | (have hFi : FE x f a = .inr e := by rw [hFr, if_neg h57]
                       have hdu : dueC f = 32 := if_neg (by omega)
                       have hfx : fsx x (f + 1) = e + 1 := by rw [fsx, hFE, hFi]
                       refine ih (e + 1) (f + 1) _ _ (by omega) (by omega) (by omega) (hK.set (by omega) (by omega)) (fun g hg => ?_) (by rw [hfx]) ?_
                       · rw [aI_saI]
                         by_cases q : g = f + 1
                         · subst q; rw [if_pos ⟨rfl, rfl, rfl⟩, hfx]
                         · rw [if_neg (fun z => q (by omega))]; exact hfs g (by omega)
                       · rw [hrd, rdF, hFi]
                         show (if x e = dueC f then rd x (4 - f) (f + 1) (e + 1) else some e) = _
                         rw [if_pos (by omega), show 4 - f = (3 - f) + 1 by omega, rdF_eq (by omega)])
        · rw [nI_eq (by omega) (by omega)] at h36
          refine g_iload_n (pc' := 40) dX8_faultOf_39 rfl rfl ?_
          refine g_iconst (pc' := 41) (v := 4) dX8_faultOf_40 rfl rfl ?_
          refine g_icmp_ne dX8_faultOf_41 (tg := 48) (pc' := 44) (by decide) rfl (fun h41 => ?_) (fun h41 => ?_)
          · rw [show (4 : Int32) = nI 4 from rfl, nI_eq (by omega) (by decide)] at h41
            refine g_iload_n (pc' := 49) dX8_faultOf_48 rfl rfl ?_
            refine g_iret dX8_faultOf_49 rfl rfl (Nat.le_of_ble_eq_true rfl) (Nat.le_of_ble_eq_true rfl) ?_
            have hx0 := hT.2.2.2.1 L (Nat.le_refl _)
            subst h36
            have hFi : FE x f a = .inr e := by rw [hFr, hx0, if_neg (by decide)]
            first
              | (have hr : rd x 5 0 0 = none := by
                   rw [hrd, rdF, hFi]
                   subst h41
                   show (if x e = 0 then none else some e) = none
                   exact if_pos hx0
                 exact gq (fin (fun _ => h41)) (by rw [hr]; rfl))
              | (have hr : rd x 5 0 0 = some e := by
                   rw [hrd, rdF, hFi]
                   exact if_neg (by rw [hx0, show dueC f = 32 from if_neg h41]; decide)
                 exact gq (fin (fun z => by cases hr.symm.trans z)) (by rw [hr]; rfl))
          · rw [show (4 : Int32) = nI 4 from rfl, nI_eq (by omega) (by decide)] at h41
            refine g_iconst (pc' := 45) (v := (-1)) dX8_faultOf_44 rfl rfl ?_
            refine g_goto dX8_faultOf_45 (pc' := 49) (by decide) ?_
            refine g_iret dX8_faultOf_49 rfl rfl (Nat.le_of_ble_eq_true rfl) (Nat.le_of_ble_eq_true rfl) ?_
            have hx0 := hT.2.2.2.1 L (Nat.le_refl _)
            subst h36
            have hFi : FE x f a = .inr e := by rw [hFr, hx0, if_neg (by decide)]
            first
              | (have hr : rd x 5 0 0 = none := by
                   rw [hrd, rdF, hFi]
                   subst h41
                   show (if x e = 0 then none else some e) = none
                   exact if_pos hx0
                 exact gq (fin (fun _ => h41)) (by rw [hr]; rfl))
              | (have hr : rd x 5 0 0 = some e := by
                   rw [hrd, rdF, hFi]
                   exact if_neg (by rw [hx0, show dueC f = 32 from if_neg h41]; decide)
                 exact gq (fin (fun z => by cases hr.symm.trans z)) (by rw [hr]; rfl))
  refine g_iconst (pc' := 1) (v := 0) dX8_faultOf_0 rfl rfl ?_
  refine gistore_n1 (pc' := 2) dX8_faultOf_1 rfl (Nat.le_of_ble_eq_true rfl) rfl ?_
  refine g_iconst (pc' := 3) (v := 0) dX8_faultOf_2 rfl rfl ?_
  refine gistore_n2 (pc' := 4) dX8_faultOf_3 rfl (Nat.le_of_ble_eq_true rfl) rfl ?_
  refine g_aload_n (pc' := 5) dX8_faultOf_4 rfl rfl ?_
  refine ggX8_23 (pc' := 8) rfl dX8_faultOf_5 rfl l8 r266 ?_
  refine g_iconst (pc' := 9) (v := 5) dX8_faultOf_8 rfl rfl ?_
  refine g_aload_n (pc' := 10) dX8_faultOf_9 rfl rfl ?_
  refine ggX8_98 (pc' := 13) rfl dX8_faultOf_10 rfl l8 ?_
  rw [hn]
  refine g_imul (pc' := 14) dX8_faultOf_13 rfl ?_
  rw [show (5 : Int32) = nI 5 from rfl, pk_mul]
  refine g_iconst (pc' := 15) (v := 0) dX8_faultOf_14 rfl rfl ?_
  refine g_iast (pc' := 16) (n := 5 * n) dX8_faultOf_15 rfl (by decide) rfl rfl (show 5 * n < 30 by omega) l22 ?_
  refine LP (L + 1) 0 0 _ _ (by omega) (by omega) (by omega) (fK.rf.set (by omega) (by omega)) (fun g hg => ?_) rfl (rdF_eq rfl)
  rw [show g = 0 by omega]
  exact if_pos ⟨rfl, rfl, rfl⟩

