/-! THE CLASS (10): the typed text -/
/-- the characters: the length, the sign at a place -/
def xl (S : gS) : Nat := (fI S 193 0 0).toNatClampNeg
def xc (S : gS) (p : Nat) : Nat := if p < xl S then (aI S 10 0 p).toNatClampNeg else 0
def TextOk (S : gS) : Prop := fI S 193 0 0 = nI (xl S) ∧ xl S ≤ 60 ∧ ∀ i, i < xl S → 32 ≤ xc S i ∧ xc S i ≤ 126 ∧ aI S 10 0 i = nI (xc S i)
theorem xc_in {S : gS} (h : TextOk S) {p : Nat} (hp : p < xl S) : 32 ≤ xc S p ∧ xc S p ≤ 126 := ⟨(h.2.2 p hp).1, (h.2.2 p hp).2.1⟩
theorem xc_out {S : gS} {p : Nat} (hp : xl S ≤ p) : xc S p = 0 := by rw [xc, if_neg (by omega)]
theorem xc_le {S : gS} (h : TextOk S) (p : Nat) : xc S p ≤ 126 := by
  rcases Nat.lt_or_ge p (xl S) with q | q
  · exact (xc_in h q).2
  · rw [xc_out q]; omega
theorem xc_nz {S : gS} {p : Nat} (h : xc S p ≠ 0) : p < xl S := by
  rcases Nat.lt_or_ge p (xl S) with q | q
  · exact q
  · exact absurd (xc_out q) h
theorem kSign {E : gE} {S : gS} {p : Nat} {Q : Option gV → gS → Prop} (l6 : lv S 6 0 0) (l10 : lv S 10 0 0) (r192 : fR S 192 0 0 = some (10, 0, 0)) (hX : TextOk S) (hp : p < 2 ^ 30) (hQ : Q (some (vI (nI (xc S p)))) S) : gRun E mX6_signAt 1 0 0 [vR 6 0 0, vI (nI p)] S [] Q :=
  kX6_signAt (n := xl S) l6 l10 r192 hX.2.1 hp hX.1 (fun i hi => ⟨xc S i, by have := (xc_in hX hi).2; omega, (hX.2.2 i hi).2.2⟩) (gq hQ (by
    rw [tSign, xc]
    split
    · rename_i h
      have := (hX.2.2 p h).2.2
      rw [xc, if_pos h] at this
      exact this.symm
    · rfl))
def rowB (r i : Nat) : Nat := r / 2 ^ (8 * i) % 256
theorem rowB_lt (r i : Nat) : rowB r i < 256 := Nat.mod_lt _ (by decide)
theorem row_and {n : Nat} (hn : n < 2 ^ 64) : lN n &&& 255 = lN (n % 256) := wb_mask (k := 8) hn (by decide)
def xAdd (r : Nat) : Nat → Nat → Option Nat
  | 0, i => some i
  | k + 1, i => if rowB r i = 0 then some i else if rowB r i < 32 ∨ 126 < rowB r i then none else xAdd r k (i + 1)
def tCpy (r l : Nat) : Nat → gS → gS
  | 0, S => S
  | n + 1, S => saI (tCpy r l n S) 10 0 (l + n) (nI (rowB r n))
def tApp (S : gS) (r n : Nat) : gS := sfI (tCpy r (xl S) n S) 193 0 0 (nI (xl S + n))
/-- type's answer and state -/
def tType (S : gS) (r : Nat) : Bool × gS := match xAdd r 8 0 with
  | none => (false, S)
  | some n => if 60 < xl S + n then (false, S) else (true, tApp S r n)
theorem xAdd_in (r : Nat) : ∀ k i n, xAdd r k i = some n → i ≤ n ∧ n ≤ i + k ∧ (∀ a, i ≤ a → a < n → 32 ≤ rowB r a ∧ rowB r a ≤ 126)
  | 0, i, n, h => by cases h; exact ⟨Nat.le_refl _, Nat.le_refl _, fun a h1 h2 => by omega⟩
  | k + 1, i, n, h => by
    unfold xAdd at h
    split at h
    · cases h; exact ⟨Nat.le_refl _, by omega, fun a h1 h2 => by omega⟩
    · split at h
      · cases h
      · rename_i hb
        obtain ⟨h1, h2, h3⟩ := xAdd_in r k (i + 1) n h
        refine ⟨by omega, by omega, fun a h4 h5 => ?_⟩
        rcases Nat.eq_or_lt_of_le h4 with e | e
        · rw [← e]; omega
        · exact h3 a e h5
theorem tCpy_keep (r l : Nat) (S : gS) : ∀ n, gL (tCpy r l n S) = gL S ∧ fR (tCpy r l n S) = fR S ∧ aR (tCpy r l n S) = aR S ∧ aL (tCpy r l n S) = aL S ∧ fI (tCpy r l n S) = fI S ∧ (∀ k, k ≠ 10 → aI (tCpy r l n S) k = aI S k) ∧ ∀ i, aI (tCpy r l n S) 10 0 i = if l ≤ i ∧ i < l + n then nI (rowB r (i - l)) else aI S 10 0 i
  | 0 => ⟨rfl, rfl, rfl, rfl, rfl, fun _ _ => rfl, fun i => by rw [if_neg (by omega)]; rfl⟩
  | n + 1 => by
    obtain ⟨h1, h2, h3, h4, h5, h6, h7⟩ := tCpy_keep r l S n
    refine ⟨h1, h2, h3, h4, h5, fun k hk => ?_, fun i => ?_⟩
    · rw [← h6 k hk]
      funext j t
      exact if_neg (fun z => hk z.1)
    · rw [tCpy, aI_saI, h7]
      by_cases e : i = l + n
      · rw [if_pos ⟨rfl, rfl, e⟩, if_pos (by omega), e, Nat.add_sub_cancel_left]
      · rw [if_neg (fun z => e z.2.2)]
        by_cases c : l ≤ i ∧ i < l + n
        · rw [if_pos c, if_pos (by omega)]
        · rw [if_neg c, if_neg (by omega)]
theorem tApp_ok {S : gS} {r n : Nat} (h : TextOk S) (hn : xl S + n ≤ 60) (hb : ∀ a, a < n → 32 ≤ rowB r a ∧ rowB r a ≤ 126) : TextOk (tApp S r n) ∧ xl (tApp S r n) = xl S + n ∧ ∀ i, xc (tApp S r n) i = if i < xl S then xc S i else if i < xl S + n then rowB r (i - xl S) else 0 := by
  have e1 : xl (tApp S r n) = xl S + n := by
    show (nI (xl S + n)).toNatClampNeg = _
    exact nI_clamp (by omega)
  have k7 := (tCpy_keep r (xl S) S n).2.2.2.2.2.2
  have ea : ∀ i, aI (tApp S r n) 10 0 i = if xl S ≤ i ∧ i < xl S + n then nI (rowB r (i - xl S)) else aI S 10 0 i := k7
  have ec : ∀ i, xc (tApp S r n) i = if i < xl S then xc S i else if i < xl S + n then rowB r (i - xl S) else 0 := fun i => by
    rw [xc, e1, ea]
    rcases Nat.lt_or_ge i (xl S) with q | q
    · rw [if_pos (by omega), if_neg (by omega), if_pos q, xc, if_pos q]
    · rcases Nat.lt_or_ge i (xl S + n) with q2 | q2
      · rw [if_pos q2, if_pos ⟨q, q2⟩, if_neg (by omega), if_pos q2, nI_clamp (by have := rowB_lt r (i - xl S); omega)]
      · rw [if_neg (by omega), if_neg (by omega), if_neg (by omega)]
  refine ⟨⟨by rw [e1]; rfl, by omega, fun i hi => ?_⟩, e1, ec⟩
  rw [e1] at hi
  rw [ec, ea]
  rcases Nat.lt_or_ge i (xl S) with q | q
  · rw [if_pos q, if_neg (by omega)]
    exact h.2.2 i q
  · rw [if_neg (by omega), if_pos hi, if_pos ⟨q, hi⟩]
    have := hb (i - xl S) (by omega)
    exact ⟨this.1, this.2, rfl⟩
set_option maxRecDepth 100000 in
set_option maxHeartbeats 2000000 in
theorem kX6_signOf {E : gE} {S : gS} {r i : Nat} {Q : Option gV → gS → Prop} (hr : r < 2 ^ 64) (hi : i < 8) (hQ : Q (some (vI (nI (rowB r i)))) S) : gRun E mX6_signOf 1 0 0 [vL (lN r), vI (nI i)] S [] Q := by
  refine gRun_of (ls := [some (vL (lN r)), none, some (vI (nI i))]) rfl (Nat.le_of_ble_eq_true rfl) rfl (fun ad => ?_)
  have hb := rowB_lt r i
  refine g_lload_n (pc' := 1) dX6_signOf_0 rfl rfl ?_
  refine g_bipush (pc' := 3) (v := 8) dX6_signOf_1 rfl rfl ?_
  refine g_iload_n (pc' := 4) dX6_signOf_3 rfl rfl ?_
  refine g_imul (pc' := 5) dX6_signOf_4 rfl ?_
  rw [show (8 : Int32) = nI 8 from rfl, pk_mul]
  refine g_lushr (pc' := 6) dX6_signOf_5 rfl ?_
  rw [wb_shr hr (by omega)]
  refine g_ldc2 (pc' := 9) dX6_signOf_6 rfl ckX6_21 ?_
  refine g_land (pc' := 10) dX6_signOf_9 rfl ?_
  rw [row_and (Nat.lt_of_le_of_lt (Nat.div_le_self _ _) hr)]
  refine g_l2i (pc' := 11) dX6_signOf_10 rfl ?_
  rw [lN_i]
  refine g_i2c (pc' := 12) dX6_signOf_11 rfl ?_
  rw [pk_char, pk_tn (by omega), show (r / 2 ^ (8 * i) % 256) % 65536 = rowB r i from Nat.mod_eq_of_lt (by have := rowB_lt r i; rw [rowB] at this; omega)]
  refine g_iret dX6_signOf_12 rfl (pk_charN (by omega)).1 (Nat.le_of_ble_eq_true rfl) (Nat.le_of_ble_eq_true rfl) ?_
  exact hQ

theorem pk_vn {q : Nat} (hq : q < 65536) : vp_nar .char (nI q) = nI q := by
  have h := (pk_charN hq).1
  rw [vp_nar_char]
  exact Value.int.inj h
set_option maxRecDepth 100000 in
set_option maxHeartbeats 2000000 in
theorem kX6_append {E : gE} {S : gS} {r : Nat} {Q : Option gV → gS → Prop} (l6 : lv S 6 0 0) (l10 : lv S 10 0 0) (r192 : fR S 192 0 0 = some (10, 0, 0)) (hX : TextOk S) (hr : r < 2 ^ 64) (hQ : Q (some (vI (bI (tType S r).1))) (tType S r).2) : gRun E mX6_append 2 0 0 [vR 6 0 0, vL (lN r)] S [] Q := by
  refine gRun_of (ls := [some (vR 6 0 0), some (vL (lN r)), none, none, none]) rfl (Nat.le_of_ble_eq_true rfl) rfl (fun ad => ?_)
  have hX60 := hX.2.1
  have L3 : ∀ (n : Nat) (hn8 : n ≤ 8) (hv : xAdd r 8 0 = some n) (w : Option gV), gG E mX6_append (gBof 2 0 0 ad [] Q) 54 [some (vR 6 0 0), some (vL (lN r)), none, some (vI (nI n)), w] [] S 0 0 := by
    intro n hn8 hv w
    rw [tType, hv] at hQ
    simp only at hQ
    have L2 : ∀ (k i : Nat) (_ : i + k = n) (_ : xl S + n ≤ 60) , ((hQ : Q (some (vI (bI true))) (tApp S r n)) → gG E mX6_append (gBof 2 0 0 ad [] Q) 70 [some (vR 6 0 0), some (vL (lN r)), none, some (vI (nI n)), some (vI (nI i))] [] (tCpy r (xl S) i S) 0 0) := by
      intro k
      induction k with
      | zero =>
        intro i hk h60 hQ
        have kp := tCpy_keep r (xl S) S i
        have l6T : lv (tCpy r (xl S) i S) 6 0 0 := by rw [lv, kp.1]; exact l6
        refine g_iload (pc' := 72) dX6_append_70 rfl rfl ?_
        refine g_iload_n (pc' := 73) dX6_append_72 rfl rfl ?_
        refine g_icmp_ge dX6_append_73 (tg := 100) (pc' := 76) (by decide) rfl (fun h73 => ?_) (fun h73 => absurd (by rw [nI_leI (by omega) (by omega)]; omega) h73)
        refine g_aload_n (pc' := 101) dX6_append_100 rfl rfl ?_
        refine g_dup (pc' := 102) dX6_append_101 rfl rfl ?_
        refine ggX6_13 (pc' := 105) rfl dX6_append_102 rfl l6T ?_
        refine g_iload_n (pc' := 106) dX6_append_105 rfl rfl ?_
        rw [show fI (tCpy r (xl S) i S) 193 0 0 = nI (xl S) from (congrFun (congrFun (congrFun kp.2.2.2.2.1 193) 0) 0).trans hX.1]
        refine g_iadd (pc' := 107) dX6_append_106 rfl ?_
        rw [nI_add]
        refine gpX6_13 (pc' := 110) rfl dX6_append_107 rfl l6T ?_
        refine g_iconst (pc' := 111) (v := 1) dX6_append_110 rfl rfl ?_
        refine g_iret dX6_append_111 rfl rfl (Nat.le_of_ble_eq_true rfl) (Nat.le_of_ble_eq_true rfl) ?_
        have e : i = n := by omega
        subst e
        exact hQ
      | succ k ih =>
        intro i hk h60 hQ
        have kp := tCpy_keep r (xl S) S i
        have l6T : lv (tCpy r (xl S) i S) 6 0 0 := by rw [lv, kp.1]; exact l6
        have l10T : lv (tCpy r (xl S) i S) 10 0 0 := by rw [lv, kp.1]; exact l10
        have r192T : fR (tCpy r (xl S) i S) 192 0 0 = some (10, 0, 0) := by rw [kp.2.1]; exact r192
        replace ih := fun i a b => ih i a b hQ
        refine g_iload (pc' := 72) dX6_append_70 rfl rfl ?_
        refine g_iload_n (pc' := 73) dX6_append_72 rfl rfl ?_
        refine g_icmp_ge dX6_append_73 (tg := 100) (pc' := 76) (by decide) rfl (fun h73 => absurd h73 (by rw [nI_leI (by omega) (by omega)]; omega)) (fun h73 => ?_)
        refine g_aload_n (pc' := 77) dX6_append_76 rfl rfl ?_
        refine ggX6_9 (pc' := 80) rfl dX6_append_77 rfl l6T r192T ?_
        refine g_aload_n (pc' := 81) dX6_append_80 rfl rfl ?_
        refine ggX6_13 (pc' := 84) rfl dX6_append_81 rfl l6T ?_
        refine g_iload (pc' := 86) dX6_append_84 rfl rfl ?_
        rw [show fI (tCpy r (xl S) i S) 193 0 0 = nI (xl S) from (congrFun (congrFun (congrFun kp.2.2.2.2.1 193) 0) 0).trans hX.1]
        refine g_iadd (pc' := 87) dX6_append_86 rfl ?_
        rw [nI_add]
        refine g_lload_n (pc' := 88) dX6_append_87 rfl rfl ?_
        refine g_iload (pc' := 90) dX6_append_88 rfl rfl ?_
        refine gcs2 (pc' := 93) cwX6_17 dX6_append_90 rfl (Nat.le_of_ble_eq_true rfl) (Nat.le_of_ble_eq_true rfl) (Nat.le_of_ble_eq_true rfl) (Nat.le_of_ble_eq_true rfl) (Nat.le_of_ble_eq_true rfl) (kX6_signOf (r := r) (i := i) hr (by omega) ?_)
        refine g_cast (pc' := 94) (n := xl S + i) dX6_append_93 rfl (by decide) rfl rfl (show xl S + i < 60 by omega) l10T (by have hb := rowB_lt r i; exact pk_vn (by omega)) ?_
        refine giinc4 (pc' := 97) (c := 1) dX6_append_94 rfl rfl (Nat.le_of_ble_eq_true rfl) rfl ?_
        refine g_goto dX6_append_97 (pc' := 70) (by decide) ?_
        rw [nI_1]
        exact ih (i + 1) (by omega) (by omega)
    refine g_aload_n (pc' := 55) dX6_append_54 rfl rfl ?_
    refine ggX6_13 (pc' := 58) rfl dX6_append_55 rfl l6 ?_
    refine g_iload_n (pc' := 59) dX6_append_58 rfl rfl ?_
    rw [hX.1]
    refine g_iadd (pc' := 60) dX6_append_59 rfl ?_
    rw [nI_add]
    refine g_bipush (pc' := 62) (v := 60) dX6_append_60 rfl rfl ?_
    refine g_icmp_le dX6_append_62 (tg := 67) (pc' := 65) (by decide) rfl (fun h62 => ?_) (fun h62 => ?_)
    · refine g_iconst (pc' := 68) (v := 0) dX6_append_67 rfl rfl ?_
      refine gistore4 (pc' := 70) dX6_append_68 rfl (Nat.le_of_ble_eq_true rfl) rfl ?_
      have hb9 : ¬ 60 < xl S + n := by
        rw [show (60 : Int32) = nI 60 from rfl, nI_leI (by omega) (by omega)] at h62
        omega
      rw [if_neg hb9] at hQ
      exact L2 n 0 (by omega) (by omega) hQ
    · refine g_iconst (pc' := 66) (v := 0) dX6_append_65 rfl rfl ?_
      refine g_iret dX6_append_66 rfl rfl (Nat.le_of_ble_eq_true rfl) (Nat.le_of_ble_eq_true rfl) ?_
      have hb9 : 60 < xl S + n := by
        rw [show (60 : Int32) = nI 60 from rfl, nI_leI (by omega) (by omega)] at h62
        omega
      rw [if_pos hb9] at hQ
      exact hQ
  have finF : xAdd r 8 0 = none → Q (some (vI 0)) S := fun e => by
    rw [tType, e] at hQ
    exact hQ
  have L1 : ∀ (k i : Nat) (_ : i + k = 8) (hv : xAdd r k i = xAdd r 8 0), gG E mX6_append (gBof 2 0 0 ad [] Q) 5 [some (vR 6 0 0), some (vL (lN r)), none, some (vI (nI i)), some (vI (nI i))] [] S 0 0 := by
    intro k
    induction k with
    | zero =>
      intro i hk hv
      refine g_iload (pc' := 7) dX6_append_5 rfl rfl ?_
      refine g_bipush (pc' := 9) (v := 8) dX6_append_7 rfl rfl ?_
      refine g_icmp_ge dX6_append_9 (tg := 54) (pc' := 12) (by decide) rfl (fun h9 => ?_) (fun h9 => absurd (by rw [show (8 : Int32) = nI 8 from rfl, nI_leI (by omega) (by omega)]; omega) h9)
      exact L3 i (by omega) (by rw [← hv]; rfl) _
    | succ k ih =>
      intro i hk hv
      refine g_iload (pc' := 7) dX6_append_5 rfl rfl ?_
      refine g_bipush (pc' := 9) (v := 8) dX6_append_7 rfl rfl ?_
      refine g_icmp_ge dX6_append_9 (tg := 54) (pc' := 12) (by decide) rfl (fun h9 => absurd h9 (by rw [show (8 : Int32) = nI 8 from rfl, nI_leI (by omega) (by omega)]; omega)) (fun h9 => ?_)
      refine g_lload_n (pc' := 13) dX6_append_12 rfl rfl ?_
      refine g_iload (pc' := 15) dX6_append_13 rfl rfl ?_
      refine gcs2 (pc' := 18) cwX6_17 dX6_append_15 rfl (Nat.le_of_ble_eq_true rfl) (Nat.le_of_ble_eq_true rfl) (Nat.le_of_ble_eq_true rfl) (Nat.le_of_ble_eq_true rfl) (Nat.le_of_ble_eq_true rfl) (kX6_signOf (r := r) (i := i) hr (by omega) ?_)
      have hb := rowB_lt r i
      refine g_if_eq dX6_append_18 (tg := 54) (pc' := 21) (by decide) rfl (fun h18 => ?_) (fun h18 => ?_)
      · exact L3 i (by omega) (by rw [← hv, xAdd, if_pos ((nz (by omega)).mp h18)]) _
      · refine g_lload_n (pc' := 22) dX6_append_21 rfl rfl ?_
        refine g_iload (pc' := 24) dX6_append_22 rfl rfl ?_
        refine gcs2 (pc' := 27) cwX6_17 dX6_append_24 rfl (Nat.le_of_ble_eq_true rfl) (Nat.le_of_ble_eq_true rfl) (Nat.le_of_ble_eq_true rfl) (Nat.le_of_ble_eq_true rfl) (Nat.le_of_ble_eq_true rfl) (kX6_signOf (r := r) (i := i) hr (by omega) ?_)
        refine g_bipush (pc' := 29) (v := 32) dX6_append_27 rfl rfl ?_
        refine g_icmp_lt dX6_append_29 (tg := 43) (pc' := 32) (by decide) rfl (fun h29 => ?_) (fun h29 => ?_)
        · refine g_iconst (pc' := 44) (v := 0) dX6_append_43 rfl rfl ?_
          refine g_iret dX6_append_44 rfl rfl (Nat.le_of_ble_eq_true rfl) (Nat.le_of_ble_eq_true rfl) ?_
          exact finF (by rw [← hv, xAdd, if_neg (fun z => h18 ((nz (by omega)).mpr z)), if_pos (by first | exact Or.inl ((nI_ltI (b := 32) (by omega) (by omega)).mp h29) | exact Or.inr (Nat.lt_of_not_le (fun z => h40 ((nI_leI (b := 126) (by omega) (by omega)).mpr z))))])
        · refine g_lload_n (pc' := 33) dX6_append_32 rfl rfl ?_
          refine g_iload (pc' := 35) dX6_append_33 rfl rfl ?_
          refine gcs2 (pc' := 38) cwX6_17 dX6_append_35 rfl (Nat.le_of_ble_eq_true rfl) (Nat.le_of_ble_eq_true rfl) (Nat.le_of_ble_eq_true rfl) (Nat.le_of_ble_eq_true rfl) (Nat.le_of_ble_eq_true rfl) (kX6_signOf (r := r) (i := i) hr (by omega) ?_)
          refine g_bipush (pc' := 40) (v := 126) dX6_append_38 rfl rfl ?_
          refine g_icmp_le dX6_append_40 (tg := 45) (pc' := 43) (by decide) rfl (fun h40 => ?_) (fun h40 => ?_)
          · refine giinc3 (pc' := 48) (c := 1) dX6_append_45 rfl rfl (Nat.le_of_ble_eq_true rfl) rfl ?_
            refine giinc4 (pc' := 51) (c := 1) dX6_append_48 rfl rfl (Nat.le_of_ble_eq_true rfl) rfl ?_
            refine g_goto dX6_append_51 (pc' := 5) (by decide) ?_
            rw [nI_1]
            exact ih (i + 1) (by omega) (by rw [← hv, xAdd, if_neg (fun z => h18 ((nz (by omega)).mpr z)), if_neg (by
              rintro (z | z)
              · exact h29 ((nI_ltI (b := 32) (by omega) (by omega)).mpr z)
              · exact absurd ((nI_leI (b := 126) (by omega) (by omega)).mp h40) (Nat.not_le.mpr z))])
          · refine g_iconst (pc' := 44) (v := 0) dX6_append_43 rfl rfl ?_
            refine g_iret dX6_append_44 rfl rfl (Nat.le_of_ble_eq_true rfl) (Nat.le_of_ble_eq_true rfl) ?_
            exact finF (by rw [← hv, xAdd, if_neg (fun z => h18 ((nz (by omega)).mpr z)), if_pos (by first | exact Or.inl ((nI_ltI (b := 32) (by omega) (by omega)).mp h29) | exact Or.inr (Nat.lt_of_not_le (fun z => h40 ((nI_leI (b := 126) (by omega) (by omega)).mpr z))))])
  refine g_iconst (pc' := 1) (v := 0) dX6_append_0 rfl rfl ?_
  refine gistore_n3 (pc' := 2) dX6_append_1 rfl (Nat.le_of_ble_eq_true rfl) rfl ?_
  refine g_iconst (pc' := 3) (v := 0) dX6_append_2 rfl rfl ?_
  refine gistore4 (pc' := 5) dX6_append_3 rfl (Nat.le_of_ble_eq_true rfl) rfl ?_
  exact L1 8 0 (by omega) rfl


set_option maxRecDepth 100000 in
set_option maxHeartbeats 2000000 in
theorem kX6_init {E : gE} {S : gS} {Q : Option gV → gS → Prop} (l6 : lv S 6 0 0) (hf : (10, 0, 0) ∉ gL S) (hQ : Q none (sfI (sfR (snew S 10 0 0) 192 0 0 (some (10, 0, 0))) 193 0 0 0)) : gRun E mX6_init 2 1 60 [vR 6 0 0] S [(10, 0, 0)] Q := by
  refine gRun_of (ls := [some (vR 6 0 0)]) rfl (Nat.le_of_ble_eq_true rfl) rfl (fun ad => ?_)
  refine g_aload_n (pc' := 1) dX6_init_0 rfl rfl ?_
  refine g_objInit (pc' := 4) oiX6 oi1 oi2 dX6_init_1 rfl (Nat.le_of_ble_eq_true rfl) (Nat.le_of_ble_eq_true rfl) ?_
  refine g_aload_n (pc' := 5) dX6_init_4 rfl rfl ?_
  refine g_bipush (pc' := 7) (v := 60) dX6_init_5 rfl rfl ?_
  refine g_newaC (pc' := 9) (k := 10) (j := 0) ac_char dX6_init_7 rfl (by decide) rfl (by decide) rfl (by decide) hf (List.mem_singleton.mpr rfl) (by simp [gNo]) (by simp [gNo]) (Nat.le_of_ble_eq_true rfl) (Nat.le_of_ble_eq_true rfl) ?_
  have l6 : lv (snew S 10 0 0) 6 0 0 := List.mem_append_left _ l6
  refine gpX6_9 (pc' := 12) rfl rfl dX6_init_9 rfl l6 (List.mem_append_right _ (List.mem_singleton.mpr rfl)) ?_
  refine g_aload_n (pc' := 13) dX6_init_12 rfl rfl ?_
  refine g_iconst (pc' := 14) (v := 0) dX6_init_13 rfl rfl ?_
  refine gpX6_13 (pc' := 17) rfl dX6_init_14 rfl l6 ?_
  refine g_vret dX6_init_17 rfl (Nat.le_of_ble_eq_true rfl) (Nat.le_of_ble_eq_true rfl) ?_
  exact hQ

set_option maxRecDepth 100000 in
set_option maxHeartbeats 2000000 in
theorem kX3_init {E : gE} {S : gS} {Q : Option gV → gS → Prop} (l3 : lv S 3 0 0) (hf : (13, 0, 0) ∉ gL S) (hQ : Q none (sfI (sfR (snew S 13 0 0) 96 0 0 (some (13, 0, 0))) 97 0 0 0)) : gRun E mX3_init 2 1 256 [vR 3 0 0] S [(13, 0, 0)] Q := by
  refine gRun_of (ls := [some (vR 3 0 0)]) rfl (Nat.le_of_ble_eq_true rfl) rfl (fun ad => ?_)
  refine g_aload_n (pc' := 1) dX3_init_0 rfl rfl ?_
  refine g_objInit (pc' := 4) oiX3 oi1 oi2 dX3_init_1 rfl (Nat.le_of_ble_eq_true rfl) (Nat.le_of_ble_eq_true rfl) ?_
  refine g_aload_n (pc' := 5) dX3_init_4 rfl rfl ?_
  refine g_sipush (pc' := 8) (v := 256) dX3_init_5 rfl rfl ?_
  refine g_newaI (pc' := 10) (k := 13) (j := 0) ac_int dX3_init_8 rfl (by decide) rfl (by decide) rfl (by decide) hf (List.mem_singleton.mpr rfl) (by simp [gNo]) (by simp [gNo]) (Nat.le_of_ble_eq_true rfl) (Nat.le_of_ble_eq_true rfl) ?_
  have l3 : lv (snew S 13 0 0) 3 0 0 := List.mem_append_left _ l3
  refine gpX3_9 (pc' := 13) rfl rfl dX3_init_10 rfl l3 (List.mem_append_right _ (List.mem_singleton.mpr rfl)) ?_
  refine g_aload_n (pc' := 14) dX3_init_13 rfl rfl ?_
  refine g_iconst (pc' := 15) (v := 0) dX3_init_14 rfl rfl ?_
  refine gpX3_13 (pc' := 18) rfl dX3_init_15 rfl l3 ?_
  refine g_vret dX3_init_18 rfl (Nat.le_of_ble_eq_true rfl) (Nat.le_of_ble_eq_true rfl) ?_
  exact hQ

