/-! THE MODEL (1): its parts, reading the typed text -/
def ModS (S : gS) : Prop := lv S 8 0 0 ∧ lv S 20 0 0 ∧ lv S 21 0 0 ∧ lv S 22 0 0 ∧ lv S 23 0 0 ∧ lv S 24 0 0 ∧ lv S 25 0 0 ∧ lv S 26 0 0 ∧ lv S 27 0 0 ∧ lv S 28 0 0 ∧ lv S 29 0 0 ∧ lv S 30 0 0 ∧ lv S 31 0 0 ∧ lv S 32 0 0 ∧ lv S 33 0 0 ∧ lv S 34 0 0 ∧ lv S 35 0 0 ∧ fR S 262 0 0 = some (20, 0, 0) ∧ fR S 265 0 0 = some (21, 0, 0) ∧ fR S 266 0 0 = some (22, 0, 0) ∧ fR S 267 0 0 = some (23, 0, 0) ∧ fR S 268 0 0 = some (24, 0, 0) ∧ fR S 269 0 0 = some (25, 0, 0) ∧ fR S 270 0 0 = some (26, 0, 0) ∧ fR S 271 0 0 = some (27, 0, 0) ∧ fR S 272 0 0 = some (28, 0, 0) ∧ fR S 273 0 0 = some (29, 0, 0) ∧ fR S 274 0 0 = some (30, 0, 0) ∧ fR S 275 0 0 = some (31, 0, 0) ∧ fR S 276 0 0 = some (32, 0, 0) ∧ fR S 277 0 0 = some (33, 0, 0) ∧ fR S 278 0 0 = some (34, 0, 0) ∧ fR S 280 0 0 = some (35, 0, 0)
/-- the typed text is x, of length L -/
def TxM (S : gS) (x : Nat → Nat) (L : Nat) : Prop := fI S 261 0 0 = nI L ∧ L ≤ 60 ∧ (∀ p, p < L → aI S 20 0 p = nI (x p)) ∧ txE x L
theorem TxM.le {S : gS} {x : Nat → Nat} {L : Nat} (h : TxM S x L) (p : Nat) : x p ≤ 126 := txE_le h.2.2.2 p
theorem bIq {a b : Bool} (h : a = b) : bI a = bI b := by rw [h]
def ovI (r : itR) : Int32 := match r with
  | .inl q => -1 - nI q
  | .inr d => nI d.1
set_option maxRecDepth 100000 in
set_option maxHeartbeats 2000000 in
theorem kX8_isDigit {E : gE} {S : gS} {c : Nat} {Q : Option gV → gS → Prop} (hc : c < 65536) (hQ : Q (some (vI (bI (isD c)))) S) : gRun E mX8_isDigit 1 0 0 [vI (nI c)] S [] Q := by
  refine gRun_of (ls := [some (vI (nI c))]) rfl (Nat.le_of_ble_eq_true rfl) rfl (fun ad => ?_)
  refine g_iload_n (pc' := 1) dX8_isDigit_0 rfl rfl ?_
  refine g_bipush (pc' := 3) (v := 48) dX8_isDigit_1 rfl rfl ?_
  refine g_icmp_lt dX8_isDigit_3 (tg := 16) (pc' := 6) (by decide) rfl (fun h3 => ?_) (fun h3 => ?_)
  · try rw [show (48 : Int32) = nI 48 from rfl, nI_ltI (by omega) (by decide)] at h3
    try rw [show (57 : Int32) = nI 57 from rfl, nI_ltI (by decide) (by omega)] at h9
    refine g_iconst (pc' := 17) (v := 0) dX8_isDigit_16 rfl rfl ?_
    refine g_iret dX8_isDigit_17 rfl rfl (Nat.le_of_ble_eq_true rfl) (Nat.le_of_ble_eq_true rfl) ?_
    first
      | exact gq hQ (bd_t (by omega))
      | exact gq hQ (bd_f (by omega))
  · rw [show (48 : Int32) = nI 48 from rfl, nI_ltI (by omega) (by decide)] at h3
    refine g_iload_n (pc' := 7) dX8_isDigit_6 rfl rfl ?_
    refine g_bipush (pc' := 9) (v := 57) dX8_isDigit_7 rfl rfl ?_
    refine g_icmp_gt dX8_isDigit_9 (tg := 16) (pc' := 12) (by decide) rfl (fun h9 => ?_) (fun h9 => ?_)
    · try rw [show (48 : Int32) = nI 48 from rfl, nI_ltI (by omega) (by decide)] at h3
      try rw [show (57 : Int32) = nI 57 from rfl, nI_ltI (by decide) (by omega)] at h9
      refine g_iconst (pc' := 17) (v := 0) dX8_isDigit_16 rfl rfl ?_
      refine g_iret dX8_isDigit_17 rfl rfl (Nat.le_of_ble_eq_true rfl) (Nat.le_of_ble_eq_true rfl) ?_
      first
        | exact gq hQ (bd_t (by omega))
        | exact gq hQ (bd_f (by omega))
    · rw [show (57 : Int32) = nI 57 from rfl, nI_ltI (by decide) (by omega)] at h9
      refine g_iconst (pc' := 13) (v := 1) dX8_isDigit_12 rfl rfl ?_
      refine g_goto dX8_isDigit_13 (pc' := 17) (by decide) ?_
      refine g_iret dX8_isDigit_17 rfl rfl (Nat.le_of_ble_eq_true rfl) (Nat.le_of_ble_eq_true rfl) ?_
      first
        | exact gq hQ (bd_t (by omega))
        | exact gq hQ (bd_f (by omega))

set_option maxRecDepth 100000 in
set_option maxHeartbeats 2000000 in
theorem kX8_least {E : gE} {S : gS} {f : Nat} {Q : Option gV → gS → Prop} (hf : f < 5) (hQ : Q (some (vI (nI (fLo f)))) S) : gRun E mX8_least 1 0 0 [vI (nI f)] S [] Q := by
  refine gRun_of (ls := [some (vI (nI f))]) rfl (Nat.le_of_ble_eq_true rfl) rfl (fun ad => ?_)
  have hff : f = 0 ∨ f = 1 ∨ f = 2 ∨ f = 3 ∨ f = 4 := by omega
  rcases hff with rfl | rfl | rfl | rfl | rfl
  · refine g_iload_n (pc' := 1) dX8_least_0 rfl rfl ?_
    refine g_iconst (pc' := 2) (v := 2) dX8_least_1 rfl rfl ?_
    refine g_icmp_eq dX8_least_2 (tg := 10) (pc' := 5) (by decide) rfl (fun h2 => absurd h2 (by decide)) (fun h2 => ?_)
    refine g_iload_n (pc' := 6) dX8_least_5 rfl rfl ?_
    refine g_iconst (pc' := 7) (v := 3) dX8_least_6 rfl rfl ?_
    refine g_icmp_ne dX8_least_7 (tg := 14) (pc' := 10) (by decide) rfl (fun h7 => ?_) (fun h7 => absurd h7 (by decide))
    refine g_iconst (pc' := 15) (v := 0) dX8_least_14 rfl rfl ?_
    refine g_iret dX8_least_15 rfl rfl (Nat.le_of_ble_eq_true rfl) (Nat.le_of_ble_eq_true rfl) ?_
    exact hQ
  · refine g_iload_n (pc' := 1) dX8_least_0 rfl rfl ?_
    refine g_iconst (pc' := 2) (v := 2) dX8_least_1 rfl rfl ?_
    refine g_icmp_eq dX8_least_2 (tg := 10) (pc' := 5) (by decide) rfl (fun h2 => absurd h2 (by decide)) (fun h2 => ?_)
    refine g_iload_n (pc' := 6) dX8_least_5 rfl rfl ?_
    refine g_iconst (pc' := 7) (v := 3) dX8_least_6 rfl rfl ?_
    refine g_icmp_ne dX8_least_7 (tg := 14) (pc' := 10) (by decide) rfl (fun h7 => ?_) (fun h7 => absurd h7 (by decide))
    refine g_iconst (pc' := 15) (v := 0) dX8_least_14 rfl rfl ?_
    refine g_iret dX8_least_15 rfl rfl (Nat.le_of_ble_eq_true rfl) (Nat.le_of_ble_eq_true rfl) ?_
    exact hQ
  · refine g_iload_n (pc' := 1) dX8_least_0 rfl rfl ?_
    refine g_iconst (pc' := 2) (v := 2) dX8_least_1 rfl rfl ?_
    refine g_icmp_eq dX8_least_2 (tg := 10) (pc' := 5) (by decide) rfl (fun h2 => ?_) (fun h2 => absurd rfl h2)
    refine g_iconst (pc' := 11) (v := 1) dX8_least_10 rfl rfl ?_
    refine g_goto dX8_least_11 (pc' := 15) (by decide) ?_
    refine g_iret dX8_least_15 rfl rfl (Nat.le_of_ble_eq_true rfl) (Nat.le_of_ble_eq_true rfl) ?_
    exact hQ
  · refine g_iload_n (pc' := 1) dX8_least_0 rfl rfl ?_
    refine g_iconst (pc' := 2) (v := 2) dX8_least_1 rfl rfl ?_
    refine g_icmp_eq dX8_least_2 (tg := 10) (pc' := 5) (by decide) rfl (fun h2 => absurd h2 (by decide)) (fun h2 => ?_)
    refine g_iload_n (pc' := 6) dX8_least_5 rfl rfl ?_
    refine g_iconst (pc' := 7) (v := 3) dX8_least_6 rfl rfl ?_
    refine g_icmp_ne dX8_least_7 (tg := 14) (pc' := 10) (by decide) rfl (fun h7 => absurd rfl h7) (fun h7 => ?_)
    refine g_iconst (pc' := 11) (v := 1) dX8_least_10 rfl rfl ?_
    refine g_goto dX8_least_11 (pc' := 15) (by decide) ?_
    refine g_iret dX8_least_15 rfl rfl (Nat.le_of_ble_eq_true rfl) (Nat.le_of_ble_eq_true rfl) ?_
    exact hQ
  · refine g_iload_n (pc' := 1) dX8_least_0 rfl rfl ?_
    refine g_iconst (pc' := 2) (v := 2) dX8_least_1 rfl rfl ?_
    refine g_icmp_eq dX8_least_2 (tg := 10) (pc' := 5) (by decide) rfl (fun h2 => absurd h2 (by decide)) (fun h2 => ?_)
    refine g_iload_n (pc' := 6) dX8_least_5 rfl rfl ?_
    refine g_iconst (pc' := 7) (v := 3) dX8_least_6 rfl rfl ?_
    refine g_icmp_ne dX8_least_7 (tg := 14) (pc' := 10) (by decide) rfl (fun h7 => ?_) (fun h7 => absurd h7 (by decide))
    refine g_iconst (pc' := 15) (v := 0) dX8_least_14 rfl rfl ?_
    refine g_iret dX8_least_15 rfl rfl (Nat.le_of_ble_eq_true rfl) (Nat.le_of_ble_eq_true rfl) ?_
    exact hQ

set_option maxRecDepth 100000 in
set_option maxHeartbeats 2000000 in
theorem kX8_most {E : gE} {S : gS} {f : Nat} {Q : Option gV → gS → Prop} (hf : f < 5) (hQ : Q (some (vI (nI (fHi f)))) S) : gRun E mX8_most 1 0 0 [vI (nI f)] S [] Q := by
  refine gRun_of (ls := [some (vI (nI f))]) rfl (Nat.le_of_ble_eq_true rfl) rfl (fun ad => ?_)
  have hff : f = 0 ∨ f = 1 ∨ f = 2 ∨ f = 3 ∨ f = 4 := by omega
  rcases hff with rfl | rfl | rfl | rfl | rfl
  · refine g_iload_n (pc' := 1) dX8_most_0 rfl rfl ?_
    refine g_tabIn (off := 31) dX8_most_1 (by decide) (by decide) rfl (tg := 32) (by decide) ?_
    refine g_bipush (pc' := 34) (v := 59) dX8_most_32 rfl rfl ?_
    refine g_iret dX8_most_34 rfl rfl (Nat.le_of_ble_eq_true rfl) (Nat.le_of_ble_eq_true rfl) ?_
    exact hQ
  · refine g_iload_n (pc' := 1) dX8_most_0 rfl rfl ?_
    refine g_tabIn (off := 34) dX8_most_1 (by decide) (by decide) rfl (tg := 35) (by decide) ?_
    refine g_bipush (pc' := 37) (v := 23) dX8_most_35 rfl rfl ?_
    refine g_iret dX8_most_37 rfl rfl (Nat.le_of_ble_eq_true rfl) (Nat.le_of_ble_eq_true rfl) ?_
    exact hQ
  · refine g_iload_n (pc' := 1) dX8_most_0 rfl rfl ?_
    refine g_tabIn (off := 37) dX8_most_1 (by decide) (by decide) rfl (tg := 38) (by decide) ?_
    refine g_bipush (pc' := 40) (v := 31) dX8_most_38 rfl rfl ?_
    refine g_iret dX8_most_40 rfl rfl (Nat.le_of_ble_eq_true rfl) (Nat.le_of_ble_eq_true rfl) ?_
    exact hQ
  · refine g_iload_n (pc' := 1) dX8_most_0 rfl rfl ?_
    refine g_tabIn (off := 40) dX8_most_1 (by decide) (by decide) rfl (tg := 41) (by decide) ?_
    refine g_bipush (pc' := 43) (v := 12) dX8_most_41 rfl rfl ?_
    refine g_iret dX8_most_43 rfl rfl (Nat.le_of_ble_eq_true rfl) (Nat.le_of_ble_eq_true rfl) ?_
    exact hQ
  · refine g_iload_n (pc' := 1) dX8_most_0 rfl rfl ?_
    refine g_tabOut dX8_most_1 (Or.inr (by decide)) (tg := 44) (by decide) ?_
    refine g_bipush (pc' := 46) (v := 7) dX8_most_44 rfl rfl ?_
    refine g_iret dX8_most_46 rfl rfl (Nat.le_of_ble_eq_true rfl) (Nat.le_of_ble_eq_true rfl) ?_
    exact hQ

set_option maxRecDepth 100000 in
set_option maxHeartbeats 2000000 in
theorem kX8_typedAt {E : gE} {S : gS} {x : Nat → Nat} {L p : Nat} {Q : Option gV → gS → Prop} (hM : ModS S) (hT : TxM S x L) (hp : p < 2 ^ 21) (hQ : Q (some (vI (nI (x p)))) S) : gRun E mX8_typedAt 1 0 0 [vR 8 0 0, vI (nI p)] S [] Q := by
  refine gRun_of (ls := [some (vR 8 0 0), some (vI (nI p))]) rfl (Nat.le_of_ble_eq_true rfl) rfl (fun ad => ?_)
  obtain ⟨l8, l20, l21, l22, l23, l24, l25, l26, l27, l28, l29, l30, l31, l32, l33, l34, l35, r262, r265, r266, r267, r268, r269, r270, r271, r272, r273, r274, r275, r276, r277, r278, r280⟩ := id hM
  obtain ⟨t1, t2, t3, t4⟩ := hT
  refine g_iload_n (pc' := 1) dX8_typedAt_0 rfl rfl ?_
  refine g_aload_n (pc' := 2) dX8_typedAt_1 rfl rfl ?_
  refine ggX8_71 (pc' := 5) rfl dX8_typedAt_2 rfl l8 ?_
  rw [t1]
  refine g_icmp_ge dX8_typedAt_5 (tg := 17) (pc' := 8) (by decide) rfl (fun h5 => ?_) (fun h5 => ?_)
  · have hpL : L ≤ p := by rw [nI_leI (by omega) (by omega)] at h5; exact h5
    refine g_iconst (pc' := 18) (v := 0) dX8_typedAt_17 rfl rfl ?_
    refine g_iret dX8_typedAt_18 rfl rfl (Nat.le_of_ble_eq_true rfl) (Nat.le_of_ble_eq_true rfl) ?_
    first
      | exact hQ
      | exact gq hQ (by rw [t4.1 p hpL]; rfl)
  · have hpL : p < L := by rw [nI_leI (by omega) (by omega)] at h5; omega
    refine g_aload_n (pc' := 9) dX8_typedAt_8 rfl rfl ?_
    refine ggX8_13 (pc' := 12) rfl dX8_typedAt_9 rfl l8 r262 ?_
    refine g_iload_n (pc' := 13) dX8_typedAt_12 rfl rfl ?_
    refine g_iald (pc' := 14) (n := p) dX8_typedAt_13 rfl (by decide) rfl rfl (show p < 60 by omega) l20 ?_
    rw [t3 p hpL]
    refine g_goto dX8_typedAt_14 (pc' := 18) (by decide) ?_
    refine g_iret dX8_typedAt_18 rfl rfl (Nat.le_of_ble_eq_true rfl) (Nat.le_of_ble_eq_true rfl) ?_
    first
      | exact hQ
      | exact gq hQ (by rw [t4.1 p hpL]; rfl)

set_option maxRecDepth 100000 in
set_option maxHeartbeats 2000000 in
theorem kX8_digitsAt {E : gE} {S : gS} {x : Nat → Nat} {L p : Nat} {Q : Option gV → gS → Prop} (hM : ModS S) (hT : TxM S x L) (hp : p < 2 ^ 20) (hQ : Q (some (vI (nI (dg x p)))) S) : gRun E mX8_digitsAt 2 0 0 [vR 8 0 0, vI (nI p)] S [] Q := by
  refine gRun_of (ls := [some (vR 8 0 0), some (vI (nI p))]) rfl (Nat.le_of_ble_eq_true rfl) rfl (fun ad => ?_)
  obtain ⟨l8, l20, l21, l22, l23, l24, l25, l26, l27, l28, l29, l30, l31, l32, l33, l34, l35, r262, r265, r266, r267, r268, r269, r270, r271, r272, r273, r274, r275, r276, r277, r278, r280⟩ := id hM
  refine g_aload_n (pc' := 1) dX8_digitsAt_0 rfl rfl ?_
  refine g_iload_n (pc' := 2) dX8_digitsAt_1 rfl rfl ?_
  refine gcv1 (pc' := 5) cwX8_74 cf8 dX8_digitsAt_2 rfl l8 (Nat.le_of_ble_eq_true rfl) (Nat.le_of_ble_eq_true rfl) (Nat.le_of_ble_eq_true rfl) (Nat.le_of_ble_eq_true rfl) (Nat.le_of_ble_eq_true rfl) (kX8_typedAt hM hT (by omega) ?_)
  refine gcs1 (pc' := 8) cwX8_78 dX8_digitsAt_5 rfl (Nat.le_of_ble_eq_true rfl) (Nat.le_of_ble_eq_true rfl) (Nat.le_of_ble_eq_true rfl) (Nat.le_of_ble_eq_true rfl) (Nat.le_of_ble_eq_true rfl) (kX8_isDigit (by have := hT.le p; have := hT.le (p + 1); omega) ?_)
  refine g_if_ne dX8_digitsAt_8 (tg := 15) (pc' := 11) (by decide) rfl (fun h8 => ?_) (fun h8 => ?_)
  · refine g_aload_n (pc' := 16) dX8_digitsAt_15 rfl rfl ?_
    refine g_iload_n (pc' := 17) dX8_digitsAt_16 rfl rfl ?_
    refine g_iconst (pc' := 18) (v := 1) dX8_digitsAt_17 rfl rfl ?_
    refine g_iadd (pc' := 19) dX8_digitsAt_18 rfl ?_
    rw [nI_1]
    refine gcv1 (pc' := 22) cwX8_74 cf8 dX8_digitsAt_19 rfl l8 (Nat.le_of_ble_eq_true rfl) (Nat.le_of_ble_eq_true rfl) (Nat.le_of_ble_eq_true rfl) (Nat.le_of_ble_eq_true rfl) (Nat.le_of_ble_eq_true rfl) (kX8_typedAt hM hT (by omega) ?_)
    refine gcs1 (pc' := 25) cwX8_78 dX8_digitsAt_22 rfl (Nat.le_of_ble_eq_true rfl) (Nat.le_of_ble_eq_true rfl) (Nat.le_of_ble_eq_true rfl) (Nat.le_of_ble_eq_true rfl) (Nat.le_of_ble_eq_true rfl) (kX8_isDigit (by have := hT.le p; have := hT.le (p + 1); omega) ?_)
    refine g_if_eq dX8_digitsAt_25 (tg := 32) (pc' := 28) (by decide) rfl (fun h25 => ?_) (fun h25 => ?_)
    · refine g_iconst (pc' := 33) (v := 1) dX8_digitsAt_32 rfl rfl ?_
      refine g_iret dX8_digitsAt_33 rfl rfl (Nat.le_of_ble_eq_true rfl) (Nat.le_of_ble_eq_true rfl) ?_
      first
        | exact gq hQ (by rw [dg, if_neg (bbn h8)]; rfl)
        | exact gq hQ (by rw [dg, if_pos (bbp h8), if_pos (bbp h25)]; rfl)
        | exact gq hQ (by rw [dg, if_pos (bbp h8), if_neg (bbn h25)]; rfl)
    · refine g_iconst (pc' := 29) (v := 2) dX8_digitsAt_28 rfl rfl ?_
      refine g_goto dX8_digitsAt_29 (pc' := 33) (by decide) ?_
      refine g_iret dX8_digitsAt_33 rfl rfl (Nat.le_of_ble_eq_true rfl) (Nat.le_of_ble_eq_true rfl) ?_
      first
        | exact gq hQ (by rw [dg, if_neg (bbn h8)]; rfl)
        | exact gq hQ (by rw [dg, if_pos (bbp h8), if_pos (bbp h25)]; rfl)
        | exact gq hQ (by rw [dg, if_pos (bbp h8), if_neg (bbn h25)]; rfl)
  · refine g_iconst (pc' := 12) (v := 0) dX8_digitsAt_11 rfl rfl ?_
    refine g_goto dX8_digitsAt_12 (pc' := 33) (by decide) ?_
    refine g_iret dX8_digitsAt_33 rfl rfl (Nat.le_of_ble_eq_true rfl) (Nat.le_of_ble_eq_true rfl) ?_
    first
      | exact gq hQ (by rw [dg, if_neg (bbn h8)]; rfl)
      | exact gq hQ (by rw [dg, if_pos (bbp h8), if_pos (bbp h25)]; rfl)
      | exact gq hQ (by rw [dg, if_pos (bbp h8), if_neg (bbn h25)]; rfl)

theorem dg_2 {x : Nat → Nat} {p : Nat} (h : dg x p = 2) : isD (x p) = true ∧ isD (x (p + 1)) = true := by
  unfold dg at h
  split at h
  · split at h
    · exact ⟨by assumption, by assumption⟩
    · omega
  · omega
theorem dg_1 {x : Nat → Nat} {p : Nat} (h0 : 0 < dg x p) (h : ¬ dg x p = 2) : isD (x p) = true ∧ ¬ isD (x (p + 1)) = true := by
  by_cases c : isD (x p) = true
  · refine ⟨c, fun z => h ?_⟩
    rw [dg, if_pos c, if_pos z]
  · rw [dg, if_neg c] at h0; omega
theorem isD_in {c : Nat} (h : isD c = true) : 48 ≤ c ∧ c ≤ 57 := of_decide_eq_true h
set_option maxRecDepth 100000 in
set_option maxHeartbeats 2000000 in
theorem kX8_valueAt {E : gE} {S : gS} {x : Nat → Nat} {L p : Nat} {Q : Option gV → gS → Prop} (hM : ModS S) (hT : TxM S x L) (hp : p < 2 ^ 20) (hd : 0 < dg x p) (hQ : Q (some (vI (nI (vl x p)))) S) : gRun E mX8_valueAt 3 0 0 [vR 8 0 0, vI (nI p)] S [] Q := by
  refine gRun_of (ls := [some (vR 8 0 0), some (vI (nI p)), none]) rfl (Nat.le_of_ble_eq_true rfl) rfl (fun ad => ?_)
  obtain ⟨l8, l20, l21, l22, l23, l24, l25, l26, l27, l28, l29, l30, l31, l32, l33, l34, l35, r262, r265, r266, r267, r268, r269, r270, r271, r272, r273, r274, r275, r276, r277, r278, r280⟩ := id hM
  have hdp : 48 ≤ x p := by
    by_cases c : dg x p = 2
    · exact (isD_in (dg_2 c).1).1
    · exact (isD_in (dg_1 hd c).1).1
  refine g_aload_n (pc' := 1) dX8_valueAt_0 rfl rfl ?_
  refine g_iload_n (pc' := 2) dX8_valueAt_1 rfl rfl ?_
  refine gcv1 (pc' := 5) cwX8_74 cf8 dX8_valueAt_2 rfl l8 (Nat.le_of_ble_eq_true rfl) (Nat.le_of_ble_eq_true rfl) (Nat.le_of_ble_eq_true rfl) (Nat.le_of_ble_eq_true rfl) (Nat.le_of_ble_eq_true rfl) (kX8_typedAt hM hT (by omega) ?_)
  refine g_bipush (pc' := 7) (v := 48) dX8_valueAt_5 rfl rfl ?_
  refine g_isub (pc' := 8) dX8_valueAt_7 rfl ?_
  rw [show (48 : Int32) = nI 48 from rfl, pk_sub hdp]
  refine gistore_n2 (pc' := 9) dX8_valueAt_8 rfl (Nat.le_of_ble_eq_true rfl) rfl ?_
  refine g_aload_n (pc' := 10) dX8_valueAt_9 rfl rfl ?_
  refine g_iload_n (pc' := 11) dX8_valueAt_10 rfl rfl ?_
  refine gcv1 (pc' := 14) cwX8_82 cf8 dX8_valueAt_11 rfl l8 (Nat.le_of_ble_eq_true rfl) (Nat.le_of_ble_eq_true rfl) (Nat.le_of_ble_eq_true rfl) (Nat.le_of_ble_eq_true rfl) (Nat.le_of_ble_eq_true rfl) (kX8_digitsAt hM hT (by omega) ?_)
  refine g_iconst (pc' := 15) (v := 2) dX8_valueAt_14 rfl rfl ?_
  refine g_icmp_ne dX8_valueAt_15 (tg := 36) (pc' := 18) (by decide) rfl (fun h15 => ?_) (fun h15 => ?_)
  · rw [show (2 : Int32) = nI 2 from rfl, nI_eq (by have := dg_le x p; omega) (by decide)] at h15
    obtain ⟨c1, c2⟩ := dg_1 hd h15
    refine g_iload_n (pc' := 37) dX8_valueAt_36 rfl rfl ?_
    refine g_iret dX8_valueAt_37 rfl rfl (Nat.le_of_ble_eq_true rfl) (Nat.le_of_ble_eq_true rfl) ?_
    first
      | exact gq hQ (by rw [vl, if_pos c1, if_pos c2]; exact congrArg nI (by omega))
      | exact gq hQ (by rw [vl, if_pos c1, if_neg c2])
  · rw [show (2 : Int32) = nI 2 from rfl, nI_eq (by have := dg_le x p; omega) (by decide)] at h15
    obtain ⟨c1, c2⟩ := dg_2 h15
    have c3 := isD_in c2
    refine g_bipush (pc' := 20) (v := 10) dX8_valueAt_18 rfl rfl ?_
    refine g_iload_n (pc' := 21) dX8_valueAt_20 rfl rfl ?_
    refine g_imul (pc' := 22) dX8_valueAt_21 rfl ?_
    refine g_aload_n (pc' := 23) dX8_valueAt_22 rfl rfl ?_
    refine g_iload_n (pc' := 24) dX8_valueAt_23 rfl rfl ?_
    refine g_iconst (pc' := 25) (v := 1) dX8_valueAt_24 rfl rfl ?_
    refine g_iadd (pc' := 26) dX8_valueAt_25 rfl ?_
    rw [nI_1]
    refine gcv1 (pc' := 29) cwX8_74 cf8 dX8_valueAt_26 rfl l8 (Nat.le_of_ble_eq_true rfl) (Nat.le_of_ble_eq_true rfl) (Nat.le_of_ble_eq_true rfl) (Nat.le_of_ble_eq_true rfl) (Nat.le_of_ble_eq_true rfl) (kX8_typedAt hM hT (by omega) ?_)
    refine g_iadd (pc' := 30) dX8_valueAt_29 rfl ?_
    refine g_bipush (pc' := 32) (v := 48) dX8_valueAt_30 rfl rfl ?_
    refine g_isub (pc' := 33) dX8_valueAt_32 rfl ?_
    rw [show (10 : Int32) = nI 10 from rfl, pk_mul, nI_add, show (48 : Int32) = nI 48 from rfl, pk_sub (by omega)]
    refine g_goto dX8_valueAt_33 (pc' := 37) (by decide) ?_
    refine g_iret dX8_valueAt_37 rfl rfl (Nat.le_of_ble_eq_true rfl) (Nat.le_of_ble_eq_true rfl) ?_
    first
      | exact gq hQ (by rw [vl, if_pos c1, if_pos c2]; exact congrArg nI (by omega))
      | exact gq hQ (by rw [vl, if_pos c1, if_neg c2])

set_option maxRecDepth 100000 in
set_option maxHeartbeats 2000000 in
theorem kX8_isNumber {E : gE} {S : gS} {x : Nat → Nat} {L p f b : Nat} {Q : Option gV → gS → Prop} (hM : ModS S) (hT : TxM S x L) (hp : p < 2 ^ 20) (hf : f < 5) (hb : b < 2 ^ 20) (hQ : Q (some (vI (bI (isN x p (fHi f) b)))) S) : gRun E mX8_isNumber 4 0 0 [vR 8 0 0, vI (nI p), vI (nI f), vI (nI b)] S [] Q := by
  refine gRun_of (ls := [some (vR 8 0 0), some (vI (nI p)), some (vI (nI f)), some (vI (nI b))]) rfl (Nat.le_of_ble_eq_true rfl) rfl (fun ad => ?_)
  obtain ⟨l8, l20, l21, l22, l23, l24, l25, l26, l27, l28, l29, l30, l31, l32, l33, l34, l35, r262, r265, r266, r267, r268, r269, r270, r271, r272, r273, r274, r275, r276, r277, r278, r280⟩ := id hM
  have hv := vl_le x p
  have hh := fHi_le f
  refine g_aload_n (pc' := 1) dX8_isNumber_0 rfl rfl ?_
  refine g_iload_n (pc' := 2) dX8_isNumber_1 rfl rfl ?_
  refine gcv1 (pc' := 5) cwX8_82 cf8 dX8_isNumber_2 rfl l8 (Nat.le_of_ble_eq_true rfl) (Nat.le_of_ble_eq_true rfl) (Nat.le_of_ble_eq_true rfl) (Nat.le_of_ble_eq_true rfl) (Nat.le_of_ble_eq_true rfl) (kX8_digitsAt hM hT (by omega) ?_)
  refine g_if_le dX8_isNumber_5 (tg := 33) (pc' := 8) (by decide) rfl (fun h5 => ?_) (fun h5 => ?_)
  · try rw [show (0 : Int32) = nI 0 from rfl, nI_leI (by have := dg_le x p; omega) (by decide)] at h5
    try rw [nI_ltI (by omega) (by omega)] at h14
    try rw [nI_ltI (by omega) (by omega)] at h26
    refine g_iconst (pc' := 34) (v := 0) dX8_isNumber_33 rfl rfl ?_
    refine g_iret dX8_isNumber_34 rfl rfl (Nat.le_of_ble_eq_true rfl) (Nat.le_of_ble_eq_true rfl) ?_
    first
      | exact gq hQ (bd_t (by omega))
      | exact gq hQ (bd_f (by omega))
  · rw [show (0 : Int32) = nI 0 from rfl, nI_leI (by have := dg_le x p; omega) (by decide)] at h5
    refine g_aload_n (pc' := 9) dX8_isNumber_8 rfl rfl ?_
    refine g_iload_n (pc' := 10) dX8_isNumber_9 rfl rfl ?_
    refine gcv1 (pc' := 13) cwX8_85 cf8 dX8_isNumber_10 rfl l8 (Nat.le_of_ble_eq_true rfl) (Nat.le_of_ble_eq_true rfl) (Nat.le_of_ble_eq_true rfl) (Nat.le_of_ble_eq_true rfl) (Nat.le_of_ble_eq_true rfl) (kX8_valueAt hM hT (by omega) (by omega) ?_)
    refine g_iload_n (pc' := 14) dX8_isNumber_13 rfl rfl ?_
    refine g_icmp_lt dX8_isNumber_14 (tg := 33) (pc' := 17) (by decide) rfl (fun h14 => ?_) (fun h14 => ?_)
    · try rw [show (0 : Int32) = nI 0 from rfl, nI_leI (by have := dg_le x p; omega) (by decide)] at h5
      try rw [nI_ltI (by omega) (by omega)] at h14
      try rw [nI_ltI (by omega) (by omega)] at h26
      refine g_iconst (pc' := 34) (v := 0) dX8_isNumber_33 rfl rfl ?_
      refine g_iret dX8_isNumber_34 rfl rfl (Nat.le_of_ble_eq_true rfl) (Nat.le_of_ble_eq_true rfl) ?_
      first
        | exact gq hQ (bd_t (by omega))
        | exact gq hQ (bd_f (by omega))
    · rw [nI_ltI (by omega) (by omega)] at h14
      refine g_aload_n (pc' := 18) dX8_isNumber_17 rfl rfl ?_
      refine g_iload_n (pc' := 19) dX8_isNumber_18 rfl rfl ?_
      refine gcv1 (pc' := 22) cwX8_85 cf8 dX8_isNumber_19 rfl l8 (Nat.le_of_ble_eq_true rfl) (Nat.le_of_ble_eq_true rfl) (Nat.le_of_ble_eq_true rfl) (Nat.le_of_ble_eq_true rfl) (Nat.le_of_ble_eq_true rfl) (kX8_valueAt hM hT (by omega) (by omega) ?_)
      refine g_iload_n (pc' := 23) dX8_isNumber_22 rfl rfl ?_
      refine gcs1 (pc' := 26) cwX8_88 dX8_isNumber_23 rfl (Nat.le_of_ble_eq_true rfl) (Nat.le_of_ble_eq_true rfl) (Nat.le_of_ble_eq_true rfl) (Nat.le_of_ble_eq_true rfl) (Nat.le_of_ble_eq_true rfl) (kX8_most hf ?_)
      refine g_icmp_gt dX8_isNumber_26 (tg := 33) (pc' := 29) (by decide) rfl (fun h26 => ?_) (fun h26 => ?_)
      · try rw [show (0 : Int32) = nI 0 from rfl, nI_leI (by have := dg_le x p; omega) (by decide)] at h5
        try rw [nI_ltI (by omega) (by omega)] at h14
        try rw [nI_ltI (by omega) (by omega)] at h26
        refine g_iconst (pc' := 34) (v := 0) dX8_isNumber_33 rfl rfl ?_
        refine g_iret dX8_isNumber_34 rfl rfl (Nat.le_of_ble_eq_true rfl) (Nat.le_of_ble_eq_true rfl) ?_
        first
          | exact gq hQ (bd_t (by omega))
          | exact gq hQ (bd_f (by omega))
      · rw [nI_ltI (by omega) (by omega)] at h26
        refine g_iconst (pc' := 30) (v := 1) dX8_isNumber_29 rfl rfl ?_
        refine g_goto dX8_isNumber_30 (pc' := 34) (by decide) ?_
        refine g_iret dX8_isNumber_34 rfl rfl (Nat.le_of_ble_eq_true rfl) (Nat.le_of_ble_eq_true rfl) ?_
        first
          | exact gq hQ (bd_t (by omega))
          | exact gq hQ (bd_f (by omega))

set_option maxRecDepth 100000 in
set_option maxHeartbeats 2000000 in
theorem kX8_overItem {E : gE} {S : gS} {x : Nat → Nat} {L p f : Nat} {Q : Option gV → gS → Prop} (hM : ModS S) (hT : TxM S x L) (hp : p < 2 ^ 19) (hf : f < 5) (hQ : Q (some (vI (ovI (item x p f)))) S) : gRun E mX8_overItem 5 0 0 [vR 8 0 0, vI (nI p), vI (nI f)] S [] Q := by
  refine gRun_of (ls := [some (vR 8 0 0), some (vI (nI p)), some (vI (nI f)), none, none]) rfl (Nat.le_of_ble_eq_true rfl) rfl (fun ad => ?_)
  obtain ⟨l8, l20, l21, l22, l23, l24, l25, l26, l27, l28, l29, l30, l31, l32, l33, l34, l35, r262, r265, r266, r267, r268, r269, r270, r271, r272, r273, r274, r275, r276, r277, r278, r280⟩ := id hM
  have hdx := dg_le x
  have d1 := hdx p
  have d2 := hdx (p + dg x p + 1)
  have hv := vl_le x p
  have hl2 := fLo_le f
  refine g_iload_n (pc' := 1) dX8_overItem_0 rfl rfl ?_
  refine gistore_n3 (pc' := 2) dX8_overItem_1 rfl (Nat.le_of_ble_eq_true rfl) rfl ?_
  refine g_aload_n (pc' := 3) dX8_overItem_2 rfl rfl ?_
  refine g_iload_n (pc' := 4) dX8_overItem_3 rfl rfl ?_
  refine gcv1 (pc' := 7) cwX8_74 cf8 dX8_overItem_4 rfl l8 (Nat.le_of_ble_eq_true rfl) (Nat.le_of_ble_eq_true rfl) (Nat.le_of_ble_eq_true rfl) (Nat.le_of_ble_eq_true rfl) (Nat.le_of_ble_eq_true rfl) (kX8_typedAt hM hT (by omega) ?_)
  refine g_bipush (pc' := 9) (v := 42) dX8_overItem_7 rfl rfl ?_
  refine g_icmp_ne dX8_overItem_9 (tg := 16) (pc' := 12) (by decide) rfl (fun h9 => ?_) (fun h9 => ?_)
  · rw [show (42 : Int32) = nI 42 from rfl, nI_eq (Nat.lt_of_le_of_lt (hT.le _) (by decide)) (by decide)] at h9
    refine g_iconst (pc' := 17) (v := 0) dX8_overItem_16 rfl rfl ?_
    refine gistore4 (pc' := 19) dX8_overItem_17 rfl (Nat.le_of_ble_eq_true rfl) rfl ?_
    refine g_iload (pc' := 21) dX8_overItem_19 rfl rfl ?_
    refine g_if_eq dX8_overItem_21 (tg := 31) (pc' := 24) (by decide) rfl (fun h21 => ?_) (fun h21 => absurd (by decide) h21)
    refine g_aload_n (pc' := 32) dX8_overItem_31 rfl rfl ?_
    refine g_iload_n (pc' := 33) dX8_overItem_32 rfl rfl ?_
    refine g_iload_n (pc' := 34) dX8_overItem_33 rfl rfl ?_
    refine g_iload_n (pc' := 35) dX8_overItem_34 rfl rfl ?_
    refine gcs1 (pc' := 38) cwX8_91 dX8_overItem_35 rfl (Nat.le_of_ble_eq_true rfl) (Nat.le_of_ble_eq_true rfl) (Nat.le_of_ble_eq_true rfl) (Nat.le_of_ble_eq_true rfl) (Nat.le_of_ble_eq_true rfl) (kX8_least hf ?_)
    refine gcv3 (pc' := 41) cwX8_94 cf8 dX8_overItem_38 rfl l8 (Nat.le_of_ble_eq_true rfl) (Nat.le_of_ble_eq_true rfl) (Nat.le_of_ble_eq_true rfl) (Nat.le_of_ble_eq_true rfl) (Nat.le_of_ble_eq_true rfl) (kX8_isNumber hM hT (by omega) hf (by omega) ?_)
    refine g_if_ne dX8_overItem_41 (tg := 48) (pc' := 44) (by decide) rfl (fun h41 => ?_) (fun h41 => ?_)
    · have h41 := bbp h41
      have hd41 := (isN_in h41).1
      have hdl := dg_le x p
      refine g_iload_n (pc' := 49) dX8_overItem_48 rfl rfl ?_
      refine g_aload_n (pc' := 50) dX8_overItem_49 rfl rfl ?_
      refine g_iload_n (pc' := 51) dX8_overItem_50 rfl rfl ?_
      refine gcv1 (pc' := 54) cwX8_82 cf8 dX8_overItem_51 rfl l8 (Nat.le_of_ble_eq_true rfl) (Nat.le_of_ble_eq_true rfl) (Nat.le_of_ble_eq_true rfl) (Nat.le_of_ble_eq_true rfl) (Nat.le_of_ble_eq_true rfl) (kX8_digitsAt hM hT (by omega) ?_)
      refine g_iadd (pc' := 55) dX8_overItem_54 rfl ?_
      rw [nI_add]
      refine gistore_n3 (pc' := 56) dX8_overItem_55 rfl (Nat.le_of_ble_eq_true rfl) rfl ?_
      refine g_aload_n (pc' := 57) dX8_overItem_56 rfl rfl ?_
      refine g_iload_n (pc' := 58) dX8_overItem_57 rfl rfl ?_
      refine gcv1 (pc' := 61) cwX8_74 cf8 dX8_overItem_58 rfl l8 (Nat.le_of_ble_eq_true rfl) (Nat.le_of_ble_eq_true rfl) (Nat.le_of_ble_eq_true rfl) (Nat.le_of_ble_eq_true rfl) (Nat.le_of_ble_eq_true rfl) (kX8_typedAt hM hT (by omega) ?_)
      refine g_bipush (pc' := 63) (v := 45) dX8_overItem_61 rfl rfl ?_
      refine g_icmp_ne dX8_overItem_63 (tg := 99) (pc' := 66) (by decide) rfl (fun h63 => ?_) (fun h63 => ?_)
      · try rw [show (45 : Int32) = nI 45 from rfl, nI_eq (Nat.lt_of_le_of_lt (hT.le _) (by decide)) (by decide)] at h63
        refine g_iload (pc' := 101) dX8_overItem_99 rfl rfl ?_
        refine g_if_eq dX8_overItem_101 (tg := 146) (pc' := 104) (by decide) rfl (fun h101 => ?_) (fun h101 => absurd (by decide) h101)
        try rw [show (47 : Int32) = nI 47 from rfl, nI_eq (Nat.lt_of_le_of_lt (hT.le _) (by decide)) (by decide)] at h111
        refine g_iload_n (pc' := 147) dX8_overItem_146 rfl rfl ?_
        refine g_iret dX8_overItem_147 rfl rfl (Nat.le_of_ble_eq_true rfl) (Nat.le_of_ble_eq_true rfl) ?_
        first
          | exact gq hQ (by simp only [item, stp, ovI, h9, h21, h41, h63, h101, if_true, if_false, Bool.false_eq_true, or_true, true_or, false_or, or_false, or_self, reduceIte])
          | exact gq hQ (by simp only [item, stp, ovI, h9, h21, h41, h63, h101, if_true, if_false, Bool.false_eq_true, or_true, true_or, false_or, or_false, or_self, reduceIte]; rfl)
      · rw [show (45 : Int32) = nI 45 from rfl, nI_eq (Nat.lt_of_le_of_lt (hT.le _) (by decide)) (by decide)] at h63
        refine g_iload_n (pc' := 67) dX8_overItem_66 rfl rfl ?_
        refine g_iconst (pc' := 68) (v := 1) dX8_overItem_67 rfl rfl ?_
        refine g_iadd (pc' := 69) dX8_overItem_68 rfl ?_
        rw [nI_1]
        refine gistore_n3 (pc' := 70) dX8_overItem_69 rfl (Nat.le_of_ble_eq_true rfl) rfl ?_
        refine g_aload_n (pc' := 71) dX8_overItem_70 rfl rfl ?_
        refine g_iload_n (pc' := 72) dX8_overItem_71 rfl rfl ?_
        refine g_iload_n (pc' := 73) dX8_overItem_72 rfl rfl ?_
        refine g_aload_n (pc' := 74) dX8_overItem_73 rfl rfl ?_
        refine g_iload_n (pc' := 75) dX8_overItem_74 rfl rfl ?_
        refine gcv1 (pc' := 78) cwX8_85 cf8 dX8_overItem_75 rfl l8 (Nat.le_of_ble_eq_true rfl) (Nat.le_of_ble_eq_true rfl) (Nat.le_of_ble_eq_true rfl) (Nat.le_of_ble_eq_true rfl) (Nat.le_of_ble_eq_true rfl) (kX8_valueAt hM hT (by omega) hd41 ?_)
        refine gcv3 (pc' := 81) cwX8_94 cf8 dX8_overItem_78 rfl l8 (Nat.le_of_ble_eq_true rfl) (Nat.le_of_ble_eq_true rfl) (Nat.le_of_ble_eq_true rfl) (Nat.le_of_ble_eq_true rfl) (Nat.le_of_ble_eq_true rfl) (kX8_isNumber hM hT (by omega) hf (by omega) ?_)
        refine g_if_ne dX8_overItem_81 (tg := 88) (pc' := 84) (by decide) rfl (fun h81 => ?_) (fun h81 => ?_)
        · have h81 := bbp h81
          refine g_iload_n (pc' := 89) dX8_overItem_88 rfl rfl ?_
          refine g_aload_n (pc' := 90) dX8_overItem_89 rfl rfl ?_
          refine g_iload_n (pc' := 91) dX8_overItem_90 rfl rfl ?_
          refine gcv1 (pc' := 94) cwX8_82 cf8 dX8_overItem_91 rfl l8 (Nat.le_of_ble_eq_true rfl) (Nat.le_of_ble_eq_true rfl) (Nat.le_of_ble_eq_true rfl) (Nat.le_of_ble_eq_true rfl) (Nat.le_of_ble_eq_true rfl) (kX8_digitsAt hM hT (by omega) ?_)
          refine g_iadd (pc' := 95) dX8_overItem_94 rfl ?_
          rw [nI_add]
          refine gistore_n3 (pc' := 96) dX8_overItem_95 rfl (Nat.le_of_ble_eq_true rfl) rfl ?_
          have hdl2 := dg_le x (p + dg x p + 1)
          refine g_iconst (pc' := 97) (v := 1) dX8_overItem_96 rfl rfl ?_
          refine gistore4 (pc' := 99) dX8_overItem_97 rfl (Nat.le_of_ble_eq_true rfl) rfl ?_
          try rw [show (45 : Int32) = nI 45 from rfl, nI_eq (Nat.lt_of_le_of_lt (hT.le _) (by decide)) (by decide)] at h63
          refine g_iload (pc' := 101) dX8_overItem_99 rfl rfl ?_
          refine g_if_eq dX8_overItem_101 (tg := 146) (pc' := 104) (by decide) rfl (fun h101 => absurd h101 (by decide)) (fun h101 => ?_)
          refine g_aload_n (pc' := 105) dX8_overItem_104 rfl rfl ?_
          refine g_iload_n (pc' := 106) dX8_overItem_105 rfl rfl ?_
          refine gcv1 (pc' := 109) cwX8_74 cf8 dX8_overItem_106 rfl l8 (Nat.le_of_ble_eq_true rfl) (Nat.le_of_ble_eq_true rfl) (Nat.le_of_ble_eq_true rfl) (Nat.le_of_ble_eq_true rfl) (Nat.le_of_ble_eq_true rfl) (kX8_typedAt hM hT (by omega) ?_)
          refine g_bipush (pc' := 111) (v := 47) dX8_overItem_109 rfl rfl ?_
          refine g_icmp_ne dX8_overItem_111 (tg := 146) (pc' := 114) (by decide) rfl (fun h111 => ?_) (fun h111 => ?_)
          · try rw [show (47 : Int32) = nI 47 from rfl, nI_eq (Nat.lt_of_le_of_lt (hT.le _) (by decide)) (by decide)] at h111
            refine g_iload_n (pc' := 147) dX8_overItem_146 rfl rfl ?_
            refine g_iret dX8_overItem_147 rfl rfl (Nat.le_of_ble_eq_true rfl) (Nat.le_of_ble_eq_true rfl) ?_
            first
              | exact gq hQ (by simp only [item, stp, ovI, h9, h21, h41, h63, h81, h101, h111, if_true, if_false, Bool.false_eq_true, or_true, true_or, false_or, or_false, or_self, reduceIte])
              | exact gq hQ (by simp only [item, stp, ovI, h9, h21, h41, h63, h81, h101, h111, if_true, if_false, Bool.false_eq_true, or_true, true_or, false_or, or_false, or_self, reduceIte]; rfl)
          · rw [show (47 : Int32) = nI 47 from rfl, nI_eq (Nat.lt_of_le_of_lt (hT.le _) (by decide)) (by decide)] at h111
            refine g_iload_n (pc' := 115) dX8_overItem_114 rfl rfl ?_
            refine g_iconst (pc' := 116) (v := 1) dX8_overItem_115 rfl rfl ?_
            refine g_iadd (pc' := 117) dX8_overItem_116 rfl ?_
            rw [nI_1]
            refine gistore_n3 (pc' := 118) dX8_overItem_117 rfl (Nat.le_of_ble_eq_true rfl) rfl ?_
            refine g_aload_n (pc' := 119) dX8_overItem_118 rfl rfl ?_
            refine g_iload_n (pc' := 120) dX8_overItem_119 rfl rfl ?_
            refine gcv1 (pc' := 123) cwX8_82 cf8 dX8_overItem_120 rfl l8 (Nat.le_of_ble_eq_true rfl) (Nat.le_of_ble_eq_true rfl) (Nat.le_of_ble_eq_true rfl) (Nat.le_of_ble_eq_true rfl) (Nat.le_of_ble_eq_true rfl) (kX8_digitsAt hM hT (by omega) ?_)
            refine g_if_eq dX8_overItem_123 (tg := 134) (pc' := 126) (by decide) rfl (fun h123 => ?_) (fun h123 => ?_)
            · first
                | rw [show (0 : Int32) = nI 0 from rfl, nI_eq (Nat.lt_of_le_of_lt (vl_le _ _) (by decide)) (by decide)] at h131
                | rw [show (0 : Int32) = nI 0 from rfl, nI_eq (Nat.lt_of_le_of_lt (dg_le _ _) (by decide)) (by decide)] at h123
              refine g_iconst (pc' := 135) (v := (-1)) dX8_overItem_134 rfl rfl ?_
              refine g_iload_n (pc' := 136) dX8_overItem_135 rfl rfl ?_
              refine g_isub (pc' := 137) dX8_overItem_136 rfl ?_
              refine g_iret dX8_overItem_137 rfl rfl (Nat.le_of_ble_eq_true rfl) (Nat.le_of_ble_eq_true rfl) ?_
              first
                | exact gq hQ (by simp only [item, stp, ovI, h9, h21, h41, h63, h81, h101, h111, h123, if_true, if_false, Bool.false_eq_true, or_true, true_or, false_or, or_false, or_self, reduceIte])
                | exact gq hQ (by simp only [item, stp, ovI, h9, h21, h41, h63, h81, h101, h111, h123, if_true, if_false, Bool.false_eq_true, or_true, true_or, false_or, or_false, or_self, reduceIte]; rfl)
            · rw [show (0 : Int32) = nI 0 from rfl, nI_eq (Nat.lt_of_le_of_lt (dg_le _ _) (by decide)) (by decide)] at h123
              refine g_aload_n (pc' := 127) dX8_overItem_126 rfl rfl ?_
              refine g_iload_n (pc' := 128) dX8_overItem_127 rfl rfl ?_
              refine gcv1 (pc' := 131) cwX8_85 cf8 dX8_overItem_128 rfl l8 (Nat.le_of_ble_eq_true rfl) (Nat.le_of_ble_eq_true rfl) (Nat.le_of_ble_eq_true rfl) (Nat.le_of_ble_eq_true rfl) (Nat.le_of_ble_eq_true rfl) (kX8_valueAt hM hT (by omega) (Nat.pos_of_ne_zero h123) ?_)
              refine g_if_ne dX8_overItem_131 (tg := 138) (pc' := 134) (by decide) rfl (fun h131 => ?_) (fun h131 => ?_)
              · have hd138 := dg_le x
                rw [show (0 : Int32) = nI 0 from rfl, nI_eq (Nat.lt_of_le_of_lt (vl_le _ _) (by decide)) (by decide)] at h131
                refine g_iload_n (pc' := 139) dX8_overItem_138 rfl rfl ?_
                refine g_aload_n (pc' := 140) dX8_overItem_139 rfl rfl ?_
                refine g_iload_n (pc' := 141) dX8_overItem_140 rfl rfl ?_
                refine gcv1 (pc' := 144) cwX8_82 cf8 dX8_overItem_141 rfl l8 (Nat.le_of_ble_eq_true rfl) (Nat.le_of_ble_eq_true rfl) (Nat.le_of_ble_eq_true rfl) (Nat.le_of_ble_eq_true rfl) (Nat.le_of_ble_eq_true rfl) (kX8_digitsAt hM hT (by omega) ?_)
                refine g_iadd (pc' := 145) dX8_overItem_144 rfl ?_
                rw [nI_add]
                refine gistore_n3 (pc' := 146) dX8_overItem_145 rfl (Nat.le_of_ble_eq_true rfl) rfl ?_
                try rw [show (47 : Int32) = nI 47 from rfl, nI_eq (Nat.lt_of_le_of_lt (hT.le _) (by decide)) (by decide)] at h111
                refine g_iload_n (pc' := 147) dX8_overItem_146 rfl rfl ?_
                refine g_iret dX8_overItem_147 rfl rfl (Nat.le_of_ble_eq_true rfl) (Nat.le_of_ble_eq_true rfl) ?_
                first
                  | exact gq hQ (by simp only [item, stp, ovI, h9, h21, h41, h63, h81, h101, h111, h123, h131, if_true, if_false, Bool.false_eq_true, or_true, true_or, false_or, or_false, or_self, reduceIte])
                  | exact gq hQ (by simp only [item, stp, ovI, h9, h21, h41, h63, h81, h101, h111, h123, h131, if_true, if_false, Bool.false_eq_true, or_true, true_or, false_or, or_false, or_self, reduceIte]; rfl)
              · first
                  | rw [show (0 : Int32) = nI 0 from rfl, nI_eq (Nat.lt_of_le_of_lt (vl_le _ _) (by decide)) (by decide)] at h131
                  | rw [show (0 : Int32) = nI 0 from rfl, nI_eq (Nat.lt_of_le_of_lt (dg_le _ _) (by decide)) (by decide)] at h123
                refine g_iconst (pc' := 135) (v := (-1)) dX8_overItem_134 rfl rfl ?_
                refine g_iload_n (pc' := 136) dX8_overItem_135 rfl rfl ?_
                refine g_isub (pc' := 137) dX8_overItem_136 rfl ?_
                refine g_iret dX8_overItem_137 rfl rfl (Nat.le_of_ble_eq_true rfl) (Nat.le_of_ble_eq_true rfl) ?_
                first
                  | exact gq hQ (by simp only [item, stp, ovI, h9, h21, h41, h63, h81, h101, h111, h123, h131, if_true, if_false, Bool.false_eq_true, or_true, true_or, false_or, or_false, or_self, reduceIte])
                  | exact gq hQ (by simp only [item, stp, ovI, h9, h21, h41, h63, h81, h101, h111, h123, h131, if_true, if_false, Bool.false_eq_true, or_true, true_or, false_or, or_false, or_self, reduceIte]; rfl)
        · have h81 := bI_f.mp h81
          refine g_iconst (pc' := 85) (v := (-1)) dX8_overItem_84 rfl rfl ?_
          refine g_iload_n (pc' := 86) dX8_overItem_85 rfl rfl ?_
          refine g_isub (pc' := 87) dX8_overItem_86 rfl ?_
          refine g_iret dX8_overItem_87 rfl rfl (Nat.le_of_ble_eq_true rfl) (Nat.le_of_ble_eq_true rfl) ?_
          first
            | exact gq hQ (by simp only [item, stp, ovI, h9, h21, h41, h63, h81, if_true, if_false, Bool.false_eq_true, or_true, true_or, false_or, or_false, or_self, reduceIte])
            | exact gq hQ (by simp only [item, stp, ovI, h9, h21, h41, h63, h81, if_true, if_false, Bool.false_eq_true, or_true, true_or, false_or, or_false, or_self, reduceIte]; rfl)
    · have h41 := bI_f.mp h41
      refine g_iconst (pc' := 45) (v := (-1)) dX8_overItem_44 rfl rfl ?_
      refine g_iload_n (pc' := 46) dX8_overItem_45 rfl rfl ?_
      refine g_isub (pc' := 47) dX8_overItem_46 rfl ?_
      refine g_iret dX8_overItem_47 rfl rfl (Nat.le_of_ble_eq_true rfl) (Nat.le_of_ble_eq_true rfl) ?_
      first
        | exact gq hQ (by simp only [item, stp, ovI, h9, h21, h41, if_true, if_false, Bool.false_eq_true, or_true, true_or, false_or, or_false, or_self, reduceIte])
        | exact gq hQ (by simp only [item, stp, ovI, h9, h21, h41, if_true, if_false, Bool.false_eq_true, or_true, true_or, false_or, or_false, or_self, reduceIte]; rfl)
  · rw [show (42 : Int32) = nI 42 from rfl, nI_eq (Nat.lt_of_le_of_lt (hT.le _) (by decide)) (by decide)] at h9
    refine g_iconst (pc' := 13) (v := 1) dX8_overItem_12 rfl rfl ?_
    refine g_goto dX8_overItem_13 (pc' := 17) (by decide) ?_
    refine gistore4 (pc' := 19) dX8_overItem_17 rfl (Nat.le_of_ble_eq_true rfl) rfl ?_
    refine g_iload (pc' := 21) dX8_overItem_19 rfl rfl ?_
    refine g_if_eq dX8_overItem_21 (tg := 31) (pc' := 24) (by decide) rfl (fun h21 => absurd h21 (by decide)) (fun h21 => ?_)
    refine g_iload_n (pc' := 25) dX8_overItem_24 rfl rfl ?_
    refine g_iconst (pc' := 26) (v := 1) dX8_overItem_25 rfl rfl ?_
    refine g_iadd (pc' := 27) dX8_overItem_26 rfl ?_
    rw [nI_1]
    refine gistore_n3 (pc' := 28) dX8_overItem_27 rfl (Nat.le_of_ble_eq_true rfl) rfl ?_
    refine g_goto dX8_overItem_28 (pc' := 99) (by decide) ?_
    try rw [show (45 : Int32) = nI 45 from rfl, nI_eq (Nat.lt_of_le_of_lt (hT.le _) (by decide)) (by decide)] at h63
    refine g_iload (pc' := 101) dX8_overItem_99 rfl rfl ?_
    refine g_if_eq dX8_overItem_101 (tg := 146) (pc' := 104) (by decide) rfl (fun h101 => absurd h101 (by decide)) (fun h101 => ?_)
    refine g_aload_n (pc' := 105) dX8_overItem_104 rfl rfl ?_
    refine g_iload_n (pc' := 106) dX8_overItem_105 rfl rfl ?_
    refine gcv1 (pc' := 109) cwX8_74 cf8 dX8_overItem_106 rfl l8 (Nat.le_of_ble_eq_true rfl) (Nat.le_of_ble_eq_true rfl) (Nat.le_of_ble_eq_true rfl) (Nat.le_of_ble_eq_true rfl) (Nat.le_of_ble_eq_true rfl) (kX8_typedAt hM hT (by omega) ?_)
    refine g_bipush (pc' := 111) (v := 47) dX8_overItem_109 rfl rfl ?_
    refine g_icmp_ne dX8_overItem_111 (tg := 146) (pc' := 114) (by decide) rfl (fun h111 => ?_) (fun h111 => ?_)
    · try rw [show (47 : Int32) = nI 47 from rfl, nI_eq (Nat.lt_of_le_of_lt (hT.le _) (by decide)) (by decide)] at h111
      refine g_iload_n (pc' := 147) dX8_overItem_146 rfl rfl ?_
      refine g_iret dX8_overItem_147 rfl rfl (Nat.le_of_ble_eq_true rfl) (Nat.le_of_ble_eq_true rfl) ?_
      first
        | exact gq hQ (by simp only [item, stp, ovI, h9, h21, h101, h111, if_true, if_false, Bool.false_eq_true, or_true, true_or, false_or, or_false, or_self, reduceIte])
        | exact gq hQ (by simp only [item, stp, ovI, h9, h21, h101, h111, if_true, if_false, Bool.false_eq_true, or_true, true_or, false_or, or_false, or_self, reduceIte]; rfl)
    · rw [show (47 : Int32) = nI 47 from rfl, nI_eq (Nat.lt_of_le_of_lt (hT.le _) (by decide)) (by decide)] at h111
      refine g_iload_n (pc' := 115) dX8_overItem_114 rfl rfl ?_
      refine g_iconst (pc' := 116) (v := 1) dX8_overItem_115 rfl rfl ?_
      refine g_iadd (pc' := 117) dX8_overItem_116 rfl ?_
      rw [nI_1]
      refine gistore_n3 (pc' := 118) dX8_overItem_117 rfl (Nat.le_of_ble_eq_true rfl) rfl ?_
      refine g_aload_n (pc' := 119) dX8_overItem_118 rfl rfl ?_
      refine g_iload_n (pc' := 120) dX8_overItem_119 rfl rfl ?_
      refine gcv1 (pc' := 123) cwX8_82 cf8 dX8_overItem_120 rfl l8 (Nat.le_of_ble_eq_true rfl) (Nat.le_of_ble_eq_true rfl) (Nat.le_of_ble_eq_true rfl) (Nat.le_of_ble_eq_true rfl) (Nat.le_of_ble_eq_true rfl) (kX8_digitsAt hM hT (by omega) ?_)
      refine g_if_eq dX8_overItem_123 (tg := 134) (pc' := 126) (by decide) rfl (fun h123 => ?_) (fun h123 => ?_)
      · first
          | rw [show (0 : Int32) = nI 0 from rfl, nI_eq (Nat.lt_of_le_of_lt (vl_le _ _) (by decide)) (by decide)] at h131
          | rw [show (0 : Int32) = nI 0 from rfl, nI_eq (Nat.lt_of_le_of_lt (dg_le _ _) (by decide)) (by decide)] at h123
        refine g_iconst (pc' := 135) (v := (-1)) dX8_overItem_134 rfl rfl ?_
        refine g_iload_n (pc' := 136) dX8_overItem_135 rfl rfl ?_
        refine g_isub (pc' := 137) dX8_overItem_136 rfl ?_
        refine g_iret dX8_overItem_137 rfl rfl (Nat.le_of_ble_eq_true rfl) (Nat.le_of_ble_eq_true rfl) ?_
        first
          | exact gq hQ (by simp only [item, stp, ovI, h9, h21, h101, h111, h123, if_true, if_false, Bool.false_eq_true, or_true, true_or, false_or, or_false, or_self, reduceIte])
          | exact gq hQ (by simp only [item, stp, ovI, h9, h21, h101, h111, h123, if_true, if_false, Bool.false_eq_true, or_true, true_or, false_or, or_false, or_self, reduceIte]; rfl)
      · rw [show (0 : Int32) = nI 0 from rfl, nI_eq (Nat.lt_of_le_of_lt (dg_le _ _) (by decide)) (by decide)] at h123
        refine g_aload_n (pc' := 127) dX8_overItem_126 rfl rfl ?_
        refine g_iload_n (pc' := 128) dX8_overItem_127 rfl rfl ?_
        refine gcv1 (pc' := 131) cwX8_85 cf8 dX8_overItem_128 rfl l8 (Nat.le_of_ble_eq_true rfl) (Nat.le_of_ble_eq_true rfl) (Nat.le_of_ble_eq_true rfl) (Nat.le_of_ble_eq_true rfl) (Nat.le_of_ble_eq_true rfl) (kX8_valueAt hM hT (by omega) (Nat.pos_of_ne_zero h123) ?_)
        refine g_if_ne dX8_overItem_131 (tg := 138) (pc' := 134) (by decide) rfl (fun h131 => ?_) (fun h131 => ?_)
        · have hd138 := dg_le x
          rw [show (0 : Int32) = nI 0 from rfl, nI_eq (Nat.lt_of_le_of_lt (vl_le _ _) (by decide)) (by decide)] at h131
          refine g_iload_n (pc' := 139) dX8_overItem_138 rfl rfl ?_
          refine g_aload_n (pc' := 140) dX8_overItem_139 rfl rfl ?_
          refine g_iload_n (pc' := 141) dX8_overItem_140 rfl rfl ?_
          refine gcv1 (pc' := 144) cwX8_82 cf8 dX8_overItem_141 rfl l8 (Nat.le_of_ble_eq_true rfl) (Nat.le_of_ble_eq_true rfl) (Nat.le_of_ble_eq_true rfl) (Nat.le_of_ble_eq_true rfl) (Nat.le_of_ble_eq_true rfl) (kX8_digitsAt hM hT (by omega) ?_)
          refine g_iadd (pc' := 145) dX8_overItem_144 rfl ?_
          rw [nI_add]
          refine gistore_n3 (pc' := 146) dX8_overItem_145 rfl (Nat.le_of_ble_eq_true rfl) rfl ?_
          try rw [show (47 : Int32) = nI 47 from rfl, nI_eq (Nat.lt_of_le_of_lt (hT.le _) (by decide)) (by decide)] at h111
          refine g_iload_n (pc' := 147) dX8_overItem_146 rfl rfl ?_
          refine g_iret dX8_overItem_147 rfl rfl (Nat.le_of_ble_eq_true rfl) (Nat.le_of_ble_eq_true rfl) ?_
          first
            | exact gq hQ (by simp only [item, stp, ovI, h9, h21, h101, h111, h123, h131, if_true, if_false, Bool.false_eq_true, or_true, true_or, false_or, or_false, or_self, reduceIte])
            | exact gq hQ (by simp only [item, stp, ovI, h9, h21, h101, h111, h123, h131, if_true, if_false, Bool.false_eq_true, or_true, true_or, false_or, or_false, or_self, reduceIte]; rfl)
        · first
            | rw [show (0 : Int32) = nI 0 from rfl, nI_eq (Nat.lt_of_le_of_lt (vl_le _ _) (by decide)) (by decide)] at h131
            | rw [show (0 : Int32) = nI 0 from rfl, nI_eq (Nat.lt_of_le_of_lt (dg_le _ _) (by decide)) (by decide)] at h123
          refine g_iconst (pc' := 135) (v := (-1)) dX8_overItem_134 rfl rfl ?_
          refine g_iload_n (pc' := 136) dX8_overItem_135 rfl rfl ?_
          refine g_isub (pc' := 137) dX8_overItem_136 rfl ?_
          refine g_iret dX8_overItem_137 rfl rfl (Nat.le_of_ble_eq_true rfl) (Nat.le_of_ble_eq_true rfl) ?_
          first
            | exact gq hQ (by simp only [item, stp, ovI, h9, h21, h101, h111, h123, h131, if_true, if_false, Bool.false_eq_true, or_true, true_or, false_or, or_false, or_self, reduceIte])
            | exact gq hQ (by simp only [item, stp, ovI, h9, h21, h101, h111, h123, h131, if_true, if_false, Bool.false_eq_true, or_true, true_or, false_or, or_false, or_self, reduceIte]; rfl)

