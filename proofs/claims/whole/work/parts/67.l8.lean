/-! THE LAW (8): its loop -/
theorem sel31 (x : Int32) : ∃ n, n < 32 ∧ x &&& 31 = nI n := by
  refine ⟨(x &&& 31).toBitVec.toNat, ?_, Int32.toBitVec_inj.mp (by show _ = BitVec.ofNat 32 _; simp)⟩
  have e : (x &&& 31).toBitVec.toNat = x.toBitVec.toNat &&& (31 : Int32).toBitVec.toNat := by rw [Int32.toBitVec_and, BitVec.toNat_and]
  rw [e]
  have h2 : x.toBitVec.toNat &&& (31 : Int32).toBitVec.toNat ≤ (31 : Int32).toBitVec.toNat := Nat.and_le_right
  have e3 : (31 : Int32).toBitVec.toNat = 31 := by decide
  omega
theorem cmp5 {i L : Nat} (hi : i < 1000) (hL : L ≤ 240) : nI L - 5 < nI i ↔ ¬ i + 5 ≤ L := by
  by_cases h : 5 ≤ L
  · rw [show (5 : Int32) = nI 5 from rfl, pk_sub h, nI_ltI (by omega) (by omega)]
    omega
  · have h0 : nI L - 5 < 0 := by
      have h2 : L = 0 ∨ L = 1 ∨ L = 2 ∨ L = 3 ∨ L = 4 := by omega
      rcases h2 with rfl | rfl | rfl | rfl | rfl <;> decide
    have h3 : (0 : Int32) ≤ nI i := show nI 0 ≤ nI i from nI_le (Nat.zero_le _) (by omega)
    exact ⟨fun _ => by omega, fun _ => Int32.lt_of_lt_of_le h0 h3⟩

set_option maxRecDepth 100000 in
theorem L_exit {E : gE} {ad : gAd} {S : gS} {i cs sl : Nat} (hi : ¬ i + 5 ≤ eA E 11) (hi2 : i < 1000) (hL : eA E 11 ≤ 240) (hcs : cs ≤ 600096) (hsl : sl ≤ 7301386) : gG E mL_law (lwB ad) 23 [some (.inl (.ref (eA E 10))), some (vR 7 0 0), some (vR 8 0 0), some (vR 16 0 0), some (vI (nI i)), none, none] [] S cs sl := by
  refine g_iload (pc' := 25) dL_law_23 rfl rfl ?_
  refine g_aload_raw (pc' := 26) dL_law_25 rfl rfl ?_
  refine g_slen (pc' := 27) dL_law_26 rfl ?_
  refine g_iconst (pc' := 28) (v := 5) dL_law_27 rfl rfl ?_
  refine g_isub (pc' := 29) dL_law_28 rfl ?_
  refine g_icmp_gt dL_law_29 (tg := 1023) (pc' := 32) (by decide) rfl (fun _ => ?_) (fun h29 => absurd ((cmp5 hi2 hL).mpr hi) h29)
  refine g_iconst (pc' := 1024) (v := 1) dL_law_1023 rfl rfl ?_
  exact g_iret dL_law_1024 rfl rfl hcs hsl rfl
set_option maxRecDepth 100000 in
theorem L_next5 {E : gE} {ad : gAd} {T : gS} {i cs sl : Nat} (h : gG E mL_law (lwB ad) 23 [some (.inl (.ref (eA E 10))), some (vR 7 0 0), some (vR 8 0 0), some (vR 16 0 0), some (vI (nI (i + 5))), none, none] [] T cs sl) : gG E mL_law (lwB ad) 1017 [some (.inl (.ref (eA E 10))), some (vR 7 0 0), some (vR 8 0 0), some (vR 16 0 0), some (vI (nI i)), none, none] [] T cs sl := by
  refine giinc4 (pc' := 1020) (c := 5) dL_law_1017 rfl rfl (Nat.le_of_ble_eq_true rfl) rfl ?_
  rw [show (5 : Int32) = nI 5 from rfl, nI_add]
  refine g_goto dL_law_1020 (pc' := 23) (by decide) ?_
  exact h
set_option maxRecDepth 100000 in
set_option maxHeartbeats 1000000 in
theorem L_step {E : gE} {ad : gAd} {S : gS} {k i cs sl : Nat} (h : WI S k) (hk : k ≤ 100) (hi : i + 5 ≤ eA E 11) (hL : eA E 11 ≤ 240) (hcs : cs + 5 ≤ 600096) (hsl : sl + 26 ≤ 7301386) (K0 : ∀ T' cs' sl', cs' ≤ cs + 5 → sl' ≤ sl + 26 → WI T' (k + 1) → gG E mL_law (lwB ad) 23 [some (.inl (.ref (eA E 10))), some (vR 7 0 0), some (vR 8 0 0), some (vR 16 0 0), some (vI (nI (i + 5))), none, none] [] T' cs' sl') : gG E mL_law (lwB ad) 23 [some (.inl (.ref (eA E 10))), some (vR 7 0 0), some (vR 8 0 0), some (vR 16 0 0), some (vI (nI i)), none, none] [] S cs sl := by
  have K : ∀ T' cs' sl', cs' ≤ cs + 5 → sl' ≤ sl + 26 → WI T' (k + 1) → gG E mL_law (lwB ad) 1017 [some (.inl (.ref (eA E 10))), some (vR 7 0 0), some (vR 8 0 0), some (vR 16 0 0), some (vI (nI i)), none, none] [] T' cs' sl' := fun T' cs' sl' a b c => L_next5 (K0 T' cs' sl' a b c)
  refine g_iload (pc' := 25) dL_law_23 rfl rfl ?_
  refine g_aload_raw (pc' := 26) dL_law_25 rfl rfl ?_
  refine g_slen (pc' := 27) dL_law_26 rfl ?_
  refine g_iconst (pc' := 28) (v := 5) dL_law_27 rfl rfl ?_
  refine g_isub (pc' := 29) dL_law_28 rfl ?_
  refine g_icmp_gt dL_law_29 (tg := 1023) (pc' := 32) (by decide) rfl (fun h29 => absurd hi ((cmp5 (by omega) hL).mp h29)) (fun _ => ?_)
  refine g_aload_raw (pc' := 33) dL_law_32 rfl rfl ?_
  refine g_iload (pc' := 35) dL_law_33 rfl rfl ?_
  refine g_sld (pc' := 36) (n := i) dL_law_35 rfl rfl (by omega) (by omega) ?_
  refine g_bipush (pc' := 38) (v := 31) dL_law_36 rfl rfl ?_
  refine g_iand (pc' := 39) dL_law_38 rfl ?_
  obtain ⟨n, hn, e⟩ := sel31 (nI (eA E (100 + i)))
  rw [e]
  by_cases h18 : 18 ≤ n
  · refine g_tabOut dL_law_39 (tg := 1017) (Or.inr (by rw [nI_toInt (by omega)]; omega)) (by decide) ?_
    exact K _ _ _ (by omega) (by omega) ⟨h.1.mono, h.2.1, h.2.2.1, h.2.2.2⟩
  · have h2 : n = 0 ∨ n = 1 ∨ n = 2 ∨ n = 3 ∨ n = 4 ∨ n = 5 ∨ n = 6 ∨ n = 7 ∨ n = 8 ∨ n = 9 ∨ n = 10 ∨ n = 11 ∨ n = 12 ∨ n = 13 ∨ n = 14 ∨ n = 15 ∨ n = 16 ∨ n = 17 := by omega
    rcases h2 with rfl | rfl | rfl | rfl | rfl | rfl | rfl | rfl | rfl | rfl | rfl | rfl | rfl | rfl | rfl | rfl | rfl | rfl

    · exact g_tabIn dL_law_39 (off := 85) (tg := 124) (by decide) (by decide) (by decide) (by decide) (L_type h hk hi hL hcs hsl K)
    · exact g_tabIn dL_law_39 (off := 142) (tg := 181) (by decide) (by decide) (by decide) (by decide) (L_job h hk hi hL hcs hsl K)
    · exact g_tabIn dL_law_39 (off := 198) (tg := 237) (by decide) (by decide) (by decide) (by decide) (L_fault h hk hi hL hcs hsl K)
    · exact g_tabIn dL_law_39 (off := 211) (tg := 250) (by decide) (by decide) (by decide) (by decide) (L_erase h hk hi hL hcs hsl K)
    · exact g_tabIn dL_law_39 (off := 222) (tg := 261) (by decide) (by decide) (by decide) (by decide) (L_task h hk hi hL hcs hsl K)
    · exact g_tabIn dL_law_39 (off := 314) (tg := 353) (by decide) (by decide) (by decide) (by decide) (L_slots h hk hi hL hcs hsl K)
    · exact g_tabIn dL_law_39 (off := 339) (tg := 378) (by decide) (by decide) (by decide) (by decide) (L_holds h hk hi hL hcs hsl K)
    · exact g_tabIn dL_law_39 (off := 414) (tg := 453) (by decide) (by decide) (by decide) (by decide) (L_next h hk hi hL hcs hsl K)
    · exact g_tabIn dL_law_39 (off := 482) (tg := 521) (by decide) (by decide) (by decide) (by decide) (L_part h hk hi hL hcs hsl K)
    · exact g_tabIn dL_law_39 (off := 550) (tg := 589) (by decide) (by decide) (by decide) (by decide) (L_pass h hk hi hL hcs hsl K)
    · exact g_tabIn dL_law_39 (off := 606) (tg := 645) (by decide) (by decide) (by decide) (by decide) (L_set h hk hi hL hcs hsl K)
    · exact g_tabIn dL_law_39 (off := 642) (tg := 681) (by decide) (by decide) (by decide) (by decide) (L_end h hk hi hL hcs hsl K)
    · exact g_tabIn dL_law_39 (off := 738) (tg := 777) (by decide) (by decide) (by decide) (by decide) (L_down h hk hi hL hcs hsl K)
    · exact g_tabIn dL_law_39 (off := 810) (tg := 849) (by decide) (by decide) (by decide) (by decide) (L_now h hk hi hL hcs hsl K)
    · exact g_tabIn dL_law_39 (off := 823) (tg := 862) (by decide) (by decide) (by decide) (by decide) (L_state h hk hi hL hcs hsl K)
    · exact g_tabIn dL_law_39 (off := 860) (tg := 899) (by decide) (by decide) (by decide) (by decide) (L_count h hk hi hL hcs hsl K)
    · exact g_tabIn dL_law_39 (off := 897) (tg := 936) (by decide) (by decide) (by decide) (by decide) (L_entries h hk hi hL hcs hsl K)
    · exact g_tabIn dL_law_39 (off := 910) (tg := 949) (by decide) (by decide) (by decide) (by decide) (L_entry h hk hi hL hcs hsl K)
theorem L_loop {E : gE} {ad : gAd} (hL : eA E 11 ≤ 240) : ∀ (f k i cs sl : Nat) (S : gS), i = 5 * k → eA E 11 < i + 5 * f + 5 → i < 300 → cs ≤ 100 + 5 * k → sl ≤ 2000 + 26 * k → WI S k → gG E mL_law (lwB ad) 23 [some (.inl (.ref (eA E 10))), some (vR 7 0 0), some (vR 8 0 0), some (vR 16 0 0), some (vI (nI i)), none, none] [] S cs sl
  | 0, k, i, cs, sl, S, hi, hf, h3, hcs, hsl, h => L_exit (by omega) (by omega) hL (by omega) (by omega)
  | f + 1, k, i, cs, sl, S, hi, hf, h3, hcs, hsl, h => by
    by_cases h5 : i + 5 ≤ eA E 11
    · exact L_step h (by omega) h5 hL (by omega) (by omega) (fun T' cs' sl' a b c => L_loop hL f (k + 1) (i + 5) cs' sl' T' (by omega) (by omega) (by omega) (by omega) (by omega) c)
    · exact L_exit h5 (by omega) hL (by omega) (by omega)
