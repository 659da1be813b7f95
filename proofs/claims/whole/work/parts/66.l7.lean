/-! THE LAW (7): the cases that may throw -/
theorem aM01 {tb : List Nat} {r : Option gV} {c v : Int32} (h : aM tb r c v) (h2 : (∃ n, r = thr n ∧ n ∈ tb) ∨ ∃ x : Int32, r = some (vI x) ∧ (x = 0 ∨ x = 1)) (hc : c = 0) : v = 0 ∨ v = 1 := by
  rcases h with ⟨x, h, -, rfl⟩ | ⟨n, i, -, hi, -, e⟩
  · rcases h2 with ⟨n, h3, -⟩ | ⟨y, h3, h4⟩
    · rw [h] at h3
      injection h3 with h3
      cases h3
    · rw [h] at h3
      injection h3 with h3
      injection h3 with h3
      injection h3 with h3
      subst h3
      exact h4
  · rw [hc] at e
    have z2 := congrArg Int32.toNatClampNeg e
    rw [nI_clamp (by omega)] at z2
    exact absurd z2.symm (Nat.succ_ne_zero i)
theorem tl_x {S : gS} {x : Nat} (h : fI S 97 0 0 = nI x) (hx : x < 2 ^ 31) : tl S = x := by unfold tl; rw [h, nI_clamp hx]
theorem oEntry_tl {S C1 : gS} {b p : Int32} {r : Option gV} (h : oEntry S b p r C1) : (¬ ((0 ≤ b ∧ b < 64 ∧ b < fI S 97 0 0) ∧ 0 ≤ p ∧ p < 4) ∧ r = thr 2 ∧ C1 = S) ∨ ∃ k q, k < tl S ∧ k < 64 ∧ b = nI k ∧ q < 4 ∧ p = nI q ∧ r = some (vI (aI S 13 0 ((tl S - 1 - k) % 64 * 4 + q))) ∧ C1 = S := by
  rcases h with h | ⟨n, k, q, h1, h2, h3, h4, h5, h6, h7, h8, h9⟩
  · exact Or.inl h
  · have e := tl_x h2 (by omega)
    exact Or.inr ⟨k, q, by rw [e]; exact h3, h4, h5, h6, h7, by rw [e]; exact h8, h9⟩

set_option maxRecDepth 100000 in
set_option maxHeartbeats 2000000 in
theorem L_job {E : gE} {ad : gAd} {S : gS} {k i cs sl : Nat} (h : WI S k) (hk : k ≤ 100) (hi : i + 5 ≤ eA E 11) (hL : eA E 11 ≤ 240) (hcs : cs + 5 ≤ 600096) (hsl : sl + 26 ≤ 7301386) (K : ∀ T' cs' sl', cs' ≤ cs + 5 → sl' ≤ sl + 26 → WI T' (k + 1) → gG E mL_law (lwB ad) 1017 [some (.inl (.ref (eA E 10))), some (vR 7 0 0), some (vR 8 0 0), some (vR 16 0 0), some (vI (nI i)), none, none] [] T' cs' sl') : gG E mL_law (lwB ad) 181 [some (.inl (.ref (eA E 10))), some (vR 7 0 0), some (vR 8 0 0), some (vR 16 0 0), some (vI (nI i)), none, none] [] S cs sl := by
  have l7 : lv S 7 0 0 := h.1.1.1.1
  have l8 : lv S 8 0 0 := h.2.1.1
  refine g_aload_n (pc' := 182) dL_law_181 rfl rfl ?_
  refine g_aload_raw (pc' := 183) dL_law_182 rfl rfl ?_
  refine g_iload (pc' := 185) dL_law_183 rfl rfl ?_
  refine g_iconst (pc' := 186) (v := 1) dL_law_185 rfl rfl ?_
  refine g_iadd (pc' := 187) dL_law_186 rfl ?_
  refine g_sld (pc' := 188) (n := i + 1) dL_law_187 rfl (nI_add _ 1) (by omega) (by omega) ?_
  refine g_aload_n (pc' := 189) dL_law_188 rfl rfl ?_
  refine g_callW (pc' := 192) (My := mL_job) (d := 9) (mc := 4) (ms := 20) (as := [vR 7 0 0, vI (nI (eA E (100 + (i + 1)))), vR 16 0 0]) (Nw := [(2, jn S, 0), (1, jn S, 0), (12, jn S, 0), (15, jn S, 0)]) (rest := []) cwL_65 dL_law_189 rfl rfl rfl (Nat.le_of_ble_eq_true rfl) (Nat.le_of_ble_eq_true rfl) (Nat.le_of_ble_eq_true rfl) (by simp [gNo]) (by simp) (LN_job (by have := h.1.1.2.2.1; omega)) (by show _ ≤ 600096; omega) (by show _ ≤ 7301386; omega) (kL_job h.1.1 h.1.2.1 h.1.2.2.1 (fun r C1 ho => (W_job h.1 ho).2.1 _ h.2.2.2) (fun r C1 code S' ho ha => ?_))
  have hw := W_job h.1 ho
  have hs2 := aW_S ha
  have hM1 := h.2.1.mp (hw.2.tr hs2.2)
  have hR1 := h.2.2.1.r (hw.2.tr hs2.2)
  have l8' := hM1.1
  refine gistore5 (pc' := 194) dL_law_192 rfl (Nat.le_of_ble_eq_true rfl) rfl ?_
  refine g_aload_n (pc' := 195) dL_law_194 rfl rfl ?_
  refine g_aload_raw (pc' := 196) dL_law_195 rfl rfl ?_
  refine g_iload (pc' := 198) dL_law_196 rfl rfl ?_
  refine g_iconst (pc' := 199) (v := 1) dL_law_198 rfl rfl ?_
  refine g_iadd (pc' := 200) dL_law_199 rfl ?_
  refine g_sld (pc' := 201) (n := i + 1) dL_law_200 rfl (nI_add _ 1) (by omega) (by omega) ?_
  refine gcv1 (pc' := 204) cwL_70 cf8 dL_law_201 rfl l8' (Nat.le_of_ble_eq_true rfl) (Nat.le_of_ble_eq_true rfl) (Nat.le_of_ble_eq_true rfl) (by show _ ≤ 600096; omega) (by show _ ≤ 7301386; omega) (kX8_job hM1 hR1 h.1.2.1 ho (fun T' v hR2 hk2 hv => ?_))
  have hWI := WI_end h hw hs2 hR2 hk2
  obtain ⟨e1, e2⟩ := aWM ha hv (by decide) hk2
  refine gistore6 (pc' := 206) dL_law_204 rfl (Nat.le_of_ble_eq_true rfl) rfl ?_
  refine g_aload_n (pc' := 207) dL_law_206 rfl rfl ?_
  refine gcv0 (pc' := 210) cwL_71 cf8 dL_law_207 rfl hWI.2.1.1 (Nat.le_of_ble_eq_true rfl) (Nat.le_of_ble_eq_true rfl) (Nat.le_of_ble_eq_true rfl) (by show _ ≤ 600096; omega) (by show _ ≤ 7301386; omega) (kX8_thrown hWI.2.1.1 ?_)
  refine g_iload (pc' := 212) dL_law_210 rfl rfl ?_
  refine g_icmp_eq dL_law_212 (tg := 217) (pc' := 215) (by decide) rfl (fun h212 => ?_) (fun h212 => absurd e1 h212)
  refine g_iload (pc' := 219) dL_law_217 rfl rfl ?_
  refine g_if_ne dL_law_219 (tg := 234) (pc' := 222) (by decide) rfl (fun h219 => ?_) (fun h219 => ?_)
  · refine g_goto dL_law_234 (pc' := 1017) (by decide) ?_
    exact g_drop (K _ _ _ (by omega) (by omega) hWI)
  · refine g_aload_n (pc' := 223) dL_law_222 rfl rfl ?_
    refine g_iconst (pc' := 224) (v := 0) dL_law_223 rfl rfl ?_
    refine g_lald (pc' := 225) (n := 0) dL_law_224 rfl (by decide) rfl rfl (by decide) hWI.2.2.2 ?_
    refine g_iload (pc' := 227) dL_law_225 rfl rfl ?_
    refine g_i2l (pc' := 228) dL_law_227 rfl ?_
    refine g_lcmp (pc' := 229) dL_law_228 rfl ?_
    refine g_if_eq dL_law_229 (tg := 234) (pc' := 232) (by decide) rfl (fun h229 => ?_) (fun h229 => absurd (by rw [e2 h219]; exact lcmp0.mpr rfl) h229)
    refine g_goto dL_law_234 (pc' := 1017) (by decide) ?_
    exact g_drop (K _ _ _ (by omega) (by omega) hWI)


set_option maxRecDepth 100000 in
set_option maxHeartbeats 2000000 in
theorem L_task {E : gE} {ad : gAd} {S : gS} {k i cs sl : Nat} (h : WI S k) (hk : k ≤ 100) (hi : i + 5 ≤ eA E 11) (hL : eA E 11 ≤ 240) (hcs : cs + 5 ≤ 600096) (hsl : sl + 26 ≤ 7301386) (K : ∀ T' cs' sl', cs' ≤ cs + 5 → sl' ≤ sl + 26 → WI T' (k + 1) → gG E mL_law (lwB ad) 1017 [some (.inl (.ref (eA E 10))), some (vR 7 0 0), some (vR 8 0 0), some (vR 16 0 0), some (vI (nI i)), none, none] [] T' cs' sl') : gG E mL_law (lwB ad) 261 [some (.inl (.ref (eA E 10))), some (vR 7 0 0), some (vR 8 0 0), some (vR 16 0 0), some (vI (nI i)), none, none] [] S cs sl := by
  have l7 : lv S 7 0 0 := h.1.1.1.1
  have l8 : lv S 8 0 0 := h.2.1.1
  refine g_aload_n (pc' := 262) dL_law_261 rfl rfl ?_
  refine g_aload_raw (pc' := 263) dL_law_262 rfl rfl ?_
  refine g_iload (pc' := 265) dL_law_263 rfl rfl ?_
  refine g_iconst (pc' := 266) (v := 1) dL_law_265 rfl rfl ?_
  refine g_iadd (pc' := 267) dL_law_266 rfl ?_
  refine g_sld (pc' := 268) (n := i + 1) dL_law_267 rfl (nI_add _ 1) (by omega) (by omega) ?_
  refine g_aload_raw (pc' := 269) dL_law_268 rfl rfl ?_
  refine g_iload (pc' := 271) dL_law_269 rfl rfl ?_
  refine g_iconst (pc' := 272) (v := 2) dL_law_271 rfl rfl ?_
  refine g_iadd (pc' := 273) dL_law_272 rfl ?_
  refine g_sld (pc' := 274) (n := i + 2) dL_law_273 rfl (nI_add _ 2) (by omega) (by omega) ?_
  refine g_aload_raw (pc' := 275) dL_law_274 rfl rfl ?_
  refine g_iload (pc' := 277) dL_law_275 rfl rfl ?_
  refine g_iconst (pc' := 278) (v := 3) dL_law_277 rfl rfl ?_
  refine g_iadd (pc' := 279) dL_law_278 rfl ?_
  refine g_sld (pc' := 280) (n := i + 3) dL_law_279 rfl (nI_add _ 3) (by omega) (by omega) ?_
  refine g_aload_raw (pc' := 281) dL_law_280 rfl rfl ?_
  refine g_iload (pc' := 283) dL_law_281 rfl rfl ?_
  refine g_iconst (pc' := 284) (v := 4) dL_law_283 rfl rfl ?_
  refine g_iadd (pc' := 285) dL_law_284 rfl ?_
  refine g_sld (pc' := 286) (n := i + 4) dL_law_285 rfl (nI_add _ 4) (by omega) (by omega) ?_
  refine g_aload_n (pc' := 287) dL_law_286 rfl rfl ?_
  refine g_callW (pc' := 290) (My := mL_task) (d := 8) (mc := 1) (ms := 6) (as := [vR 7 0 0, vI (nI (eA E (100 + (i + 1)))), vI (nI (eA E (100 + (i + 2)))), vI (nI (eA E (100 + (i + 3)))), vI (nI (eA E (100 + (i + 4)))), vR 16 0 0]) (Nw := [(5, min (nI (eA E (100 + (i + 1)))).toNatClampNeg 6, min (jc S (nI (eA E (100 + (i + 1)))).toNatClampNeg) 6)]) (rest := []) cwL_83 dL_law_287 rfl rfl rfl (Nat.le_of_ble_eq_true rfl) (Nat.le_of_ble_eq_true rfl) (Nat.le_of_ble_eq_true rfl) (by simp [gNo]) (by simp) (LN_task (by omega) (by omega)) (by show _ ≤ 600096; omega) (by show _ ≤ 7301386; omega) (kL_task h.1.1 h.1.2.2.1 (fun q hq e => by have e2 := congrArg Int32.toNatClampNeg e; have := h.1.1.2.2.1; have := h.1.1.jc6 hq; rw [nI_clamp (n := q) (by omega)] at e2; rw [e2]; exact ⟨by omega, by omega⟩) (fun r C1 ho => (W_task h.1 ho).2.1 _ h.2.2.2) (fun r C1 code S' ho ha => ?_))
  have hw := W_task h.1 ho
  have hs2 := aW_S ha
  have hM1 := h.2.1.mp (hw.2.tr hs2.2)
  have hR1 := h.2.2.1.r (hw.2.tr hs2.2)
  have l8' := hM1.1
  refine gistore5 (pc' := 292) dL_law_290 rfl (Nat.le_of_ble_eq_true rfl) rfl ?_
  refine g_aload_n (pc' := 293) dL_law_292 rfl rfl ?_
  refine g_aload_raw (pc' := 294) dL_law_293 rfl rfl ?_
  refine g_iload (pc' := 296) dL_law_294 rfl rfl ?_
  refine g_iconst (pc' := 297) (v := 1) dL_law_296 rfl rfl ?_
  refine g_iadd (pc' := 298) dL_law_297 rfl ?_
  refine g_sld (pc' := 299) (n := i + 1) dL_law_298 rfl (nI_add _ 1) (by omega) (by omega) ?_
  refine g_aload_raw (pc' := 300) dL_law_299 rfl rfl ?_
  refine g_iload (pc' := 302) dL_law_300 rfl rfl ?_
  refine g_iconst (pc' := 303) (v := 2) dL_law_302 rfl rfl ?_
  refine g_iadd (pc' := 304) dL_law_303 rfl ?_
  refine g_sld (pc' := 305) (n := i + 2) dL_law_304 rfl (nI_add _ 2) (by omega) (by omega) ?_
  refine g_aload_raw (pc' := 306) dL_law_305 rfl rfl ?_
  refine g_iload (pc' := 308) dL_law_306 rfl rfl ?_
  refine g_iconst (pc' := 309) (v := 3) dL_law_308 rfl rfl ?_
  refine g_iadd (pc' := 310) dL_law_309 rfl ?_
  refine g_sld (pc' := 311) (n := i + 3) dL_law_310 rfl (nI_add _ 3) (by omega) (by omega) ?_
  refine g_aload_raw (pc' := 312) dL_law_311 rfl rfl ?_
  refine g_iload (pc' := 314) dL_law_312 rfl rfl ?_
  refine g_iconst (pc' := 315) (v := 4) dL_law_314 rfl rfl ?_
  refine g_iadd (pc' := 316) dL_law_315 rfl ?_
  refine g_sld (pc' := 317) (n := i + 4) dL_law_316 rfl (nI_add _ 4) (by omega) (by omega) ?_
  refine gcv4 (pc' := 320) cwL_86 cf8 dL_law_317 rfl l8' (Nat.le_of_ble_eq_true rfl) (Nat.le_of_ble_eq_true rfl) (Nat.le_of_ble_eq_true rfl) (by show _ ≤ 600096; omega) (by show _ ≤ 7301386; omega) (kX8_task hM1 hR1 ho (fun T' v hR2 hk2 hv => ?_))
  have hWI := WI_end h hw hs2 hR2 hk2
  obtain ⟨e1, e2⟩ := aWM ha hv (by decide) hk2
  refine gistore6 (pc' := 322) dL_law_320 rfl (Nat.le_of_ble_eq_true rfl) rfl ?_
  refine g_aload_n (pc' := 323) dL_law_322 rfl rfl ?_
  refine gcv0 (pc' := 326) cwL_71 cf8 dL_law_323 rfl hWI.2.1.1 (Nat.le_of_ble_eq_true rfl) (Nat.le_of_ble_eq_true rfl) (Nat.le_of_ble_eq_true rfl) (by show _ ≤ 600096; omega) (by show _ ≤ 7301386; omega) (kX8_thrown hWI.2.1.1 ?_)
  refine g_iload (pc' := 328) dL_law_326 rfl rfl ?_
  refine g_icmp_eq dL_law_328 (tg := 333) (pc' := 331) (by decide) rfl (fun h328 => ?_) (fun h328 => absurd e1 h328)
  refine g_iload (pc' := 335) dL_law_333 rfl rfl ?_
  refine g_if_ne dL_law_335 (tg := 350) (pc' := 338) (by decide) rfl (fun h335 => ?_) (fun h335 => ?_)
  · refine g_goto dL_law_350 (pc' := 1017) (by decide) ?_
    exact g_drop (K _ _ _ (by omega) (by omega) hWI)
  · refine g_aload_n (pc' := 339) dL_law_338 rfl rfl ?_
    refine g_iconst (pc' := 340) (v := 0) dL_law_339 rfl rfl ?_
    refine g_lald (pc' := 341) (n := 0) dL_law_340 rfl (by decide) rfl rfl (by decide) hWI.2.2.2 ?_
    refine g_iload (pc' := 343) dL_law_341 rfl rfl ?_
    refine g_i2l (pc' := 344) dL_law_343 rfl ?_
    refine g_lcmp (pc' := 345) dL_law_344 rfl ?_
    refine g_if_eq dL_law_345 (tg := 350) (pc' := 348) (by decide) rfl (fun h345 => ?_) (fun h345 => absurd (by rw [e2 h335]; exact lcmp0.mpr rfl) h345)
    refine g_goto dL_law_350 (pc' := 1017) (by decide) ?_
    exact g_drop (K _ _ _ (by omega) (by omega) hWI)


set_option maxRecDepth 100000 in
set_option maxHeartbeats 2000000 in
theorem L_holds {E : gE} {ad : gAd} {S : gS} {k i cs sl : Nat} (h : WI S k) (hk : k ≤ 100) (hi : i + 5 ≤ eA E 11) (hL : eA E 11 ≤ 240) (hcs : cs + 5 ≤ 600096) (hsl : sl + 26 ≤ 7301386) (K : ∀ T' cs' sl', cs' ≤ cs + 5 → sl' ≤ sl + 26 → WI T' (k + 1) → gG E mL_law (lwB ad) 1017 [some (.inl (.ref (eA E 10))), some (vR 7 0 0), some (vR 8 0 0), some (vR 16 0 0), some (vI (nI i)), none, none] [] T' cs' sl') : gG E mL_law (lwB ad) 378 [some (.inl (.ref (eA E 10))), some (vR 7 0 0), some (vR 8 0 0), some (vR 16 0 0), some (vI (nI i)), none, none] [] S cs sl := by
  have l7 : lv S 7 0 0 := h.1.1.1.1
  have l8 : lv S 8 0 0 := h.2.1.1
  obtain ⟨m, x, hG, hm, hx, b, hb, hbm⟩ := id h.1.2.2.2.1
  refine g_aload_n (pc' := 379) dL_law_378 rfl rfl ?_
  refine g_aload_raw (pc' := 380) dL_law_379 rfl rfl ?_
  refine g_iload (pc' := 382) dL_law_380 rfl rfl ?_
  refine g_iconst (pc' := 383) (v := 1) dL_law_382 rfl rfl ?_
  refine g_iadd (pc' := 384) dL_law_383 rfl ?_
  refine g_sld (pc' := 385) (n := i + 1) dL_law_384 rfl (nI_add _ 1) (by omega) (by omega) ?_
  refine g_aload_raw (pc' := 386) dL_law_385 rfl rfl ?_
  refine g_iload (pc' := 388) dL_law_386 rfl rfl ?_
  refine g_iconst (pc' := 389) (v := 2) dL_law_388 rfl rfl ?_
  refine g_iadd (pc' := 390) dL_law_389 rfl ?_
  refine g_sld (pc' := 391) (n := i + 2) dL_law_390 rfl (nI_add _ 2) (by omega) (by omega) ?_
  refine g_aload_n (pc' := 392) dL_law_391 rfl rfl ?_
  refine g_callW (pc' := 395) (My := mL_holds) (d := 8) (mc := 1) (ms := 6) (as := [vR 7 0 0, vI (nI (eA E (100 + (i + 1)))), vI (nI (eA E (100 + (i + 2)))), vR 16 0 0]) (Nw := []) (rest := []) cwL_92 dL_law_392 rfl rfl rfl (Nat.le_of_ble_eq_true rfl) (Nat.le_of_ble_eq_true rfl) (Nat.le_of_ble_eq_true rfl) (fun _ _ => gNo_nil) (by simp) (fun _ h9 => absurd h9 List.not_mem_nil) (by show _ ≤ 600096; omega) (by show _ ≤ 7301386; omega) (kL_holds h.1.1 hG.2.1 (fun r C1 ho => (W_holds h.1 hk ho).2.1 _ h.2.2.2) (fun r C1 code S' ho ha => ?_))
  have hw := W_holds h.1 hk ho
  have hs2 := aW_S ha
  have hM1 := h.2.1.mp (hw.2.tr hs2.2)
  have hR1 := h.2.2.1.r (hw.2.tr hs2.2)
  have l8' := hM1.1
  refine gistore5 (pc' := 397) dL_law_395 rfl (Nat.le_of_ble_eq_true rfl) rfl ?_
  refine g_aload_n (pc' := 398) dL_law_397 rfl rfl ?_
  refine g_aload_raw (pc' := 399) dL_law_398 rfl rfl ?_
  refine g_iload (pc' := 401) dL_law_399 rfl rfl ?_
  refine g_iconst (pc' := 402) (v := 1) dL_law_401 rfl rfl ?_
  refine g_iadd (pc' := 403) dL_law_402 rfl ?_
  refine g_sld (pc' := 404) (n := i + 1) dL_law_403 rfl (nI_add _ 1) (by omega) (by omega) ?_
  refine g_aload_raw (pc' := 405) dL_law_404 rfl rfl ?_
  refine g_iload (pc' := 407) dL_law_405 rfl rfl ?_
  refine g_iconst (pc' := 408) (v := 2) dL_law_407 rfl rfl ?_
  refine g_iadd (pc' := 409) dL_law_408 rfl ?_
  refine g_sld (pc' := 410) (n := i + 2) dL_law_409 rfl (nI_add _ 2) (by omega) (by omega) ?_
  refine gcv2 (pc' := 413) cwL_95 cf8 dL_law_410 rfl l8' (Nat.le_of_ble_eq_true rfl) (Nat.le_of_ble_eq_true rfl) (Nat.le_of_ble_eq_true rfl) (by show _ ≤ 600096; omega) (by show _ ≤ 7301386; omega) (kX8_holds hM1 hR1 h.1.1 ho (fun T' v hR2 hk2 hv => ?_))
  have hWI := WI_end h hw hs2 hR2 hk2
  obtain ⟨e1, e2⟩ := aWM ha hv (by decide) hk2
  have h01 := aM01 hv (oHolds_r ho)
  refine gistore6 (pc' := 415) dL_law_413 rfl (Nat.le_of_ble_eq_true rfl) rfl ?_
  refine g_aload_n (pc' := 416) dL_law_415 rfl rfl ?_
  refine gcv0 (pc' := 419) cwL_71 cf8 dL_law_416 rfl hWI.2.1.1 (Nat.le_of_ble_eq_true rfl) (Nat.le_of_ble_eq_true rfl) (Nat.le_of_ble_eq_true rfl) (by show _ ≤ 600096; omega) (by show _ ≤ 7301386; omega) (kX8_thrown hWI.2.1.1 ?_)
  refine g_iload (pc' := 421) dL_law_419 rfl rfl ?_
  refine g_icmp_eq dL_law_421 (tg := 426) (pc' := 424) (by decide) rfl (fun h421 => ?_) (fun h421 => absurd e1 h421)
  refine g_iload (pc' := 428) dL_law_426 rfl rfl ?_
  refine g_if_ne dL_law_428 (tg := 450) (pc' := 431) (by decide) rfl (fun h428 => ?_) (fun h428 => ?_)
  · refine g_goto dL_law_450 (pc' := 1017) (by decide) ?_
    exact g_drop (K _ _ _ (by omega) (by omega) hWI)
  · refine g_aload_n (pc' := 432) dL_law_431 rfl rfl ?_
    refine g_iconst (pc' := 433) (v := 0) dL_law_432 rfl rfl ?_
    refine g_lald (pc' := 434) (n := 0) dL_law_433 rfl (by decide) rfl rfl (by decide) hWI.2.2.2 ?_
    refine g_iload (pc' := 436) dL_law_434 rfl rfl ?_
    refine g_if_eq dL_law_436 (tg := 443) (pc' := 439) (by decide) rfl (fun h436 => ?_) (fun h436 => ?_)
    · refine g_lconst (pc' := 444) (v := 0) dL_law_443 rfl rfl ?_
      refine g_lcmp (pc' := 445) dL_law_444 rfl ?_
      refine g_if_eq dL_law_445 (tg := 450) (pc' := 448) (by decide) rfl (fun h445 => ?_) (fun h445 => absurd (by rw [e2 h428]; first | (rw [h436]; decide) | (rw [(h01 (e1.trans h428)).resolve_left h436]; decide)) h445)
      refine g_goto dL_law_450 (pc' := 1017) (by decide) ?_
      exact g_drop (K _ _ _ (by omega) (by omega) hWI)
    · refine g_lconst (pc' := 440) (v := 1) dL_law_439 rfl rfl ?_
      refine g_goto dL_law_440 (pc' := 444) (by decide) ?_
      refine g_lcmp (pc' := 445) dL_law_444 rfl ?_
      refine g_if_eq dL_law_445 (tg := 450) (pc' := 448) (by decide) rfl (fun h445 => ?_) (fun h445 => absurd (by rw [e2 h428]; first | (rw [h436]; decide) | (rw [(h01 (e1.trans h428)).resolve_left h436]; decide)) h445)
      refine g_goto dL_law_450 (pc' := 1017) (by decide) ?_
      exact g_drop (K _ _ _ (by omega) (by omega) hWI)


set_option maxRecDepth 100000 in
set_option maxHeartbeats 2000000 in
theorem L_next {E : gE} {ad : gAd} {S : gS} {k i cs sl : Nat} (h : WI S k) (hk : k ≤ 100) (hi : i + 5 ≤ eA E 11) (hL : eA E 11 ≤ 240) (hcs : cs + 5 ≤ 600096) (hsl : sl + 26 ≤ 7301386) (K : ∀ T' cs' sl', cs' ≤ cs + 5 → sl' ≤ sl + 26 → WI T' (k + 1) → gG E mL_law (lwB ad) 1017 [some (.inl (.ref (eA E 10))), some (vR 7 0 0), some (vR 8 0 0), some (vR 16 0 0), some (vI (nI i)), none, none] [] T' cs' sl') : gG E mL_law (lwB ad) 453 [some (.inl (.ref (eA E 10))), some (vR 7 0 0), some (vR 8 0 0), some (vR 16 0 0), some (vI (nI i)), none, none] [] S cs sl := by
  have l7 : lv S 7 0 0 := h.1.1.1.1
  have l8 : lv S 8 0 0 := h.2.1.1
  obtain ⟨m, x, hG, hm, hx, b, hb, hbm⟩ := id h.1.2.2.2.1
  refine g_aload_n (pc' := 454) dL_law_453 rfl rfl ?_
  refine g_aload_raw (pc' := 455) dL_law_454 rfl rfl ?_
  refine g_iload (pc' := 457) dL_law_455 rfl rfl ?_
  refine g_iconst (pc' := 458) (v := 1) dL_law_457 rfl rfl ?_
  refine g_iadd (pc' := 459) dL_law_458 rfl ?_
  refine g_sld (pc' := 460) (n := i + 1) dL_law_459 rfl (nI_add _ 1) (by omega) (by omega) ?_
  refine g_aload_raw (pc' := 461) dL_law_460 rfl rfl ?_
  refine g_iload (pc' := 463) dL_law_461 rfl rfl ?_
  refine g_iconst (pc' := 464) (v := 2) dL_law_463 rfl rfl ?_
  refine g_iadd (pc' := 465) dL_law_464 rfl ?_
  refine g_sld (pc' := 466) (n := i + 2) dL_law_465 rfl (nI_add _ 2) (by omega) (by omega) ?_
  refine g_aload_n (pc' := 467) dL_law_466 rfl rfl ?_
  refine g_callW (pc' := 470) (My := mL_next) (d := 8) (mc := 1) (ms := 6) (as := [vR 7 0 0, vI (nI (eA E (100 + (i + 1)))), vI (nI (eA E (100 + (i + 2)))), vR 16 0 0]) (Nw := []) (rest := []) cwL_96 dL_law_467 rfl rfl rfl (Nat.le_of_ble_eq_true rfl) (Nat.le_of_ble_eq_true rfl) (Nat.le_of_ble_eq_true rfl) (fun _ _ => gNo_nil) (by simp) (fun _ h9 => absurd h9 List.not_mem_nil) (by show _ ≤ 600096; omega) (by show _ ≤ 7301386; omega) (kL_next h.1.1 hG.2.1 (fun r C1 ho => (W_next h.1 hk ho).2.1 _ h.2.2.2) (fun r C1 code S' ho ha => ?_))
  have hw := W_next h.1 hk ho
  have hs2 := aW_S ha
  have hM1 := h.2.1.mp (hw.2.tr hs2.2)
  have hR1 := h.2.2.1.r (hw.2.tr hs2.2)
  have l8' := hM1.1
  refine gistore5 (pc' := 472) dL_law_470 rfl (Nat.le_of_ble_eq_true rfl) rfl ?_
  refine g_aload_n (pc' := 473) dL_law_472 rfl rfl ?_
  refine g_aload_raw (pc' := 474) dL_law_473 rfl rfl ?_
  refine g_iload (pc' := 476) dL_law_474 rfl rfl ?_
  refine g_iconst (pc' := 477) (v := 1) dL_law_476 rfl rfl ?_
  refine g_iadd (pc' := 478) dL_law_477 rfl ?_
  refine g_sld (pc' := 479) (n := i + 1) dL_law_478 rfl (nI_add _ 1) (by omega) (by omega) ?_
  refine g_aload_raw (pc' := 480) dL_law_479 rfl rfl ?_
  refine g_iload (pc' := 482) dL_law_480 rfl rfl ?_
  refine g_iconst (pc' := 483) (v := 2) dL_law_482 rfl rfl ?_
  refine g_iadd (pc' := 484) dL_law_483 rfl ?_
  refine g_sld (pc' := 485) (n := i + 2) dL_law_484 rfl (nI_add _ 2) (by omega) (by omega) ?_
  refine gcv2 (pc' := 488) cwL_98 cf8 dL_law_485 rfl l8' (Nat.le_of_ble_eq_true rfl) (Nat.le_of_ble_eq_true rfl) (Nat.le_of_ble_eq_true rfl) (by show _ ≤ 600096; omega) (by show _ ≤ 7301386; omega) (kX8_next hM1 hR1 h.1.1 ho (fun T' v hR2 hk2 hv => ?_))
  have hWI := WI_end h hw hs2 hR2 hk2
  obtain ⟨e1, e2⟩ := aWM ha hv (by decide) hk2
  refine gistore6 (pc' := 490) dL_law_488 rfl (Nat.le_of_ble_eq_true rfl) rfl ?_
  refine g_aload_n (pc' := 491) dL_law_490 rfl rfl ?_
  refine gcv0 (pc' := 494) cwL_71 cf8 dL_law_491 rfl hWI.2.1.1 (Nat.le_of_ble_eq_true rfl) (Nat.le_of_ble_eq_true rfl) (Nat.le_of_ble_eq_true rfl) (by show _ ≤ 600096; omega) (by show _ ≤ 7301386; omega) (kX8_thrown hWI.2.1.1 ?_)
  refine g_iload (pc' := 496) dL_law_494 rfl rfl ?_
  refine g_icmp_eq dL_law_496 (tg := 501) (pc' := 499) (by decide) rfl (fun h496 => ?_) (fun h496 => absurd e1 h496)
  refine g_iload (pc' := 503) dL_law_501 rfl rfl ?_
  refine g_if_ne dL_law_503 (tg := 518) (pc' := 506) (by decide) rfl (fun h503 => ?_) (fun h503 => ?_)
  · refine g_goto dL_law_518 (pc' := 1017) (by decide) ?_
    exact g_drop (K _ _ _ (by omega) (by omega) hWI)
  · refine g_aload_n (pc' := 507) dL_law_506 rfl rfl ?_
    refine g_iconst (pc' := 508) (v := 0) dL_law_507 rfl rfl ?_
    refine g_lald (pc' := 509) (n := 0) dL_law_508 rfl (by decide) rfl rfl (by decide) hWI.2.2.2 ?_
    refine g_iload (pc' := 511) dL_law_509 rfl rfl ?_
    refine g_i2l (pc' := 512) dL_law_511 rfl ?_
    refine g_lcmp (pc' := 513) dL_law_512 rfl ?_
    refine g_if_eq dL_law_513 (tg := 518) (pc' := 516) (by decide) rfl (fun h513 => ?_) (fun h513 => absurd (by rw [e2 h503]; exact lcmp0.mpr rfl) h513)
    refine g_goto dL_law_518 (pc' := 1017) (by decide) ?_
    exact g_drop (K _ _ _ (by omega) (by omega) hWI)


set_option maxRecDepth 100000 in
set_option maxHeartbeats 2000000 in
theorem L_part {E : gE} {ad : gAd} {S : gS} {k i cs sl : Nat} (h : WI S k) (hk : k ≤ 100) (hi : i + 5 ≤ eA E 11) (hL : eA E 11 ≤ 240) (hcs : cs + 5 ≤ 600096) (hsl : sl + 26 ≤ 7301386) (K : ∀ T' cs' sl', cs' ≤ cs + 5 → sl' ≤ sl + 26 → WI T' (k + 1) → gG E mL_law (lwB ad) 1017 [some (.inl (.ref (eA E 10))), some (vR 7 0 0), some (vR 8 0 0), some (vR 16 0 0), some (vI (nI i)), none, none] [] T' cs' sl') : gG E mL_law (lwB ad) 521 [some (.inl (.ref (eA E 10))), some (vR 7 0 0), some (vR 8 0 0), some (vR 16 0 0), some (vI (nI i)), none, none] [] S cs sl := by
  have l7 : lv S 7 0 0 := h.1.1.1.1
  have l8 : lv S 8 0 0 := h.2.1.1
  obtain ⟨m, x, hG, hm, hx, b, hb, hbm⟩ := id h.1.2.2.2.1
  refine g_aload_n (pc' := 522) dL_law_521 rfl rfl ?_
  refine g_aload_raw (pc' := 523) dL_law_522 rfl rfl ?_
  refine g_iload (pc' := 525) dL_law_523 rfl rfl ?_
  refine g_iconst (pc' := 526) (v := 1) dL_law_525 rfl rfl ?_
  refine g_iadd (pc' := 527) dL_law_526 rfl ?_
  refine g_sld (pc' := 528) (n := i + 1) dL_law_527 rfl (nI_add _ 1) (by omega) (by omega) ?_
  refine g_aload_raw (pc' := 529) dL_law_528 rfl rfl ?_
  refine g_iload (pc' := 531) dL_law_529 rfl rfl ?_
  refine g_iconst (pc' := 532) (v := 2) dL_law_531 rfl rfl ?_
  refine g_iadd (pc' := 533) dL_law_532 rfl ?_
  refine g_sld (pc' := 534) (n := i + 2) dL_law_533 rfl (nI_add _ 2) (by omega) (by omega) ?_
  refine g_aload_n (pc' := 535) dL_law_534 rfl rfl ?_
  refine g_callW (pc' := 538) (My := mL_part) (d := 8) (mc := 1) (ms := 6) (as := [vR 7 0 0, vI (nI (eA E (100 + (i + 1)))), vI (nI (eA E (100 + (i + 2)))), vR 16 0 0]) (Nw := []) (rest := []) cwL_99 dL_law_535 rfl rfl rfl (Nat.le_of_ble_eq_true rfl) (Nat.le_of_ble_eq_true rfl) (Nat.le_of_ble_eq_true rfl) (fun _ _ => gNo_nil) (by simp) (fun _ h9 => absurd h9 List.not_mem_nil) (by show _ ≤ 600096; omega) (by show _ ≤ 7301386; omega) (kL_part h.1.1 hG.2.1 (fun r C1 ho => (W_part h.1 hk ho).2.1 _ h.2.2.2) (fun r C1 code S' ho ha => ?_))
  have hw := W_part h.1 hk ho
  have hs2 := aW_S ha
  have hM1 := h.2.1.mp (hw.2.tr hs2.2)
  have hR1 := h.2.2.1.r (hw.2.tr hs2.2)
  have l8' := hM1.1
  refine gistore5 (pc' := 540) dL_law_538 rfl (Nat.le_of_ble_eq_true rfl) rfl ?_
  refine g_aload_n (pc' := 541) dL_law_540 rfl rfl ?_
  refine g_aload_raw (pc' := 542) dL_law_541 rfl rfl ?_
  refine g_iload (pc' := 544) dL_law_542 rfl rfl ?_
  refine g_iconst (pc' := 545) (v := 1) dL_law_544 rfl rfl ?_
  refine g_iadd (pc' := 546) dL_law_545 rfl ?_
  refine g_sld (pc' := 547) (n := i + 1) dL_law_546 rfl (nI_add _ 1) (by omega) (by omega) ?_
  refine g_aload_raw (pc' := 548) dL_law_547 rfl rfl ?_
  refine g_iload (pc' := 550) dL_law_548 rfl rfl ?_
  refine g_iconst (pc' := 551) (v := 2) dL_law_550 rfl rfl ?_
  refine g_iadd (pc' := 552) dL_law_551 rfl ?_
  refine g_sld (pc' := 553) (n := i + 2) dL_law_552 rfl (nI_add _ 2) (by omega) (by omega) ?_
  refine gcv2 (pc' := 556) cwL_101 cf8 dL_law_553 rfl l8' (Nat.le_of_ble_eq_true rfl) (Nat.le_of_ble_eq_true rfl) (Nat.le_of_ble_eq_true rfl) (by show _ ≤ 600096; omega) (by show _ ≤ 7301386; omega) (kX8_part hM1 hR1 ho (fun T' v hR2 hk2 hv => ?_))
  have hWI := WI_end h hw hs2 hR2 hk2
  obtain ⟨e1, e2⟩ := aWM ha hv (by decide) hk2
  refine gistore6 (pc' := 558) dL_law_556 rfl (Nat.le_of_ble_eq_true rfl) rfl ?_
  refine g_aload_n (pc' := 559) dL_law_558 rfl rfl ?_
  refine gcv0 (pc' := 562) cwL_71 cf8 dL_law_559 rfl hWI.2.1.1 (Nat.le_of_ble_eq_true rfl) (Nat.le_of_ble_eq_true rfl) (Nat.le_of_ble_eq_true rfl) (by show _ ≤ 600096; omega) (by show _ ≤ 7301386; omega) (kX8_thrown hWI.2.1.1 ?_)
  refine g_iload (pc' := 564) dL_law_562 rfl rfl ?_
  refine g_icmp_eq dL_law_564 (tg := 569) (pc' := 567) (by decide) rfl (fun h564 => ?_) (fun h564 => absurd e1 h564)
  refine g_iload (pc' := 571) dL_law_569 rfl rfl ?_
  refine g_if_ne dL_law_571 (tg := 586) (pc' := 574) (by decide) rfl (fun h571 => ?_) (fun h571 => ?_)
  · refine g_goto dL_law_586 (pc' := 1017) (by decide) ?_
    exact g_drop (K _ _ _ (by omega) (by omega) hWI)
  · refine g_aload_n (pc' := 575) dL_law_574 rfl rfl ?_
    refine g_iconst (pc' := 576) (v := 0) dL_law_575 rfl rfl ?_
    refine g_lald (pc' := 577) (n := 0) dL_law_576 rfl (by decide) rfl rfl (by decide) hWI.2.2.2 ?_
    refine g_iload (pc' := 579) dL_law_577 rfl rfl ?_
    refine g_i2l (pc' := 580) dL_law_579 rfl ?_
    refine g_lcmp (pc' := 581) dL_law_580 rfl ?_
    refine g_if_eq dL_law_581 (tg := 586) (pc' := 584) (by decide) rfl (fun h581 => ?_) (fun h581 => absurd (by rw [e2 h571]; exact lcmp0.mpr rfl) h581)
    refine g_goto dL_law_586 (pc' := 1017) (by decide) ?_
    exact g_drop (K _ _ _ (by omega) (by omega) hWI)


set_option maxRecDepth 100000 in
set_option maxHeartbeats 2000000 in
theorem L_pass {E : gE} {ad : gAd} {S : gS} {k i cs sl : Nat} (h : WI S k) (hk : k ≤ 100) (hi : i + 5 ≤ eA E 11) (hL : eA E 11 ≤ 240) (hcs : cs + 5 ≤ 600096) (hsl : sl + 26 ≤ 7301386) (K : ∀ T' cs' sl', cs' ≤ cs + 5 → sl' ≤ sl + 26 → WI T' (k + 1) → gG E mL_law (lwB ad) 1017 [some (.inl (.ref (eA E 10))), some (vR 7 0 0), some (vR 8 0 0), some (vR 16 0 0), some (vI (nI i)), none, none] [] T' cs' sl') : gG E mL_law (lwB ad) 589 [some (.inl (.ref (eA E 10))), some (vR 7 0 0), some (vR 8 0 0), some (vR 16 0 0), some (vI (nI i)), none, none] [] S cs sl := by
  have l7 : lv S 7 0 0 := h.1.1.1.1
  have l8 : lv S 8 0 0 := h.2.1.1
  obtain ⟨m, x, hG, hm, hx, b, hb, hbm⟩ := id h.1.2.2.2.1
  refine g_aload_n (pc' := 590) dL_law_589 rfl rfl ?_
  refine g_aload_raw (pc' := 591) dL_law_590 rfl rfl ?_
  refine g_iload (pc' := 593) dL_law_591 rfl rfl ?_
  refine g_iconst (pc' := 594) (v := 1) dL_law_593 rfl rfl ?_
  refine g_iadd (pc' := 595) dL_law_594 rfl ?_
  refine g_sld (pc' := 596) (n := i + 1) dL_law_595 rfl (nI_add _ 1) (by omega) (by omega) ?_
  refine g_aload_n (pc' := 597) dL_law_596 rfl rfl ?_
  refine g_callW (pc' := 600) (My := mL_pass) (d := 8) (mc := 1) (ms := 6) (as := [vR 7 0 0, vI (nI (eA E (100 + (i + 1)))), vR 16 0 0]) (Nw := []) (rest := []) cwL_102 dL_law_597 rfl rfl rfl (Nat.le_of_ble_eq_true rfl) (Nat.le_of_ble_eq_true rfl) (Nat.le_of_ble_eq_true rfl) (fun _ _ => gNo_nil) (by simp) (fun _ h9 => absurd h9 List.not_mem_nil) (by show _ ≤ 600096; omega) (by show _ ≤ 7301386; omega) (kL_pass h.1.1 hG hm (by omega) (fun r C1 ho => (W_pass h.1 hk hG hx hm ho).2.1 _ h.2.2.2) (fun r C1 code S' ho ha => ?_))
  have hw := W_pass h.1 hk hG hx hm ho
  have hs2 := aW_S ha
  have hM1 := h.2.1.mp (hw.2.tr hs2.2)
  have hR1 := h.2.2.1.r (hw.2.tr hs2.2)
  have l8' := hM1.1
  refine gistore5 (pc' := 602) dL_law_600 rfl (Nat.le_of_ble_eq_true rfl) rfl ?_
  refine g_aload_n (pc' := 603) dL_law_602 rfl rfl ?_
  refine g_aload_raw (pc' := 604) dL_law_603 rfl rfl ?_
  refine g_iload (pc' := 606) dL_law_604 rfl rfl ?_
  refine g_iconst (pc' := 607) (v := 1) dL_law_606 rfl rfl ?_
  refine g_iadd (pc' := 608) dL_law_607 rfl ?_
  refine g_sld (pc' := 609) (n := i + 1) dL_law_608 rfl (nI_add _ 1) (by omega) (by omega) ?_
  refine gcv1 (pc' := 612) cwL_104 cf8 dL_law_609 rfl l8' (Nat.le_of_ble_eq_true rfl) (Nat.le_of_ble_eq_true rfl) (Nat.le_of_ble_eq_true rfl) (by show _ ≤ 600096; omega) (by show _ ≤ 7301386; omega) (kX8_pass hM1 hR1 hG hm ho (by omega) (fun T' v hR2 hk2 hv => ?_))
  have hWI := WI_end h hw hs2 hR2 hk2
  obtain ⟨e1, e2⟩ := aWM ha hv (by decide) hk2
  refine gistore6 (pc' := 614) dL_law_612 rfl (Nat.le_of_ble_eq_true rfl) rfl ?_
  refine g_aload_n (pc' := 615) dL_law_614 rfl rfl ?_
  refine gcv0 (pc' := 618) cwL_71 cf8 dL_law_615 rfl hWI.2.1.1 (Nat.le_of_ble_eq_true rfl) (Nat.le_of_ble_eq_true rfl) (Nat.le_of_ble_eq_true rfl) (by show _ ≤ 600096; omega) (by show _ ≤ 7301386; omega) (kX8_thrown hWI.2.1.1 ?_)
  refine g_iload (pc' := 620) dL_law_618 rfl rfl ?_
  refine g_icmp_eq dL_law_620 (tg := 625) (pc' := 623) (by decide) rfl (fun h620 => ?_) (fun h620 => absurd e1 h620)
  refine g_iload (pc' := 627) dL_law_625 rfl rfl ?_
  refine g_if_ne dL_law_627 (tg := 642) (pc' := 630) (by decide) rfl (fun h627 => ?_) (fun h627 => ?_)
  · refine g_goto dL_law_642 (pc' := 1017) (by decide) ?_
    exact g_drop (K _ _ _ (by omega) (by omega) hWI)
  · refine g_aload_n (pc' := 631) dL_law_630 rfl rfl ?_
    refine g_iconst (pc' := 632) (v := 0) dL_law_631 rfl rfl ?_
    refine g_lald (pc' := 633) (n := 0) dL_law_632 rfl (by decide) rfl rfl (by decide) hWI.2.2.2 ?_
    refine g_iload (pc' := 635) dL_law_633 rfl rfl ?_
    refine g_i2l (pc' := 636) dL_law_635 rfl ?_
    refine g_lcmp (pc' := 637) dL_law_636 rfl ?_
    refine g_if_eq dL_law_637 (tg := 642) (pc' := 640) (by decide) rfl (fun h637 => ?_) (fun h637 => absurd (by rw [e2 h627]; exact lcmp0.mpr rfl) h637)
    refine g_goto dL_law_642 (pc' := 1017) (by decide) ?_
    exact g_drop (K _ _ _ (by omega) (by omega) hWI)


set_option maxRecDepth 100000 in
set_option maxHeartbeats 2000000 in
theorem L_set {E : gE} {ad : gAd} {S : gS} {k i cs sl : Nat} (h : WI S k) (hk : k ≤ 100) (hi : i + 5 ≤ eA E 11) (hL : eA E 11 ≤ 240) (hcs : cs + 5 ≤ 600096) (hsl : sl + 26 ≤ 7301386) (K : ∀ T' cs' sl', cs' ≤ cs + 5 → sl' ≤ sl + 26 → WI T' (k + 1) → gG E mL_law (lwB ad) 1017 [some (.inl (.ref (eA E 10))), some (vR 7 0 0), some (vR 8 0 0), some (vR 16 0 0), some (vI (nI i)), none, none] [] T' cs' sl') : gG E mL_law (lwB ad) 645 [some (.inl (.ref (eA E 10))), some (vR 7 0 0), some (vR 8 0 0), some (vR 16 0 0), some (vI (nI i)), none, none] [] S cs sl := by
  have l7 : lv S 7 0 0 := h.1.1.1.1
  have l8 : lv S 8 0 0 := h.2.1.1
  refine g_aload_n (pc' := 646) dL_law_645 rfl rfl ?_
  refine g_aload_raw (pc' := 647) dL_law_646 rfl rfl ?_
  refine g_iload (pc' := 649) dL_law_647 rfl rfl ?_
  refine g_iconst (pc' := 650) (v := 1) dL_law_649 rfl rfl ?_
  refine g_iadd (pc' := 651) dL_law_650 rfl ?_
  refine g_sld (pc' := 652) (n := i + 1) dL_law_651 rfl (nI_add _ 1) (by omega) (by omega) ?_
  refine g_callW (pc' := 655) (My := mL_set) (d := 8) (mc := 1) (ms := 6) (as := [vR 7 0 0, vI (nI (eA E (100 + (i + 1))))]) (Nw := []) (rest := []) cwL_105 dL_law_652 rfl rfl rfl (Nat.le_of_ble_eq_true rfl) (Nat.le_of_ble_eq_true rfl) (Nat.le_of_ble_eq_true rfl) (fun _ _ => gNo_nil) (by simp) (fun _ h9 => absurd h9 List.not_mem_nil) (by show _ ≤ 600096; omega) (by show _ ≤ 7301386; omega) (kL_set h.1.1 (fun r C1 code S' ho ha => ?_))
  have hw := W_set h.1 ho
  have hs2 := aW0_S ha
  have hM1 := h.2.1.mp (hw.2.tr hs2.2)
  have hR1 := h.2.2.1.r (hw.2.tr hs2.2)
  have l8' := hM1.1
  refine gistore5 (pc' := 657) dL_law_655 rfl (Nat.le_of_ble_eq_true rfl) rfl ?_
  refine g_aload_n (pc' := 658) dL_law_657 rfl rfl ?_
  refine g_aload_raw (pc' := 659) dL_law_658 rfl rfl ?_
  refine g_iload (pc' := 661) dL_law_659 rfl rfl ?_
  refine g_iconst (pc' := 662) (v := 1) dL_law_661 rfl rfl ?_
  refine g_iadd (pc' := 663) dL_law_662 rfl ?_
  refine g_sld (pc' := 664) (n := i + 1) dL_law_663 rfl (nI_add _ 1) (by omega) (by omega) ?_
  refine gcv1 (pc' := 667) cwL_108 cf8 dL_law_664 rfl l8' (Nat.le_of_ble_eq_true rfl) (Nat.le_of_ble_eq_true rfl) (Nat.le_of_ble_eq_true rfl) (by show _ ≤ 600096; omega) (by show _ ≤ 7301386; omega) (kX8_set hM1 hR1 ho (fun T' hR2 hk2 hv => ?_))
  have hWI := WI_end h hw hs2 hR2 hk2
  have e1 := aWM0 ha hv (by decide)
  refine g_aload_n (pc' := 668) dL_law_667 rfl rfl ?_
  refine gcv0 (pc' := 671) cwL_71 cf8 dL_law_668 rfl hWI.2.1.1 (Nat.le_of_ble_eq_true rfl) (Nat.le_of_ble_eq_true rfl) (Nat.le_of_ble_eq_true rfl) (by show _ ≤ 600096; omega) (by show _ ≤ 7301386; omega) (kX8_thrown hWI.2.1.1 ?_)
  refine g_iload (pc' := 673) dL_law_671 rfl rfl ?_
  refine g_icmp_eq dL_law_673 (tg := 678) (pc' := 676) (by decide) rfl (fun h673 => ?_) (fun h673 => absurd e1 h673)
  refine g_goto dL_law_678 (pc' := 1017) (by decide) ?_
  exact g_drop (K _ _ _ (by omega) (by omega) hWI)


set_option maxRecDepth 100000 in
set_option maxHeartbeats 2000000 in
theorem L_end {E : gE} {ad : gAd} {S : gS} {k i cs sl : Nat} (h : WI S k) (hk : k ≤ 100) (hi : i + 5 ≤ eA E 11) (hL : eA E 11 ≤ 240) (hcs : cs + 5 ≤ 600096) (hsl : sl + 26 ≤ 7301386) (K : ∀ T' cs' sl', cs' ≤ cs + 5 → sl' ≤ sl + 26 → WI T' (k + 1) → gG E mL_law (lwB ad) 1017 [some (.inl (.ref (eA E 10))), some (vR 7 0 0), some (vR 8 0 0), some (vR 16 0 0), some (vI (nI i)), none, none] [] T' cs' sl') : gG E mL_law (lwB ad) 681 [some (.inl (.ref (eA E 10))), some (vR 7 0 0), some (vR 8 0 0), some (vR 16 0 0), some (vI (nI i)), none, none] [] S cs sl := by
  have l7 : lv S 7 0 0 := h.1.1.1.1
  have l8 : lv S 8 0 0 := h.2.1.1
  obtain ⟨m, x, hG, hm, hx, b, hb, hbm⟩ := id h.1.2.2.2.1
  rcases Decidable.em ((nI (eA E (100 + (i + 3)))) = 0) with hz | hz
  · refine g_aload_n (pc' := 682) dL_law_681 rfl rfl ?_
    refine g_aload_raw (pc' := 683) dL_law_682 rfl rfl ?_
    refine g_iload (pc' := 685) dL_law_683 rfl rfl ?_
    refine g_iconst (pc' := 686) (v := 1) dL_law_685 rfl rfl ?_
    refine g_iadd (pc' := 687) dL_law_686 rfl ?_
    refine g_sld (pc' := 688) (n := i + 1) dL_law_687 rfl (nI_add _ 1) (by omega) (by omega) ?_
    refine g_aload_raw (pc' := 689) dL_law_688 rfl rfl ?_
    refine g_iload (pc' := 691) dL_law_689 rfl rfl ?_
    refine g_iconst (pc' := 692) (v := 2) dL_law_691 rfl rfl ?_
    refine g_iadd (pc' := 693) dL_law_692 rfl ?_
    refine g_sld (pc' := 694) (n := i + 2) dL_law_693 rfl (nI_add _ 2) (by omega) (by omega) ?_
    refine g_aload_raw (pc' := 695) dL_law_694 rfl rfl ?_
    refine g_iload (pc' := 697) dL_law_695 rfl rfl ?_
    refine g_iconst (pc' := 698) (v := 3) dL_law_697 rfl rfl ?_
    refine g_iadd (pc' := 699) dL_law_698 rfl ?_
    refine g_sld (pc' := 700) (n := i + 3) dL_law_699 rfl (nI_add _ 3) (by omega) (by omega) ?_
    refine g_if_eq dL_law_700 (tg := 707) (pc' := 703) (by decide) rfl (fun h700 => ?_) (fun h700 => absurd hz h700)
    refine g_iconst (pc' := 708) (v := 0) dL_law_707 rfl rfl ?_
    refine g_aload_n (pc' := 709) dL_law_708 rfl rfl ?_
    refine g_callW (pc' := 712) (My := mL_end) (d := 8) (mc := 1) (ms := 6) (as := [vR 7 0 0, vI (nI (eA E (100 + (i + 1)))), vI (nI (eA E (100 + (i + 2)))), vI 0, vR 16 0 0]) (Nw := []) (rest := []) cwL_109 dL_law_709 rfl rfl rfl (Nat.le_of_ble_eq_true rfl) (Nat.le_of_ble_eq_true rfl) (Nat.le_of_ble_eq_true rfl) (fun _ _ => gNo_nil) (by simp) (fun _ h9 => absurd h9 List.not_mem_nil) (by show _ ≤ 600096; omega) (by show _ ≤ 7301386; omega) (kL_end h.1.1 hG.2.2.2.2.2 (by omega) (fun r C1 ho => (W_end h.1 hk ho).2.1 _ h.2.2.2) (fun r C1 code S' ho ha => ?_))
    have hw := W_end h.1 hk ho
    have hs2 := aW_S ha
    have hM1 := h.2.1.mp (hw.2.tr hs2.2)
    have hR1 := h.2.2.1.r (hw.2.tr hs2.2)
    have l8' := hM1.1
    refine gistore5 (pc' := 714) dL_law_712 rfl (Nat.le_of_ble_eq_true rfl) rfl ?_
    refine g_aload_n (pc' := 715) dL_law_714 rfl rfl ?_
    refine g_aload_raw (pc' := 716) dL_law_715 rfl rfl ?_
    refine g_iload (pc' := 718) dL_law_716 rfl rfl ?_
    refine g_iconst (pc' := 719) (v := 1) dL_law_718 rfl rfl ?_
    refine g_iadd (pc' := 720) dL_law_719 rfl ?_
    refine g_sld (pc' := 721) (n := i + 1) dL_law_720 rfl (nI_add _ 1) (by omega) (by omega) ?_
    refine g_aload_raw (pc' := 722) dL_law_721 rfl rfl ?_
    refine g_iload (pc' := 724) dL_law_722 rfl rfl ?_
    refine g_iconst (pc' := 725) (v := 2) dL_law_724 rfl rfl ?_
    refine g_iadd (pc' := 726) dL_law_725 rfl ?_
    refine g_sld (pc' := 727) (n := i + 2) dL_law_726 rfl (nI_add _ 2) (by omega) (by omega) ?_
    refine g_aload_raw (pc' := 728) dL_law_727 rfl rfl ?_
    refine g_iload (pc' := 730) dL_law_728 rfl rfl ?_
    refine g_iconst (pc' := 731) (v := 3) dL_law_730 rfl rfl ?_
    refine g_iadd (pc' := 732) dL_law_731 rfl ?_
    refine g_sld (pc' := 733) (n := i + 3) dL_law_732 rfl (nI_add _ 3) (by omega) (by omega) ?_
    refine g_if_eq dL_law_733 (tg := 740) (pc' := 736) (by decide) rfl (fun h733 => ?_) (fun h733 => absurd hz h733)
    refine g_iconst (pc' := 741) (v := 0) dL_law_740 rfl rfl ?_
    refine gcv3 (pc' := 744) cwL_112 cf8 dL_law_741 rfl l8' (Nat.le_of_ble_eq_true rfl) (Nat.le_of_ble_eq_true rfl) (Nat.le_of_ble_eq_true rfl) (by show _ ≤ 600096; omega) (by show _ ≤ 7301386; omega) (kX8_end hM1 hR1 h.1.1 ho (by rw [tl_x hG.2.2.2.2.2 (by omega)]; omega) (fun T' v hR2 hk2 hv => ?_))
    have hWI := WI_end h hw hs2 hR2 hk2
    obtain ⟨e1, e2⟩ := aWM ha hv (by decide) hk2
    refine gistore6 (pc' := 746) dL_law_744 rfl (Nat.le_of_ble_eq_true rfl) rfl ?_
    refine g_aload_n (pc' := 747) dL_law_746 rfl rfl ?_
    refine gcv0 (pc' := 750) cwL_71 cf8 dL_law_747 rfl hWI.2.1.1 (Nat.le_of_ble_eq_true rfl) (Nat.le_of_ble_eq_true rfl) (Nat.le_of_ble_eq_true rfl) (by show _ ≤ 600096; omega) (by show _ ≤ 7301386; omega) (kX8_thrown hWI.2.1.1 ?_)
    refine g_iload (pc' := 752) dL_law_750 rfl rfl ?_
    refine g_icmp_eq dL_law_752 (tg := 757) (pc' := 755) (by decide) rfl (fun h752 => ?_) (fun h752 => absurd e1 h752)
    refine g_iload (pc' := 759) dL_law_757 rfl rfl ?_
    refine g_if_ne dL_law_759 (tg := 774) (pc' := 762) (by decide) rfl (fun h759 => ?_) (fun h759 => ?_)
    · refine g_goto dL_law_774 (pc' := 1017) (by decide) ?_
      exact g_drop (K _ _ _ (by omega) (by omega) hWI)
    · refine g_aload_n (pc' := 763) dL_law_762 rfl rfl ?_
      refine g_iconst (pc' := 764) (v := 0) dL_law_763 rfl rfl ?_
      refine g_lald (pc' := 765) (n := 0) dL_law_764 rfl (by decide) rfl rfl (by decide) hWI.2.2.2 ?_
      refine g_iload (pc' := 767) dL_law_765 rfl rfl ?_
      refine g_i2l (pc' := 768) dL_law_767 rfl ?_
      refine g_lcmp (pc' := 769) dL_law_768 rfl ?_
      refine g_if_eq dL_law_769 (tg := 774) (pc' := 772) (by decide) rfl (fun h769 => ?_) (fun h769 => absurd (by rw [e2 h759]; exact lcmp0.mpr rfl) h769)
      refine g_goto dL_law_774 (pc' := 1017) (by decide) ?_
      exact g_drop (K _ _ _ (by omega) (by omega) hWI)
  · refine g_aload_n (pc' := 682) dL_law_681 rfl rfl ?_
    refine g_aload_raw (pc' := 683) dL_law_682 rfl rfl ?_
    refine g_iload (pc' := 685) dL_law_683 rfl rfl ?_
    refine g_iconst (pc' := 686) (v := 1) dL_law_685 rfl rfl ?_
    refine g_iadd (pc' := 687) dL_law_686 rfl ?_
    refine g_sld (pc' := 688) (n := i + 1) dL_law_687 rfl (nI_add _ 1) (by omega) (by omega) ?_
    refine g_aload_raw (pc' := 689) dL_law_688 rfl rfl ?_
    refine g_iload (pc' := 691) dL_law_689 rfl rfl ?_
    refine g_iconst (pc' := 692) (v := 2) dL_law_691 rfl rfl ?_
    refine g_iadd (pc' := 693) dL_law_692 rfl ?_
    refine g_sld (pc' := 694) (n := i + 2) dL_law_693 rfl (nI_add _ 2) (by omega) (by omega) ?_
    refine g_aload_raw (pc' := 695) dL_law_694 rfl rfl ?_
    refine g_iload (pc' := 697) dL_law_695 rfl rfl ?_
    refine g_iconst (pc' := 698) (v := 3) dL_law_697 rfl rfl ?_
    refine g_iadd (pc' := 699) dL_law_698 rfl ?_
    refine g_sld (pc' := 700) (n := i + 3) dL_law_699 rfl (nI_add _ 3) (by omega) (by omega) ?_
    refine g_if_eq dL_law_700 (tg := 707) (pc' := 703) (by decide) rfl (fun h700 => absurd h700 hz) (fun h700 => ?_)
    refine g_iconst (pc' := 704) (v := 1) dL_law_703 rfl rfl ?_
    refine g_goto dL_law_704 (pc' := 708) (by decide) ?_
    refine g_aload_n (pc' := 709) dL_law_708 rfl rfl ?_
    refine g_callW (pc' := 712) (My := mL_end) (d := 8) (mc := 1) (ms := 6) (as := [vR 7 0 0, vI (nI (eA E (100 + (i + 1)))), vI (nI (eA E (100 + (i + 2)))), vI 1, vR 16 0 0]) (Nw := []) (rest := []) cwL_109 dL_law_709 rfl rfl rfl (Nat.le_of_ble_eq_true rfl) (Nat.le_of_ble_eq_true rfl) (Nat.le_of_ble_eq_true rfl) (fun _ _ => gNo_nil) (by simp) (fun _ h9 => absurd h9 List.not_mem_nil) (by show _ ≤ 600096; omega) (by show _ ≤ 7301386; omega) (kL_end h.1.1 hG.2.2.2.2.2 (by omega) (fun r C1 ho => (W_end h.1 hk ho).2.1 _ h.2.2.2) (fun r C1 code S' ho ha => ?_))
    have hw := W_end h.1 hk ho
    have hs2 := aW_S ha
    have hM1 := h.2.1.mp (hw.2.tr hs2.2)
    have hR1 := h.2.2.1.r (hw.2.tr hs2.2)
    have l8' := hM1.1
    refine gistore5 (pc' := 714) dL_law_712 rfl (Nat.le_of_ble_eq_true rfl) rfl ?_
    refine g_aload_n (pc' := 715) dL_law_714 rfl rfl ?_
    refine g_aload_raw (pc' := 716) dL_law_715 rfl rfl ?_
    refine g_iload (pc' := 718) dL_law_716 rfl rfl ?_
    refine g_iconst (pc' := 719) (v := 1) dL_law_718 rfl rfl ?_
    refine g_iadd (pc' := 720) dL_law_719 rfl ?_
    refine g_sld (pc' := 721) (n := i + 1) dL_law_720 rfl (nI_add _ 1) (by omega) (by omega) ?_
    refine g_aload_raw (pc' := 722) dL_law_721 rfl rfl ?_
    refine g_iload (pc' := 724) dL_law_722 rfl rfl ?_
    refine g_iconst (pc' := 725) (v := 2) dL_law_724 rfl rfl ?_
    refine g_iadd (pc' := 726) dL_law_725 rfl ?_
    refine g_sld (pc' := 727) (n := i + 2) dL_law_726 rfl (nI_add _ 2) (by omega) (by omega) ?_
    refine g_aload_raw (pc' := 728) dL_law_727 rfl rfl ?_
    refine g_iload (pc' := 730) dL_law_728 rfl rfl ?_
    refine g_iconst (pc' := 731) (v := 3) dL_law_730 rfl rfl ?_
    refine g_iadd (pc' := 732) dL_law_731 rfl ?_
    refine g_sld (pc' := 733) (n := i + 3) dL_law_732 rfl (nI_add _ 3) (by omega) (by omega) ?_
    refine g_if_eq dL_law_733 (tg := 740) (pc' := 736) (by decide) rfl (fun h733 => absurd h733 hz) (fun h733 => ?_)
    refine g_iconst (pc' := 737) (v := 1) dL_law_736 rfl rfl ?_
    refine g_goto dL_law_737 (pc' := 741) (by decide) ?_
    refine gcv3 (pc' := 744) cwL_112 cf8 dL_law_741 rfl l8' (Nat.le_of_ble_eq_true rfl) (Nat.le_of_ble_eq_true rfl) (Nat.le_of_ble_eq_true rfl) (by show _ ≤ 600096; omega) (by show _ ≤ 7301386; omega) (kX8_end hM1 hR1 h.1.1 ho (by rw [tl_x hG.2.2.2.2.2 (by omega)]; omega) (fun T' v hR2 hk2 hv => ?_))
    have hWI := WI_end h hw hs2 hR2 hk2
    obtain ⟨e1, e2⟩ := aWM ha hv (by decide) hk2
    refine gistore6 (pc' := 746) dL_law_744 rfl (Nat.le_of_ble_eq_true rfl) rfl ?_
    refine g_aload_n (pc' := 747) dL_law_746 rfl rfl ?_
    refine gcv0 (pc' := 750) cwL_71 cf8 dL_law_747 rfl hWI.2.1.1 (Nat.le_of_ble_eq_true rfl) (Nat.le_of_ble_eq_true rfl) (Nat.le_of_ble_eq_true rfl) (by show _ ≤ 600096; omega) (by show _ ≤ 7301386; omega) (kX8_thrown hWI.2.1.1 ?_)
    refine g_iload (pc' := 752) dL_law_750 rfl rfl ?_
    refine g_icmp_eq dL_law_752 (tg := 757) (pc' := 755) (by decide) rfl (fun h752 => ?_) (fun h752 => absurd e1 h752)
    refine g_iload (pc' := 759) dL_law_757 rfl rfl ?_
    refine g_if_ne dL_law_759 (tg := 774) (pc' := 762) (by decide) rfl (fun h759 => ?_) (fun h759 => ?_)
    · refine g_goto dL_law_774 (pc' := 1017) (by decide) ?_
      exact g_drop (K _ _ _ (by omega) (by omega) hWI)
    · refine g_aload_n (pc' := 763) dL_law_762 rfl rfl ?_
      refine g_iconst (pc' := 764) (v := 0) dL_law_763 rfl rfl ?_
      refine g_lald (pc' := 765) (n := 0) dL_law_764 rfl (by decide) rfl rfl (by decide) hWI.2.2.2 ?_
      refine g_iload (pc' := 767) dL_law_765 rfl rfl ?_
      refine g_i2l (pc' := 768) dL_law_767 rfl ?_
      refine g_lcmp (pc' := 769) dL_law_768 rfl ?_
      refine g_if_eq dL_law_769 (tg := 774) (pc' := 772) (by decide) rfl (fun h769 => ?_) (fun h769 => absurd (by rw [e2 h759]; exact lcmp0.mpr rfl) h769)
      refine g_goto dL_law_774 (pc' := 1017) (by decide) ?_
      exact g_drop (K _ _ _ (by omega) (by omega) hWI)

set_option maxRecDepth 100000 in
set_option maxHeartbeats 2000000 in
theorem L_down {E : gE} {ad : gAd} {S : gS} {k i cs sl : Nat} (h : WI S k) (hk : k ≤ 100) (hi : i + 5 ≤ eA E 11) (hL : eA E 11 ≤ 240) (hcs : cs + 5 ≤ 600096) (hsl : sl + 26 ≤ 7301386) (K : ∀ T' cs' sl', cs' ≤ cs + 5 → sl' ≤ sl + 26 → WI T' (k + 1) → gG E mL_law (lwB ad) 1017 [some (.inl (.ref (eA E 10))), some (vR 7 0 0), some (vR 8 0 0), some (vR 16 0 0), some (vI (nI i)), none, none] [] T' cs' sl') : gG E mL_law (lwB ad) 777 [some (.inl (.ref (eA E 10))), some (vR 7 0 0), some (vR 8 0 0), some (vR 16 0 0), some (vI (nI i)), none, none] [] S cs sl := by
  have l7 : lv S 7 0 0 := h.1.1.1.1
  have l8 : lv S 8 0 0 := h.2.1.1
  obtain ⟨m, x, hG, hm, hx, b, hb, hbm⟩ := id h.1.2.2.2.1
  rcases Decidable.em ((nI (eA E (100 + (i + 1)))) = 0) with hz | hz
  · refine g_aload_n (pc' := 778) dL_law_777 rfl rfl ?_
    refine g_aload_raw (pc' := 779) dL_law_778 rfl rfl ?_
    refine g_iload (pc' := 781) dL_law_779 rfl rfl ?_
    refine g_iconst (pc' := 782) (v := 1) dL_law_781 rfl rfl ?_
    refine g_iadd (pc' := 783) dL_law_782 rfl ?_
    refine g_sld (pc' := 784) (n := i + 1) dL_law_783 rfl (nI_add _ 1) (by omega) (by omega) ?_
    refine g_if_eq dL_law_784 (tg := 791) (pc' := 787) (by decide) rfl (fun h784 => ?_) (fun h784 => absurd hz h784)
    refine g_iconst (pc' := 792) (v := 0) dL_law_791 rfl rfl ?_
    refine g_aload_n (pc' := 793) dL_law_792 rfl rfl ?_
    refine g_callW (pc' := 796) (My := mL_down) (d := 8) (mc := 1) (ms := 6) (as := [vR 7 0 0, vI 0, vR 16 0 0]) (Nw := []) (rest := []) cwL_113 dL_law_793 rfl rfl rfl (Nat.le_of_ble_eq_true rfl) (Nat.le_of_ble_eq_true rfl) (Nat.le_of_ble_eq_true rfl) (fun _ _ => gNo_nil) (by simp) (fun _ h9 => absurd h9 List.not_mem_nil) (by show _ ≤ 600096; omega) (by show _ ≤ 7301386; omega) (kL_down h.1.1 hG (by decide) hb hbm hm (by omega) (fun r C1 ho => (W_down h.1 hk hG hx hm (by decide) hb hbm ho).2.1 _ h.2.2.2) (fun r C1 code S' ho ha => ?_))
    have hw := W_down h.1 hk hG hx hm (by decide) hb hbm ho
    have hs2 := aW_S ha
    have hM1 := h.2.1.mp (hw.2.tr hs2.2)
    have hR1 := h.2.2.1.r (hw.2.tr hs2.2)
    have l8' := hM1.1
    refine gistore5 (pc' := 798) dL_law_796 rfl (Nat.le_of_ble_eq_true rfl) rfl ?_
    refine g_aload_n (pc' := 799) dL_law_798 rfl rfl ?_
    refine g_aload_raw (pc' := 800) dL_law_799 rfl rfl ?_
    refine g_iload (pc' := 802) dL_law_800 rfl rfl ?_
    refine g_iconst (pc' := 803) (v := 1) dL_law_802 rfl rfl ?_
    refine g_iadd (pc' := 804) dL_law_803 rfl ?_
    refine g_sld (pc' := 805) (n := i + 1) dL_law_804 rfl (nI_add _ 1) (by omega) (by omega) ?_
    refine g_if_eq dL_law_805 (tg := 812) (pc' := 808) (by decide) rfl (fun h805 => ?_) (fun h805 => absurd hz h805)
    refine g_iconst (pc' := 813) (v := 0) dL_law_812 rfl rfl ?_
    refine gcv1 (pc' := 816) cwL_116 cf8 dL_law_813 rfl l8' (Nat.le_of_ble_eq_true rfl) (Nat.le_of_ble_eq_true rfl) (Nat.le_of_ble_eq_true rfl) (by show _ ≤ 600096; omega) (by show _ ≤ 7301386; omega) (kX8_down hM1 hR1 hG (by decide) hb hbm hm ho (by rw [tl_x hG.2.2.2.2.2 (by omega)]; omega) (fun T' v hR2 hk2 hv => ?_))
    have hWI := WI_end h hw hs2 hR2 hk2
    obtain ⟨e1, e2⟩ := aWM ha hv (by decide) hk2
    refine gistore6 (pc' := 818) dL_law_816 rfl (Nat.le_of_ble_eq_true rfl) rfl ?_
    refine g_aload_n (pc' := 819) dL_law_818 rfl rfl ?_
    refine gcv0 (pc' := 822) cwL_71 cf8 dL_law_819 rfl hWI.2.1.1 (Nat.le_of_ble_eq_true rfl) (Nat.le_of_ble_eq_true rfl) (Nat.le_of_ble_eq_true rfl) (by show _ ≤ 600096; omega) (by show _ ≤ 7301386; omega) (kX8_thrown hWI.2.1.1 ?_)
    refine g_iload (pc' := 824) dL_law_822 rfl rfl ?_
    refine g_icmp_eq dL_law_824 (tg := 829) (pc' := 827) (by decide) rfl (fun h824 => ?_) (fun h824 => absurd e1 h824)
    refine g_iload (pc' := 831) dL_law_829 rfl rfl ?_
    refine g_if_ne dL_law_831 (tg := 846) (pc' := 834) (by decide) rfl (fun h831 => ?_) (fun h831 => ?_)
    · refine g_goto dL_law_846 (pc' := 1017) (by decide) ?_
      exact g_drop (K _ _ _ (by omega) (by omega) hWI)
    · refine g_aload_n (pc' := 835) dL_law_834 rfl rfl ?_
      refine g_iconst (pc' := 836) (v := 0) dL_law_835 rfl rfl ?_
      refine g_lald (pc' := 837) (n := 0) dL_law_836 rfl (by decide) rfl rfl (by decide) hWI.2.2.2 ?_
      refine g_iload (pc' := 839) dL_law_837 rfl rfl ?_
      refine g_i2l (pc' := 840) dL_law_839 rfl ?_
      refine g_lcmp (pc' := 841) dL_law_840 rfl ?_
      refine g_if_eq dL_law_841 (tg := 846) (pc' := 844) (by decide) rfl (fun h841 => ?_) (fun h841 => absurd (by rw [e2 h831]; exact lcmp0.mpr rfl) h841)
      refine g_goto dL_law_846 (pc' := 1017) (by decide) ?_
      exact g_drop (K _ _ _ (by omega) (by omega) hWI)
  · refine g_aload_n (pc' := 778) dL_law_777 rfl rfl ?_
    refine g_aload_raw (pc' := 779) dL_law_778 rfl rfl ?_
    refine g_iload (pc' := 781) dL_law_779 rfl rfl ?_
    refine g_iconst (pc' := 782) (v := 1) dL_law_781 rfl rfl ?_
    refine g_iadd (pc' := 783) dL_law_782 rfl ?_
    refine g_sld (pc' := 784) (n := i + 1) dL_law_783 rfl (nI_add _ 1) (by omega) (by omega) ?_
    refine g_if_eq dL_law_784 (tg := 791) (pc' := 787) (by decide) rfl (fun h784 => absurd h784 hz) (fun h784 => ?_)
    refine g_iconst (pc' := 788) (v := 1) dL_law_787 rfl rfl ?_
    refine g_goto dL_law_788 (pc' := 792) (by decide) ?_
    refine g_aload_n (pc' := 793) dL_law_792 rfl rfl ?_
    refine g_callW (pc' := 796) (My := mL_down) (d := 8) (mc := 1) (ms := 6) (as := [vR 7 0 0, vI 1, vR 16 0 0]) (Nw := []) (rest := []) cwL_113 dL_law_793 rfl rfl rfl (Nat.le_of_ble_eq_true rfl) (Nat.le_of_ble_eq_true rfl) (Nat.le_of_ble_eq_true rfl) (fun _ _ => gNo_nil) (by simp) (fun _ h9 => absurd h9 List.not_mem_nil) (by show _ ≤ 600096; omega) (by show _ ≤ 7301386; omega) (kL_down h.1.1 hG (by decide) hb hbm hm (by omega) (fun r C1 ho => (W_down h.1 hk hG hx hm (by decide) hb hbm ho).2.1 _ h.2.2.2) (fun r C1 code S' ho ha => ?_))
    have hw := W_down h.1 hk hG hx hm (by decide) hb hbm ho
    have hs2 := aW_S ha
    have hM1 := h.2.1.mp (hw.2.tr hs2.2)
    have hR1 := h.2.2.1.r (hw.2.tr hs2.2)
    have l8' := hM1.1
    refine gistore5 (pc' := 798) dL_law_796 rfl (Nat.le_of_ble_eq_true rfl) rfl ?_
    refine g_aload_n (pc' := 799) dL_law_798 rfl rfl ?_
    refine g_aload_raw (pc' := 800) dL_law_799 rfl rfl ?_
    refine g_iload (pc' := 802) dL_law_800 rfl rfl ?_
    refine g_iconst (pc' := 803) (v := 1) dL_law_802 rfl rfl ?_
    refine g_iadd (pc' := 804) dL_law_803 rfl ?_
    refine g_sld (pc' := 805) (n := i + 1) dL_law_804 rfl (nI_add _ 1) (by omega) (by omega) ?_
    refine g_if_eq dL_law_805 (tg := 812) (pc' := 808) (by decide) rfl (fun h805 => absurd h805 hz) (fun h805 => ?_)
    refine g_iconst (pc' := 809) (v := 1) dL_law_808 rfl rfl ?_
    refine g_goto dL_law_809 (pc' := 813) (by decide) ?_
    refine gcv1 (pc' := 816) cwL_116 cf8 dL_law_813 rfl l8' (Nat.le_of_ble_eq_true rfl) (Nat.le_of_ble_eq_true rfl) (Nat.le_of_ble_eq_true rfl) (by show _ ≤ 600096; omega) (by show _ ≤ 7301386; omega) (kX8_down hM1 hR1 hG (by decide) hb hbm hm ho (by rw [tl_x hG.2.2.2.2.2 (by omega)]; omega) (fun T' v hR2 hk2 hv => ?_))
    have hWI := WI_end h hw hs2 hR2 hk2
    obtain ⟨e1, e2⟩ := aWM ha hv (by decide) hk2
    refine gistore6 (pc' := 818) dL_law_816 rfl (Nat.le_of_ble_eq_true rfl) rfl ?_
    refine g_aload_n (pc' := 819) dL_law_818 rfl rfl ?_
    refine gcv0 (pc' := 822) cwL_71 cf8 dL_law_819 rfl hWI.2.1.1 (Nat.le_of_ble_eq_true rfl) (Nat.le_of_ble_eq_true rfl) (Nat.le_of_ble_eq_true rfl) (by show _ ≤ 600096; omega) (by show _ ≤ 7301386; omega) (kX8_thrown hWI.2.1.1 ?_)
    refine g_iload (pc' := 824) dL_law_822 rfl rfl ?_
    refine g_icmp_eq dL_law_824 (tg := 829) (pc' := 827) (by decide) rfl (fun h824 => ?_) (fun h824 => absurd e1 h824)
    refine g_iload (pc' := 831) dL_law_829 rfl rfl ?_
    refine g_if_ne dL_law_831 (tg := 846) (pc' := 834) (by decide) rfl (fun h831 => ?_) (fun h831 => ?_)
    · refine g_goto dL_law_846 (pc' := 1017) (by decide) ?_
      exact g_drop (K _ _ _ (by omega) (by omega) hWI)
    · refine g_aload_n (pc' := 835) dL_law_834 rfl rfl ?_
      refine g_iconst (pc' := 836) (v := 0) dL_law_835 rfl rfl ?_
      refine g_lald (pc' := 837) (n := 0) dL_law_836 rfl (by decide) rfl rfl (by decide) hWI.2.2.2 ?_
      refine g_iload (pc' := 839) dL_law_837 rfl rfl ?_
      refine g_i2l (pc' := 840) dL_law_839 rfl ?_
      refine g_lcmp (pc' := 841) dL_law_840 rfl ?_
      refine g_if_eq dL_law_841 (tg := 846) (pc' := 844) (by decide) rfl (fun h841 => ?_) (fun h841 => absurd (by rw [e2 h831]; exact lcmp0.mpr rfl) h841)
      refine g_goto dL_law_846 (pc' := 1017) (by decide) ?_
      exact g_drop (K _ _ _ (by omega) (by omega) hWI)

set_option maxRecDepth 100000 in
set_option maxHeartbeats 2000000 in
theorem L_entry {E : gE} {ad : gAd} {S : gS} {k i cs sl : Nat} (h : WI S k) (hk : k ≤ 100) (hi : i + 5 ≤ eA E 11) (hL : eA E 11 ≤ 240) (hcs : cs + 5 ≤ 600096) (hsl : sl + 26 ≤ 7301386) (K : ∀ T' cs' sl', cs' ≤ cs + 5 → sl' ≤ sl + 26 → WI T' (k + 1) → gG E mL_law (lwB ad) 1017 [some (.inl (.ref (eA E 10))), some (vR 7 0 0), some (vR 8 0 0), some (vR 16 0 0), some (vI (nI i)), none, none] [] T' cs' sl') : gG E mL_law (lwB ad) 949 [some (.inl (.ref (eA E 10))), some (vR 7 0 0), some (vR 8 0 0), some (vR 16 0 0), some (vI (nI i)), none, none] [] S cs sl := by
  have l7 : lv S 7 0 0 := h.1.1.1.1
  have l8 : lv S 8 0 0 := h.2.1.1
  obtain ⟨m, x, hG, hm, hx, b, hb, hbm⟩ := id h.1.2.2.2.1
  refine g_aload_n (pc' := 950) dL_law_949 rfl rfl ?_
  refine g_aload_raw (pc' := 951) dL_law_950 rfl rfl ?_
  refine g_iload (pc' := 953) dL_law_951 rfl rfl ?_
  refine g_iconst (pc' := 954) (v := 1) dL_law_953 rfl rfl ?_
  refine g_iadd (pc' := 955) dL_law_954 rfl ?_
  refine g_sld (pc' := 956) (n := i + 1) dL_law_955 rfl (nI_add _ 1) (by omega) (by omega) ?_
  refine g_aload_raw (pc' := 957) dL_law_956 rfl rfl ?_
  refine g_iload (pc' := 959) dL_law_957 rfl rfl ?_
  refine g_iconst (pc' := 960) (v := 2) dL_law_959 rfl rfl ?_
  refine g_iadd (pc' := 961) dL_law_960 rfl ?_
  refine g_sld (pc' := 962) (n := i + 2) dL_law_961 rfl (nI_add _ 2) (by omega) (by omega) ?_
  refine g_aload_n (pc' := 963) dL_law_962 rfl rfl ?_
  refine g_callW (pc' := 966) (My := mL_entry) (d := 8) (mc := 1) (ms := 6) (as := [vR 7 0 0, vI (nI (eA E (100 + (i + 1)))), vI (nI (eA E (100 + (i + 2)))), vR 16 0 0]) (Nw := []) (rest := []) cwL_133 dL_law_963 rfl rfl rfl (Nat.le_of_ble_eq_true rfl) (Nat.le_of_ble_eq_true rfl) (Nat.le_of_ble_eq_true rfl) (fun _ _ => gNo_nil) (by simp) (fun _ h9 => absurd h9 List.not_mem_nil) (by show _ ≤ 600096; omega) (by show _ ≤ 7301386; omega) (kL_entry h.1.1 hG.2.2.2.2.2 (by omega) (fun r C1 ho => (W_entry h.1 ho).2.1 _ h.2.2.2) (fun r C1 code S' ho ha => ?_))
  have hw := W_entry h.1 ho
  have hs2 := aW_S ha
  have hM1 := h.2.1.mp (hw.2.tr hs2.2)
  have hR1 := h.2.2.1.r (hw.2.tr hs2.2)
  have l8' := hM1.1
  refine gistore5 (pc' := 968) dL_law_966 rfl (Nat.le_of_ble_eq_true rfl) rfl ?_
  refine g_aload_n (pc' := 969) dL_law_968 rfl rfl ?_
  refine g_aload_raw (pc' := 970) dL_law_969 rfl rfl ?_
  refine g_iload (pc' := 972) dL_law_970 rfl rfl ?_
  refine g_iconst (pc' := 973) (v := 1) dL_law_972 rfl rfl ?_
  refine g_iadd (pc' := 974) dL_law_973 rfl ?_
  refine g_sld (pc' := 975) (n := i + 1) dL_law_974 rfl (nI_add _ 1) (by omega) (by omega) ?_
  refine g_aload_raw (pc' := 976) dL_law_975 rfl rfl ?_
  refine g_iload (pc' := 978) dL_law_976 rfl rfl ?_
  refine g_iconst (pc' := 979) (v := 2) dL_law_978 rfl rfl ?_
  refine g_iadd (pc' := 980) dL_law_979 rfl ?_
  refine g_sld (pc' := 981) (n := i + 2) dL_law_980 rfl (nI_add _ 2) (by omega) (by omega) ?_
  refine gcv2 (pc' := 984) cwL_135 cf8 dL_law_981 rfl l8' (Nat.le_of_ble_eq_true rfl) (Nat.le_of_ble_eq_true rfl) (Nat.le_of_ble_eq_true rfl) (by show _ ≤ 600096; omega) (by show _ ≤ 7301386; omega) (kX8_entry hM1 hR1 (oEntry_tl ho) (by rw [tl_x hG.2.2.2.2.2 (by omega)]; omega) (fun T' v hR2 hk2 hv => ?_))
  have hWI := WI_end h hw hs2 hR2 hk2
  obtain ⟨e1, e2⟩ := aWM ha hv (by decide) hk2
  refine gistore6 (pc' := 986) dL_law_984 rfl (Nat.le_of_ble_eq_true rfl) rfl ?_
  refine g_aload_n (pc' := 987) dL_law_986 rfl rfl ?_
  refine gcv0 (pc' := 990) cwL_71 cf8 dL_law_987 rfl hWI.2.1.1 (Nat.le_of_ble_eq_true rfl) (Nat.le_of_ble_eq_true rfl) (Nat.le_of_ble_eq_true rfl) (by show _ ≤ 600096; omega) (by show _ ≤ 7301386; omega) (kX8_thrown hWI.2.1.1 ?_)
  refine g_iload (pc' := 992) dL_law_990 rfl rfl ?_
  refine g_icmp_eq dL_law_992 (tg := 997) (pc' := 995) (by decide) rfl (fun h992 => ?_) (fun h992 => absurd e1 h992)
  refine g_iload (pc' := 999) dL_law_997 rfl rfl ?_
  refine g_if_ne dL_law_999 (tg := 1014) (pc' := 1002) (by decide) rfl (fun h999 => ?_) (fun h999 => ?_)
  · refine g_goto dL_law_1014 (pc' := 1017) (by decide) ?_
    exact g_drop (K _ _ _ (by omega) (by omega) hWI)
  · refine g_aload_n (pc' := 1003) dL_law_1002 rfl rfl ?_
    refine g_iconst (pc' := 1004) (v := 0) dL_law_1003 rfl rfl ?_
    refine g_lald (pc' := 1005) (n := 0) dL_law_1004 rfl (by decide) rfl rfl (by decide) hWI.2.2.2 ?_
    refine g_iload (pc' := 1007) dL_law_1005 rfl rfl ?_
    refine g_i2l (pc' := 1008) dL_law_1007 rfl ?_
    refine g_lcmp (pc' := 1009) dL_law_1008 rfl ?_
    refine g_if_eq dL_law_1009 (tg := 1014) (pc' := 1012) (by decide) rfl (fun h1009 => ?_) (fun h1009 => absurd (by rw [e2 h999]; exact lcmp0.mpr rfl) h1009)
    refine g_goto dL_law_1014 (pc' := 1017) (by decide) ?_
    exact g_drop (K _ _ _ (by omega) (by omega) hWI)

