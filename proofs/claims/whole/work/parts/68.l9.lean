/-! THE LAW (9): its start -/
def s0 : gS := (fun _ _ _ => 0, fun _ _ _ => none, fun _ _ _ => 0, fun _ _ _ => 0, fun _ _ _ => none, [])
def s1 : gS := tDk0 (snew s0 7 0 0)
def s2 : gS := m35S (snew s1 8 0 0)
def s3 : gS := snew s2 16 0 0
theorem tDk0_L (S : gS) : gL (tDk0 S) = gL S ++ [(4, 0, 0), (6, 0, 0), (10, 0, 0), (11, 0, 0), (0, 0, 0), (3, 0, 0), (13, 0, 0), (14, 0, 0)] := by
  unfold tDk0
  rw [tDk4_L, tDk3_L, tDk2_L, tDk1_L]
  simp
theorem mS0_L (S : gS) : gL (mS0 S) = gL S := rfl
theorem m35_L (S : gS) : gL (m35S S) = gL S ++ [(20, 0, 0), (21, 0, 0), (22, 0, 0), (23, 0, 0), (24, 0, 0), (25, 0, 0), (26, 0, 0), (27, 0, 0), (28, 0, 0), (29, 0, 0), (30, 0, 0), (31, 0, 0), (32, 0, 0), (33, 0, 0), (34, 0, 0), (35, 0, 0)] := by
  rw [m35L, m34L, m33L, m32L, m31L, m30L, m29L, m28L, m27L, m26L, m25L, m24L, m23L, m22L, m21L, m20TL, m20L, mS0_L]
  simp
theorem s0_L : gL s0 = [] := rfl
theorem s1_L : gL s1 = [(7, 0, 0), (4, 0, 0), (6, 0, 0), (10, 0, 0), (11, 0, 0), (0, 0, 0), (3, 0, 0), (13, 0, 0), (14, 0, 0)] := by
  unfold s1
  rw [tDk0_L, gL_new, s0_L]
  rfl
theorem s2_L : gL s2 = [(7, 0, 0), (4, 0, 0), (6, 0, 0), (10, 0, 0), (11, 0, 0), (0, 0, 0), (3, 0, 0), (13, 0, 0), (14, 0, 0), (8, 0, 0), (20, 0, 0), (21, 0, 0), (22, 0, 0), (23, 0, 0), (24, 0, 0), (25, 0, 0), (26, 0, 0), (27, 0, 0), (28, 0, 0), (29, 0, 0), (30, 0, 0), (31, 0, 0), (32, 0, 0), (33, 0, 0), (34, 0, 0), (35, 0, 0)] := by
  unfold s2
  rw [m35_L, gL_new, s1_L]
  rfl
theorem s3_L : gL s3 = [(7, 0, 0), (4, 0, 0), (6, 0, 0), (10, 0, 0), (11, 0, 0), (0, 0, 0), (3, 0, 0), (13, 0, 0), (14, 0, 0), (8, 0, 0), (20, 0, 0), (21, 0, 0), (22, 0, 0), (23, 0, 0), (24, 0, 0), (25, 0, 0), (26, 0, 0), (27, 0, 0), (28, 0, 0), (29, 0, 0), (30, 0, 0), (31, 0, 0), (32, 0, 0), (33, 0, 0), (34, 0, 0), (35, 0, 0), (16, 0, 0)] := by
  unfold s3
  rw [gL_new, s2_L]
  rfl
theorem s3_f : fI s3 0 0 0 = 0 ∧ fI s3 1 0 0 = 2000 ∧ fI s3 2 0 0 = 1 ∧ fI s3 3 0 0 = 1 ∧ fI s3 97 0 0 = 0 ∧ fI s3 193 0 0 = 0 ∧ fI s3 228 0 0 = 0 ∧ fI s3 229 0 0 = -1 ∧ fI s3 230 0 0 = 2 ∧ fI s3 231 0 0 = 0 ∧ fI s3 232 0 0 = 0 ∧ fI s3 233 0 0 = 0 := by decide +kernel
theorem s3_g : fI s3 257 0 0 = 0 ∧ fI s3 258 0 0 = 2 ∧ fI s3 259 0 0 = 0 ∧ fI s3 260 0 0 = 0 ∧ fI s3 261 0 0 = 0 ∧ fI s3 263 0 0 = -1 ∧ fI s3 264 0 0 = 0 ∧ fI s3 279 0 0 = 0 := by decide +kernel
theorem s3_D : DeskS s3 := by
  unfold DeskS lv
  rw [s3_L]
  and_intros
  all_goals first
    | decide
    | decide +kernel
theorem s3_M : ModS s3 := by
  unfold ModS lv
  rw [s3_L]
  and_intros
  all_goals first
    | decide
    | decide +kernel

theorem aI_nh {S : gS} {k j t i : Nat} : aI (snew S k j t) k j i = 0 := if_pos ⟨rfl, rfl⟩
theorem mA_hit {S : gS} {k g i : Nat} : aI (mA S k g) k 0 i = 0 := by unfold mA; rw [aI_sfR, aI_nh]
theorem mA_miss {S : gS} {k g q a i : Nat} (h : q ≠ k) : aI (mA S k g) q a i = aI S q a i := by unfold mA; rw [aI_sfR, aI_new h]
theorem m35_20 (S : gS) {i : Nat} : aI (m35S S) 20 0 i = 0 := by rw [m35S, mA_miss (by decide), m34S, mA_miss (by decide), m33S, mA_miss (by decide), m32S, mA_miss (by decide), m31S, mA_miss (by decide), m30S, mA_miss (by decide), m29S, mA_miss (by decide), m28S, mA_miss (by decide), m27S, mA_miss (by decide), m26S, mA_miss (by decide), m25S, mA_miss (by decide), m24S, mA_miss (by decide), m23S, mA_miss (by decide), m22S, mA_miss (by decide), m21S, mA_miss (by decide), m20T, aI_sfI, m20S, mA_hit]
theorem m35_21 (S : gS) {i : Nat} : aI (m35S S) 21 0 i = 0 := by rw [m35S, mA_miss (by decide), m34S, mA_miss (by decide), m33S, mA_miss (by decide), m32S, mA_miss (by decide), m31S, mA_miss (by decide), m30S, mA_miss (by decide), m29S, mA_miss (by decide), m28S, mA_miss (by decide), m27S, mA_miss (by decide), m26S, mA_miss (by decide), m25S, mA_miss (by decide), m24S, mA_miss (by decide), m23S, mA_miss (by decide), m22S, mA_miss (by decide), m21S, mA_hit]
theorem m35_22 (S : gS) {i : Nat} : aI (m35S S) 22 0 i = 0 := by rw [m35S, mA_miss (by decide), m34S, mA_miss (by decide), m33S, mA_miss (by decide), m32S, mA_miss (by decide), m31S, mA_miss (by decide), m30S, mA_miss (by decide), m29S, mA_miss (by decide), m28S, mA_miss (by decide), m27S, mA_miss (by decide), m26S, mA_miss (by decide), m25S, mA_miss (by decide), m24S, mA_miss (by decide), m23S, mA_miss (by decide), m22S, mA_hit]
theorem m35_23 (S : gS) {i : Nat} : aI (m35S S) 23 0 i = 0 := by rw [m35S, mA_miss (by decide), m34S, mA_miss (by decide), m33S, mA_miss (by decide), m32S, mA_miss (by decide), m31S, mA_miss (by decide), m30S, mA_miss (by decide), m29S, mA_miss (by decide), m28S, mA_miss (by decide), m27S, mA_miss (by decide), m26S, mA_miss (by decide), m25S, mA_miss (by decide), m24S, mA_miss (by decide), m23S, mA_hit]
theorem m35_24 (S : gS) {i : Nat} : aI (m35S S) 24 0 i = 0 := by rw [m35S, mA_miss (by decide), m34S, mA_miss (by decide), m33S, mA_miss (by decide), m32S, mA_miss (by decide), m31S, mA_miss (by decide), m30S, mA_miss (by decide), m29S, mA_miss (by decide), m28S, mA_miss (by decide), m27S, mA_miss (by decide), m26S, mA_miss (by decide), m25S, mA_miss (by decide), m24S, mA_hit]
theorem m35_25 (S : gS) {i : Nat} : aI (m35S S) 25 0 i = 0 := by rw [m35S, mA_miss (by decide), m34S, mA_miss (by decide), m33S, mA_miss (by decide), m32S, mA_miss (by decide), m31S, mA_miss (by decide), m30S, mA_miss (by decide), m29S, mA_miss (by decide), m28S, mA_miss (by decide), m27S, mA_miss (by decide), m26S, mA_miss (by decide), m25S, mA_hit]
theorem m35_26 (S : gS) {i : Nat} : aI (m35S S) 26 0 i = 0 := by rw [m35S, mA_miss (by decide), m34S, mA_miss (by decide), m33S, mA_miss (by decide), m32S, mA_miss (by decide), m31S, mA_miss (by decide), m30S, mA_miss (by decide), m29S, mA_miss (by decide), m28S, mA_miss (by decide), m27S, mA_miss (by decide), m26S, mA_hit]
theorem m35_27 (S : gS) {i : Nat} : aI (m35S S) 27 0 i = 0 := by rw [m35S, mA_miss (by decide), m34S, mA_miss (by decide), m33S, mA_miss (by decide), m32S, mA_miss (by decide), m31S, mA_miss (by decide), m30S, mA_miss (by decide), m29S, mA_miss (by decide), m28S, mA_miss (by decide), m27S, mA_hit]
theorem m35_28 (S : gS) {i : Nat} : aI (m35S S) 28 0 i = 0 := by rw [m35S, mA_miss (by decide), m34S, mA_miss (by decide), m33S, mA_miss (by decide), m32S, mA_miss (by decide), m31S, mA_miss (by decide), m30S, mA_miss (by decide), m29S, mA_miss (by decide), m28S, mA_hit]
theorem m35_29 (S : gS) {i : Nat} : aI (m35S S) 29 0 i = 0 := by rw [m35S, mA_miss (by decide), m34S, mA_miss (by decide), m33S, mA_miss (by decide), m32S, mA_miss (by decide), m31S, mA_miss (by decide), m30S, mA_miss (by decide), m29S, mA_hit]
theorem m35_30 (S : gS) {i : Nat} : aI (m35S S) 30 0 i = 0 := by rw [m35S, mA_miss (by decide), m34S, mA_miss (by decide), m33S, mA_miss (by decide), m32S, mA_miss (by decide), m31S, mA_miss (by decide), m30S, mA_hit]
theorem m35_31 (S : gS) {i : Nat} : aI (m35S S) 31 0 i = 0 := by rw [m35S, mA_miss (by decide), m34S, mA_miss (by decide), m33S, mA_miss (by decide), m32S, mA_miss (by decide), m31S, mA_hit]
theorem m35_32 (S : gS) {i : Nat} : aI (m35S S) 32 0 i = 0 := by rw [m35S, mA_miss (by decide), m34S, mA_miss (by decide), m33S, mA_miss (by decide), m32S, mA_hit]
theorem m35_33 (S : gS) {i : Nat} : aI (m35S S) 33 0 i = 0 := by rw [m35S, mA_miss (by decide), m34S, mA_miss (by decide), m33S, mA_hit]
theorem m35_34 (S : gS) {i : Nat} : aI (m35S S) 34 0 i = 0 := by rw [m35S, mA_miss (by decide), m34S, mA_hit]
theorem m35_35 (S : gS) {i : Nat} : aI (m35S S) 35 0 i = 0 := by rw [m35S, mA_hit]
theorem m35_aI (S : gS) {q i : Nat} (h : 20 ≤ q) (h2 : q < 36) : aI (m35S S) q 0 i = 0 := by
  have h3 : q = 20 ∨ q = 21 ∨ q = 22 ∨ q = 23 ∨ q = 24 ∨ q = 25 ∨ q = 26 ∨ q = 27 ∨ q = 28 ∨ q = 29 ∨ q = 30 ∨ q = 31 ∨ q = 32 ∨ q = 33 ∨ q = 34 ∨ q = 35 := by omega
  rcases h3 with rfl | rfl | rfl | rfl | rfl | rfl | rfl | rfl | rfl | rfl | rfl | rfl | rfl | rfl | rfl | rfl
  · exact m35_20 S
  · exact m35_21 S
  · exact m35_22 S
  · exact m35_23 S
  · exact m35_24 S
  · exact m35_25 S
  · exact m35_26 S
  · exact m35_27 S
  · exact m35_28 S
  · exact m35_29 S
  · exact m35_30 S
  · exact m35_31 S
  · exact m35_32 S
  · exact m35_33 S
  · exact m35_34 S
  · exact m35_35 S
theorem s3_aI {q i : Nat} (h : 20 ≤ q) (h2 : q < 36) : aI s3 q 0 i = 0 := by
  unfold s3
  rw [aI_new (by omega)]
  exact m35_aI _ h h2
theorem m35_aO (S : gS) {q i : Nat} (h : q < 20) : aI (m35S S) q 0 i = aI S q 0 i := by
  rw [m35S, mA_miss (by omega), m34S, mA_miss (by omega), m33S, mA_miss (by omega), m32S, mA_miss (by omega), m31S, mA_miss (by omega), m30S, mA_miss (by omega), m29S, mA_miss (by omega), m28S, mA_miss (by omega), m27S, mA_miss (by omega), m26S, mA_miss (by omega), m25S, mA_miss (by omega), m24S, mA_miss (by omega), m23S, mA_miss (by omega), m22S, mA_miss (by omega), m21S, mA_miss (by omega), m20T, aI_sfI, m20S, mA_miss (by omega), mS0, aI_sfI]
theorem tDk4_13 (S : gS) {i : Nat} : aI (tDk4 S) 13 0 i = aI S 13 0 i := by
  unfold tDk4
  rw [aI_sfI, aI_sfI, aI_sfI, aI_sfI, aI_sfI, aI_sfI, aI_sfR, aI_new (by decide)]
theorem tDk3_13 (S : gS) {i : Nat} : aI (tDk3 S) 13 0 i = 0 := by
  unfold tDk3 tLg0
  rw [aI_sfR, aI_sfI, aI_sfR, aI_nh]
theorem s3_13 {i : Nat} : aI s3 13 0 i = 0 := by
  unfold s3
  rw [aI_new (by decide)]
  unfold s2
  rw [m35_aO _ (by decide), aI_new (by decide)]
  unfold s1 tDk0
  rw [tDk4_13, tDk3_13]
theorem date0 : isDate 0 2000 1 1 := by refine ⟨?_, ?_, ?_, ?_, ?_, ?_⟩ <;> decide
theorem WI_of {S : gS} (hL : gL S = [(7, 0, 0), (4, 0, 0), (6, 0, 0), (10, 0, 0), (11, 0, 0), (0, 0, 0), (3, 0, 0), (13, 0, 0), (14, 0, 0), (8, 0, 0), (20, 0, 0), (21, 0, 0), (22, 0, 0), (23, 0, 0), (24, 0, 0), (25, 0, 0), (26, 0, 0), (27, 0, 0), (28, 0, 0), (29, 0, 0), (30, 0, 0), (31, 0, 0), (32, 0, 0), (33, 0, 0), (34, 0, 0), (35, 0, 0), (16, 0, 0)]) (hDS : DeskS S) (hMS : ModS S) (hf : fI S 0 0 0 = 0 ∧ fI S 1 0 0 = 2000 ∧ fI S 2 0 0 = 1 ∧ fI S 3 0 0 = 1 ∧ fI S 97 0 0 = 0 ∧ fI S 193 0 0 = 0 ∧ fI S 228 0 0 = 0 ∧ fI S 229 0 0 = -1 ∧ fI S 230 0 0 = 2 ∧ fI S 231 0 0 = 0 ∧ fI S 232 0 0 = 0 ∧ fI S 233 0 0 = 0) (hg : fI S 257 0 0 = 0 ∧ fI S 258 0 0 = 2 ∧ fI S 259 0 0 = 0 ∧ fI S 260 0 0 = 0 ∧ fI S 261 0 0 = 0 ∧ fI S 263 0 0 = -1 ∧ fI S 264 0 0 = 0 ∧ fI S 279 0 0 = 0) (hI : ∀ q i, 20 ≤ q → q < 36 → aI S q 0 i = 0) (h13 : ∀ i, aI S 13 0 i = 0) : WI S 0 := by
  obtain ⟨f0, f1, f2, f3, f97, f193, f228, f229, f230, f231, f232, f233⟩ := hf
  obtain ⟨g257, g258, g259, g260, g261, g263, g264, g279⟩ := hg
  have s3_aI : ∀ {q i : Nat}, 20 ≤ q → q < 36 → aI S q 0 i = 0 := fun {q i} h h2 => hI q i h h2
  have s3_13 : ∀ {i : Nat}, aI S 13 0 i = 0 := fun {i} => h13 i
  have ej : jn S = 0 := by unfold jn; rw [f228]; rfl
  have ex : xl S = 0 := by unfold xl; rw [f193]; rfl
  have et : tl S = 0 := by unfold tl; rw [f97]; rfl
  have hD : DeskOk S := ⟨hDS, by rw [f228, ej]; rfl, by rw [ej]; omega, fun j hj => by rw [ej] at hj; omega⟩
  have es : slN S = 2 := by unfold slN; rw [f230]; rfl
  have hday : DayOk S 0 := ⟨by decide, f0, by rw [f1, (date_eq date0).1]; rfl, by rw [f2, (date_eq date0).2.1]; rfl, by rw [f3, (date_eq date0).2.2]; rfl⟩
  refine ⟨⟨hD, ⟨by rw [ex, f193]; rfl, by rw [ex]; omega, fun i hi => by rw [ex] at hi; omega⟩, ⟨fun j _ => ?_, fun j t _ => ?_⟩, ⟨0, 0, ⟨hD, ⟨0, hday⟩, f231, by rw [es, f230]; rfl, by rw [es]; omega, f97⟩, by omega, by omega, 0, f233, Nat.le_refl _⟩, Or.inl f232⟩, hMS, ⟨⟨⟨by rw [g264, f228], by rw [g257, f231], by rw [g258, f230], by rw [g259, f232], by rw [g260, f233], by rw [g263, f229]⟩, ⟨by rw [f97, et]; rfl, by rw [g279, f97], fun i _ => by rw [s3_aI (by decide) (by decide), s3_13]⟩, ⟨fun j hj => by rw [ej] at hj; omega, fun j t _ _ _ => ⟨s3_aI (by decide) (by decide), s3_aI (by decide) (by decide)⟩, fun j _ _ => ⟨s3_aI (by decide) (by decide), s3_aI (by decide) (by decide), s3_aI (by decide) (by decide), s3_aI (by decide) (by decide)⟩⟩, ⟨hD.2.1, hD.2.2.1, fun j hj => by rw [ej] at hj; omega⟩⟩, fun j hj => by rw [ej] at hj; omega, ⟨by rw [g261, f193], fun i hi => by rw [ex] at hi; omega⟩⟩, by unfold lv; rw [hL]; decide⟩
  · rw [hL]
    simp
  · rw [hL]
    simp
theorem s3_WI : WI s3 0 := WI_of s3_L s3_D s3_M s3_f s3_g (fun q i h h2 => s3_aI h h2) (fun i => s3_13)
