/-! THE LAW (5): job and task keep what stands between two calls -/
theorem gL_new {S : gS} {k j t : Nat} : gL (snew S k j t) = gL S ++ [(k, j, t)] := rfl
theorem fR_at {S : gS} {g j t : Nat} {v : Option gId} : fR (sfR S g j t v) g j t = v := if_pos ⟨rfl, rfl, rfl⟩
theorem fR_nh {S : gS} {g j t g' j' t' : Nat} {v : Option gId} (h : ¬ (g' = g ∧ j' = j ∧ t' = t)) : fR (sfR S g j t v) g' j' t' = fR S g' j' t' := if_neg h
theorem fR_new {S : gS} {k j t g a i : Nat} (h : ¬ (g / 32 = k ∧ a = j ∧ i = t)) : fR (snew S k j t) g a i = fR S g a i := if_neg h
theorem aR_new {S : gS} {k j t q a i : Nat} (h : ¬ (q = k ∧ a = j)) : aR (snew S k j t) q a i = aR S q a i := if_neg h
theorem fR_scl {S : gS} {a b k j : Nat} : fR (scl S a b k j) = fR (snew S k j 0) := rfl
theorem aR_scl {S : gS} {a b k j : Nat} : aR (scl S a b k j) = aR (snew S k j 0) := rfl
theorem aI_scl {S : gS} {a b k j : Nat} : aI (scl S a b k j) = aI (snew S k j 0) := rfl
theorem tT_gL {C : gS} {k c : Nat} {n t p : Int32} : gL (tTaskS C k c n t p) = gL C ++ [(5, k, c)] := rfl
theorem tT_R {C : gS} {k c : Nat} {n t p : Int32} {g x y : Nat} (h : ¬ (g / 32 = 5 ∧ x = k ∧ y = c)) : fR (tTaskS C k c n t p) g x y = fR C g x y := by
  simp only [tTaskS, fR_sfI, fR_saR]
  exact fR_new h
theorem tT_aR {C : gS} {k c : Nat} {n t p : Int32} {q x y : Nat} (h : q ≠ 5) : aR (tTaskS C k c n t p) q x y = if q = 15 ∧ x = k ∧ y = c then some (5, k, c) else aR C q x y := by
  simp only [tTaskS, aR_sfI, aR_saR]
  rw [aR_new (fun z => h z.1)]
theorem tJ_a2 {C : gS} {n : Nat} {rank : Int32} {g x t : Nat} (h1 : g < 32) : fI (tJob C rank n) g x t = fI C g x t := by
  simp only [tJob, tJb0, tEx0, fI_sfI, fI_sfR, fI_saR, fI_scl]
  rw [if_neg (fun z => by omega), if_neg (fun z => by omega), if_neg (fun z => by omega), if_neg (fun z => by omega), if_neg (fun z => by omega), if_neg (fun z => by omega), if_neg (fun z => by omega), fI_new (fun z => by omega)]
  simp only [fI_sfI, fI_sfR, fI_scl]
  rw [if_neg (fun z => by omega), fI_new (fun z => by omega), fI_new (fun z => by omega), fI_new (fun z => by omega)]
theorem tJ_a3 {C : gS} {n : Nat} {rank : Int32} {g x t : Nat} (h1 : 229 ≤ g) (h2 : g < 320) : fI (tJob C rank n) g x t = fI C g x t := by
  simp only [tJob, tJb0, tEx0, fI_sfI, fI_sfR, fI_saR, fI_scl]
  rw [if_neg (fun z => by omega), if_neg (fun z => by omega), if_neg (fun z => by omega), if_neg (fun z => by omega), if_neg (fun z => by omega), if_neg (fun z => by omega), if_neg (fun z => by omega), fI_new (fun z => by omega)]
  simp only [fI_sfI, fI_sfR, fI_scl]
  rw [if_neg (fun z => by omega), fI_new (fun z => by omega), fI_new (fun z => by omega), fI_new (fun z => by omega)]
theorem tJ_gL {C : gS} {n : Nat} {rank : Int32} : gL (tJob C rank n) = gL C ++ [(2, n, 0), (1, n, 0), (12, n, 0), (15, n, 0)] := by
  unfold tJob
  rw [gL_sfI, gL_sfI, gL_saR, tJb0_L, tEx0_L, gL_new, List.append_assoc, List.append_assoc]
  rfl
theorem tJ_R {C : gS} {n : Nat} {rank : Int32} {g x t : Nat} (h : ¬ (x = n ∧ t = 0 ∧ 32 ≤ g ∧ g < 96)) (h2 : g < 320) : fR (tJob C rank n) g x t = fR C g x t := by
  simp only [tJob, tJb0, tEx0, fR_sfI, fR_saR, fR_sfR, fR_scl]
  rw [if_neg (fun z => by omega), if_neg (fun z => by omega), fR_new (fun z => by omega)]
  simp only [fR_sfI, fR_sfR, fR_scl]
  rw [if_neg (fun z => by omega), fR_new (fun z => by omega), fR_new (fun z => by omega), fR_new (fun z => by omega)]
theorem tJ_Rv {C : gS} {n : Nat} {rank : Int32} : fR (tJob C rank n) 66 n 0 = some (15, n, 0) ∧ fR (tJob C rank n) 65 n 0 = some (1, n, 0) ∧ fR (tJob C rank n) 32 n 0 = some (12, n, 0) := by
  refine ⟨?_, ?_, ?_⟩
  · unfold tJob tJb0
    rw [fR_sfI, fR_sfI, fR_saR, fR_nh (by omega), fR_sfI, fR_sfI, fR_sfI, fR_sfI, fR_sfI, fR_at]
  · unfold tJob tJb0
    rw [fR_sfI, fR_sfI, fR_saR, fR_at]
  · unfold tJob tJb0
    rw [fR_sfI, fR_sfI, fR_saR, fR_nh (by omega), fR_sfI, fR_sfI, fR_sfI, fR_sfI, fR_sfI, fR_nh (by omega), fR_new (by omega)]
    unfold tEx0
    rw [fR_sfI, fR_at]
theorem tJ_aR {C : gS} {n : Nat} {rank : Int32} {q x i : Nat} (h : q = 14 ∨ q = 15 ∧ x ≠ n) : aR (tJob C rank n) q x i = if q = 14 ∧ x = 0 ∧ i = n then some (2, n, 0) else aR C q x i := by
  simp only [tJob, tJb0, tEx0, aR_sfI, aR_saR, aR_sfR, aR_scl]
  rw [aR_new (fun z => by omega)]
  simp only [aR_sfI, aR_sfR, aR_scl]
  rw [aR_new (fun z => by omega), aR_new (fun z => by omega), aR_new (fun z => by omega)]
theorem tJ_aI {C : gS} {n : Nat} {rank : Int32} {q x i : Nat} (h : q ≠ 15) (h2 : q ≠ 12) (h3 : q ≠ 1) (h4 : q ≠ 2) : aI (tJob C rank n) q x i = aI C q x i := by
  simp only [tJob, tJb0, tEx0, aI_sfI, aI_saR, aI_sfR, aI_scl]
  rw [aI_new h]
  simp only [aI_sfI, aI_sfR, aI_scl]
  rw [aI_new h2, aI_new h3, aI_new h4]
theorem mem_l {α : Type} {a : α} {l m : List α} (h : a ∈ l) : a ∈ l ++ m := List.mem_append_left _ h
theorem DeskS.up {S C1 : gS} (h : DeskS S) (hl : ∀ q ∈ gL S, q ∈ gL C1) (hr : ∀ g, 96 ≤ g → g < 256 → g / 32 ≠ 5 → fR C1 g 0 0 = fR S g 0 0) : DeskS C1 := by
  obtain ⟨l7, l4, l6, l0, l3, l10, l11, l13, l14, r224, r225, r226, r227, r128, r129, r192, r96⟩ := h
  exact ⟨hl _ l7, hl _ l4, hl _ l6, hl _ l0, hl _ l3, hl _ l10, hl _ l11, hl _ l13, hl _ l14, (hr _ (by decide) (by decide) (by decide)).trans r224, (hr _ (by decide) (by decide) (by decide)).trans r225, (hr _ (by decide) (by decide) (by decide)).trans r226, (hr _ (by decide) (by decide) (by decide)).trans r227, (hr _ (by decide) (by decide) (by decide)).trans r128, (hr _ (by decide) (by decide) (by decide)).trans r129, (hr _ (by decide) (by decide) (by decide)).trans r192, (hr _ (by decide) (by decide) (by decide)).trans r96⟩
theorem W_taskV {S C1 : gS} {k q : Nat} (h : WIc S k) (hq : q < jn S) (hc : jc S q < 6)
    (eL : gL C1 = gL S ++ [(5, q, jc S q)]) (eR : ∀ g x y, ¬ (g / 32 = 5 ∧ x = q ∧ y = jc S q) → fR C1 g x y = fR S g x y) (eA : ∀ a x y, a ≠ 5 → aR C1 a x y = if a = 15 ∧ x = q ∧ y = jc S q then some (5, q, jc S q) else aR S a x y) (eI : ∀ a x y, a ≠ 5 → aI C1 a x y = aI S a x y)
    (a1 : ∀ g x y, ¬ (g / 32 = 5 ∧ x = q ∧ y = jc S q) → ¬ (g = 67 ∧ x = q ∧ y = 0) → fI C1 g x y = fI S g x y) (e67 : fI C1 67 q 0 = nI (jc S q + 1)) : WIc C1 (k + 1) ∧ mP S C1 := by
  have f : ∀ g x y, g ≠ 67 → ¬ g / 32 = 5 → fI C1 g x y = fI S g x y := fun g x y h1 h2 => a1 g x y (fun z => h2 z.1) (fun z => h1 z.1)
  have ej : jn C1 = jn S := by unfold jn; rw [f 228 0 0 (by decide) (by decide)]
  have ec : jc C1 q = jc S q + 1 := by
    have e : jc C1 q = (fI C1 67 q 0).toNatClampNeg := rfl
    rw [e, e67, nI_clamp (by omega)]
  have eo : ∀ j, j ≠ q → jc C1 j = jc S j := fun j hj => by
    have e : jc C1 j = (fI C1 67 j 0).toNatClampNeg := rfl
    rw [e, a1 67 j 0 (by omega) (by omega)]; rfl
  have l : ∀ r ∈ gL S, r ∈ gL C1 := fun r hr => by rw [eL]; exact mem_l hr
  refine ⟨h.mk ⟨h.1.1.up l (fun g h1 h2 h3 => ?_), by rw [ej, f 228 0 0 (by decide) (by decide)]; exact h.1.2.1, by rw [ej]; exact h.1.2.2.1, fun j hj => ?_⟩ (h.2.1.of2 (f 193 0 0 (by decide) (by decide)) ?_) ?_ (fun g hg => ?_), ⟨l, fun g h1 h2 => eR g 0 0 (by omega), fun g x y h1 h2 => f g x y (by omega) (by omega), fun k a i hk => eI k a i (by omega)⟩⟩
  · exact eR g 0 0 (by omega)
  · rw [ej] at hj
    obtain ⟨⟨b1, b2, b3, b4, b5, b6⟩, c1, c2, c3, c4, c5⟩ := h.1.2.2.2 j hj
    have hJ : JobOk C1 j (jc C1 j) := by
      by_cases hjq : j = q
      · subst hjq
        rw [ec]
        refine ⟨l _ b1, l _ b2, by rw [eR 66 j 0 (by omega)]; exact b3, e67, hc, fun t ht => ?_⟩
        by_cases htc : t = jc S j
        · subst htc
          exact ⟨by show (5, j, jc S j) ∈ gL C1; rw [eL]; exact List.mem_append_right _ (List.mem_singleton.mpr rfl), by rw [eA 15 j (jc S j) (by decide), if_pos ⟨rfl, rfl, rfl⟩]⟩
        · obtain ⟨d1, d2⟩ := b6 t (by omega)
          exact ⟨l _ d1, by rw [eA 15 j t (by decide), if_neg (fun z => htc z.2.2)]; exact d2⟩
      · rw [eo j hjq]
        refine ⟨l _ b1, l _ b2, by rw [eR 66 j 0 (by omega)]; exact b3, by rw [a1 67 j 0 (by omega) (by omega)]; exact b4, b5, fun t ht => ?_⟩
        obtain ⟨d1, d2⟩ := b6 t ht
        exact ⟨l _ d1, by rw [eA 15 j t (by decide), if_neg (fun z => hjq z.2.1)]; exact d2⟩
    exact ⟨hJ, by rw [eA 14 0 j (by decide), if_neg (fun z => absurd z.1 (by decide))]; exact c1, l _ c2, l _ c3, by rw [eR 65 j 0 (by omega)]; exact c4, by rw [eR 32 j 0 (by omega)]; exact c5⟩
  · funext a i
    exact eI 10 a i (by decide)
  · have n5 : ∀ r : gId, r.1 ≠ 5 → r ∉ gL S → r ∉ gL C1 := fun r h1 h2 z => by
      rw [eL] at z
      rcases List.mem_append.mp z with z | z
      · exact h2 z
      · rw [List.mem_singleton] at z
        subst z
        exact h1 rfl
    refine ⟨fun j hj => ?_, fun j t hj z => ?_⟩
    · rw [ej] at hj
      obtain ⟨d1, d2, d3, d4⟩ := h.2.2.1.1 j hj
      exact ⟨n5 _ (show (2 : Nat) ≠ 5 by decide) d1, n5 _ (show (1 : Nat) ≠ 5 by decide) d2, n5 _ (show (12 : Nat) ≠ 5 by decide) d3, n5 _ (show (15 : Nat) ≠ 5 by decide) d4⟩
    · rw [ej] at hj
      rw [eL] at z
      rcases List.mem_append.mp z with z | z
      · refine h.2.2.1.2 j t ?_ z
        rcases hj with hj | hj
        · exact Or.inl hj
        · by_cases hjq : j = q
          · subst hjq
            rw [ec] at hj
            exact Or.inr (by omega)
          · rw [eo j hjq] at hj
            exact Or.inr hj
      · rw [List.mem_singleton] at z
        injection z with z1 z2
        injection z2 with z2 z3
        subst z2
        subst z3
        rw [ec] at hj
        omega
  · exact f g 0 0 (by rintro rfl; exact absurd hg (by decide)) (by
      simp only [List.contains_eq_mem, List.mem_cons, List.not_mem_nil, or_false, decide_eq_true_eq] at hg
      omega)
theorem W_task {S C1 : gS} {k : Nat} {j n t p : Int32} {r : Option gV} (h : WIc S k) (ho : oTask S j n t p r C1) : WIc C1 (k + 1) ∧ mP S C1 := by
  rcases ho with ⟨-, -, rfl⟩ | ⟨q, hq, -, ⟨-, -, rfl⟩ | ⟨-, -, -, rfl⟩ | ⟨⟨hc, -⟩, -, -, e⟩⟩
  · exact W_same h
  · exact W_same h
  · exact W_same h
  · refine W_taskV h hq hc ?_ ?_ ?_ ?_ ?_ ?_
    · rw [e]; exact tT_gL
    · rw [e]; exact fun g x y z => tT_R z
    · rw [e]; exact fun a x y z => tT_aR z
    · rw [e]; exact fun a x y z => tT_I z
    · rw [e]; exact fun g x y z z2 => tT_a1 z z2
    · rw [e]; exact tT_v.1
theorem W_jobV {S C0 C1 : gS} {k n : Nat} (h : WIc S k) (en : n = jn S) (hn6 : n < 6) (h0 : rdK S C0)
    (eL : gL C1 = gL C0 ++ [(2, n, 0), (1, n, 0), (12, n, 0), (15, n, 0)]) (eR : ∀ g x t, ¬ (x = n ∧ t = 0 ∧ 32 ≤ g ∧ g < 96) → g < 320 → fR C1 g x t = fR C0 g x t) (vR : fR C1 66 n 0 = some (15, n, 0) ∧ fR C1 65 n 0 = some (1, n, 0) ∧ fR C1 32 n 0 = some (12, n, 0)) (eA : ∀ q x i, q = 14 ∨ q = 15 ∧ x ≠ n → aR C1 q x i = if q = 14 ∧ x = 0 ∧ i = n then some (2, n, 0) else aR C0 q x i) (eI : ∀ q x i, q ≠ 15 → q ≠ 12 → q ≠ 1 → q ≠ 2 → aI C1 q x i = aI C0 q x i)
    (a1 : ∀ g x t, ¬ (x = n ∧ g < 96) → g ≠ 193 → g ≠ 228 → g ≠ 229 → g < 320 → fI C1 g x t = fI C0 g x t) (a2 : ∀ g x t, g < 32 → fI C1 g x t = fI C0 g x t) (e228 : fI C1 228 0 0 = nI (n + 1)) (e193 : fI C1 193 0 0 = 0) (e67 : fI C1 67 n 0 = 0) : WIc C1 (k + 1) ∧ mP S C1 := by
  obtain ⟨k1, k2, k3, k4, k5, -⟩ := h0
  have eL : gL C1 = gL S ++ [(2, n, 0), (1, n, 0), (12, n, 0), (15, n, 0)] := by rw [eL, k1]
  have l : ∀ r ∈ gL S, r ∈ gL C1 := fun r hr => by rw [eL]; exact mem_l hr
  have eR : ∀ g x t, ¬ (x = n ∧ t = 0 ∧ 32 ≤ g ∧ g < 96) → g < 320 → fR C1 g x t = fR S g x t := fun g x t z1 z2 => by rw [eR g x t z1 z2, k2]
  have ej : jn C1 = n + 1 := by
    have e : jn C1 = (fI C1 228 0 0).toNatClampNeg := rfl
    rw [e, e228, nI_clamp (by omega)]
  have f : ∀ g x t, ¬ (x = n ∧ 32 ≤ g ∧ g < 96) → g ≠ 193 → g ≠ 228 → g ≠ 229 → g ≠ 130 → g ≠ 131 → g ≠ 132 → g ≠ 133 → g < 320 → fI C1 g x t = fI S g x t := fun g x t z1 z2 z3 z4 z5 z6 z7 z8 z9 => by
    by_cases hg : g < 32
    · rw [a2 g x t hg, k5 g x t z5 z6 z7 z8]
    · rw [a1 g x t (by omega) z2 z3 z4 z9, k5 g x t z5 z6 z7 z8]
  have ec : jc C1 n = 0 := by
    have e : jc C1 n = (fI C1 67 n 0).toNatClampNeg := rfl
    rw [e, e67]; rfl
  have eo : ∀ j, j ≠ n → jc C1 j = jc S j := fun j hj => by
    have e : jc C1 j = (fI C1 67 j 0).toNatClampNeg := rfl
    rw [e, f 67 j 0 (by omega) (by decide) (by decide) (by decide) (by decide) (by decide) (by decide) (by decide) (by decide)]; rfl
  have nw : ∀ r ∈ [((2 : Nat), n, (0 : Nat)), (1, n, 0), (12, n, 0), (15, n, 0)], r ∈ gL C1 := fun r hr => by rw [eL]; exact List.mem_append_right _ hr
  refine ⟨h.mk ⟨h.1.1.up l (fun g h1 h2 h3 => eR g 0 0 (by omega) (by omega)), by rw [ej]; exact e228, by rw [ej]; exact hn6, fun j hj => ?_⟩ ?_ ?_ (fun g hg => ?_), ⟨l, fun g h1 h2 => eR g 0 0 (by omega) (by omega), fun g x y h1 h2 => f g x y (by omega) (by omega) (by omega) (by omega) (by omega) (by omega) (by omega) (by omega) (by omega), fun k a i hk => by rw [eI k a i (by omega) (by omega) (by omega) (by omega), k4]⟩⟩
  · rw [ej] at hj
    by_cases hjn : j = n
    · subst hjn
      rw [ec]
      exact ⟨⟨nw _ (by simp), nw _ (by simp), vR.1, e67, by omega, fun t ht => absurd ht (by omega)⟩, by rw [eA 14 0 j (Or.inl rfl), if_pos ⟨rfl, rfl, rfl⟩], nw _ (by simp), nw _ (by simp), vR.2.1, vR.2.2⟩
    · obtain ⟨⟨b1, b2, b3, b4, b5, b6⟩, c1, c2, c3, c4, c5⟩ := h.1.2.2.2 j (by omega)
      rw [eo j hjn]
      refine ⟨⟨l _ b1, l _ b2, by rw [eR 66 j 0 (by omega) (by decide)]; exact b3, by rw [f 67 j 0 (by omega) (by decide) (by decide) (by decide) (by decide) (by decide) (by decide) (by decide) (by decide)]; exact b4, b5, fun t ht => ?_⟩, by rw [eA 14 0 j (Or.inl rfl), if_neg (fun z => hjn z.2.2), k3]; exact c1, l _ c2, l _ c3, by rw [eR 65 j 0 (by omega) (by decide)]; exact c4, by rw [eR 32 j 0 (by omega) (by decide)]; exact c5⟩
      obtain ⟨d1, d2⟩ := b6 t ht
      exact ⟨l _ d1, by rw [eA 15 j t (Or.inr ⟨rfl, hjn⟩), if_neg (fun z => absurd z.1 (by decide)), k3]; exact d2⟩
  · have e : xl C1 = 0 := by
      have e : xl C1 = (fI C1 193 0 0).toNatClampNeg := rfl
      rw [e, e193]; rfl
    exact ⟨by rw [e, e193]; rfl, by rw [e]; omega, fun i hi => by rw [e] at hi; omega⟩
  · have no : ∀ r : gId, r ∉ gL S → r ∉ [((2 : Nat), n, (0 : Nat)), (1, n, 0), (12, n, 0), (15, n, 0)] → r ∉ gL C1 := fun r h1 h2 z => by
      rw [eL] at z
      rcases List.mem_append.mp z with z | z
      · exact h1 z
      · exact h2 z
    refine ⟨fun j hj => ?_, fun j t hj => ?_⟩
    · rw [ej] at hj
      obtain ⟨d1, d2, d3, d4⟩ := h.2.2.1.1 j (by omega)
      have hne : j ≠ n := by omega
      exact ⟨no _ d1 (by simp [hne]), no _ d2 (by simp [hne]), no _ d3 (by simp [hne]), no _ d4 (by simp [hne])⟩
    · refine no _ (h.2.2.1.2 j t ?_) (by simp)
      rcases hj with hj | hj
      · exact Or.inl (by omega)
      · by_cases hjn : j = n
        · exact Or.inl (by omega)
        · rw [eo j hjn] at hj
          exact Or.inr hj
  · simp only [List.contains_eq_mem, List.mem_cons, List.not_mem_nil, or_false, decide_eq_true_eq] at hg
    exact f g 0 0 (by omega) (by omega) (by omega) (by omega) (by omega) (by omega) (by omega) (by omega) (by omega)
theorem W_job {S C1 : gS} {k : Nat} {rank : Int32} {r : Option gV} (h : WIc S k) (ho : oJob S rank r C1) : WIc C1 (k + 1) ∧ mP S C1 := by
  rcases ho with ⟨-, -, rfl⟩ | ⟨hn, S', hk, ⟨q, -, hq, -, rfl⟩ | ⟨-, -, -, e⟩⟩
  · exact W_same h
  · obtain ⟨k1, k2, k3, k4, k5, k6⟩ := hk
    have f : ∀ g x y, g ≠ 229 → g ≠ 130 → g ≠ 131 → g ≠ 132 → g ≠ 133 → fI (sfI S' 229 0 0 (nI q)) g x y = fI S g x y := fun g x y z1 z2 z3 z4 z5 => by rw [fI_ne z1, k5 g x y z2 z3 z4 z5]
    refine ⟨h.mk (h.1.eqv k1 k2 k3 (f _ _ _ (by decide) (by decide) (by decide) (by decide) (by decide)) (fun j => f _ _ _ (by decide) (by decide) (by decide) (by decide) (by decide))) (h.2.1.of2 (f _ _ _ (by decide) (by decide) (by decide) (by decide) (by decide)) (congrFun k4 10)) (h.2.2.1.of k1 (f _ _ _ (by decide) (by decide) (by decide) (by decide) (by decide)) (fun j => f _ _ _ (by decide) (by decide) (by decide) (by decide) (by decide))) (fun g hg => ?_), ⟨fun q hq => by rw [gL_sfI, k1]; exact hq, fun g _ _ => congrFun (congrFun (congrFun k2 g) 0) 0, fun g x y h1 _ => f g x y (by omega) (by omega) (by omega) (by omega) (by omega), fun a b i _ => congrFun (congrFun (congrFun k4 a) b) i⟩⟩
    simp only [List.contains_eq_mem, List.mem_cons, List.not_mem_nil, or_false, decide_eq_true_eq] at hg
    exact f g 0 0 (by omega) (by omega) (by omega) (by omega) (by omega)
  · obtain ⟨T, hT⟩ : ∃ T, T = sfI S' 229 0 0 (-1) := ⟨_, rfl⟩
    rw [← hT] at e
    have f : ∀ g x y, g ≠ 229 → fI T g x y = fI S' g x y := fun g x y z => by rw [hT, fI_ne z]
    have g1 : gL T = gL S' := by rw [hT]; rfl
    have g2 : fR T = fR S' := by rw [hT]; rfl
    have g3 : aR T = aR S' := by rw [hT]; rfl
    have g4 : aI T = aI S' := by rw [hT]; rfl
    refine W_jobV h rfl hn hk ?_ ?_ ?_ ?_ ?_ ?_ ?_ ?_ ?_ ?_
    · rw [e, tJ_gL, g1]
    · rw [e, ← g2]; exact fun g x t z z2 => tJ_R z z2
    · rw [e]; exact tJ_Rv
    · rw [e, ← g3]; exact fun q x i z => tJ_aR z
    · rw [e, ← g4]; exact fun q x i z z2 z3 z4 => tJ_aI z z2 z3 z4
    · intro g x t z1 z2 z3 z4 z5
      rw [e]
      by_cases hg : g < 229
      · rw [tJ_a1 z1 z2 z3 (by omega), f g x t z4]
      · rw [tJ_a3 (by omega) z5, f g x t z4]
    · intro g x t z
      rw [e, tJ_a2 z, f g x t (by omega)]
    · rw [e]; exact tJ_v.1
    · rw [e]; exact tJ_v.2.1
    · rw [e]; exact tJ_v.2.2.2.1
