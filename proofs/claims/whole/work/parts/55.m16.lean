/-! THE MODEL (16): job -/
theorem RX.of2 {C C' S S' : gS} {j : Nat} (h : RX C S j) (a : aL C' 12 j = aL C 12 j) (b : fI C' 33 j 0 = fI C 33 j 0) (c : ∀ p, p ≤ 60 → aI S' 21 0 (61 * j + p) = aI S 21 0 (61 * j + p)) (d : ∀ f, f < 5 → aI S' 22 0 (5 * j + f) = aI S 22 0 (5 * j + f)) : RX C' S' j := by
  obtain ⟨y, L, ⟨x1, x2, x3, x4, x5⟩, h2, h3⟩ := h
  exact ⟨y, L, ⟨fun p hp => by rw [c p hp]; exact x1 p hp, x2, x3, x4, fun f hf => by rw [d f hf]; exact x5 f hf⟩, by rw [a]; exact h2, by rw [b]; exact h3⟩
theorem rdK_f {C C' : gS} (k : rdK C C') {g x y : Nat} (h : g < 130 ∨ 134 ≤ g) : fI C' g x y = fI C g x y := k.2.2.2.2.1 g x y (by omega) (by omega) (by omega) (by omega)
theorem Rel_rd {C C' S S' : gS} (hR : Rel C S) (k : rdK C C') (m : fK (jn C) S S') : Rel C' S' := by
  have ej : jn C' = jn C := by unfold jn; rw [rdK_f k (by decide)]
  have ex : xl C' = xl C := by unfold xl; rw [rdK_f k (by decide)]
  refine ⟨hR.1.view (fun g x y h1 _ => ?_) (by rw [k.2.2.2.1]) (fun g x y _ _ => by rw [m.2.2.2.2.1]) (fun q h1 _ => m.2.2.2.2.2.1 q (by omega)), fun j hj => ?_, ?_, fun i hi => ?_⟩
  · exact k.2.2.2.2.1 g x y (by omega) (by omega) (by omega) (by omega)
  · rw [ej] at hj
    exact (hR.2.1 j hj).of2 (by funext i; exact k.2.2.2.2.2 12 j i (by omega)) (rdK_f k (by decide)) (fun p _ => by rw [m.2.2.2.2.2.1 21 (by decide)]) (fun f hf => m.2.2.2.2.2.2 0 _ (by omega))
  · rw [m.2.2.2.2.1, rdK_f k (by decide)]
    exact hR.2.2.1
  · rw [ex] at hi
    rw [m.2.2.2.2.2.1 20 (by decide), k.2.2.2.1]
    exact hR.2.2.2 i hi
theorem Rel_told {C S : gS} {v : Int32} (hR : Rel C S) : Rel (sfI C 229 0 0 v) (sfI S 263 0 0 v) := by
  obtain ⟨q1, q2, q3, q4, q5, q6⟩ := hR.1.1
  exact hR.rn ⟨q1, q2, q3, q4, q5, fI_at.trans fI_at.symm⟩ (fI_ne (by decide)) (fun g x y hg => fI_ne (by omega)) rfl rfl (fI_ne (by decide)) (fI_ne (by decide)) rfl
theorem Rel_jobV {C S CC SS : gS} {n L : Nat} {y : Nat → Nat} {rank : Int32} (hR : Rel C S) (hn : n = jn C) (hn6 : n < 6) (hy : txE y L) (hL : L ≤ 60) (hrd : rd y 5 0 0 = none)
    (a1 : ∀ g x t, ¬ (x = n ∧ g < 96) → g ≠ 193 → g ≠ 228 → g ≠ 229 → g < 130 ∨ 134 ≤ g → g < 256 → fI CC g x t = fI C g x t)
    (v228 : fI CC 228 0 0 = nI (n + 1)) (v229 : fI CC 229 0 0 = -1) (v193 : fI CC 193 0 0 = 0) (v64 : fI CC 64 n 0 = rank) (v67 : fI CC 67 n 0 = 0) (v68 : fI CC 68 n 0 = 0) (v69 : fI CC 69 n 0 = 0) (v70 : fI CC 70 n 0 = 0) (v33 : fI CC 33 n 0 = bI (mFr y))
    (eL : ∀ j, j ≠ n → aL CC 12 j = aL C 12 j) (eN : ∀ f, f < 5 → ∀ v, v < 64 → eBit (aL CC 12 n f) v = FH y f v (fsx y f)) (eI : ∀ i, aI CC 13 0 i = aI C 13 0 i)
    (mf : ∀ g x t, g ≠ 256 → g ≠ 261 → g ≠ 263 → g ≠ 264 → fI SS g x t = fI S g x t) (w261 : fI SS 261 0 0 = 0) (w263 : fI SS 263 0 0 = -1) (w264 : fI SS 264 0 0 = nI (n + 1))
    (b1 : ∀ q i, q ≠ 21 → q ≠ 22 → (q = 23 → i ≠ n) → aI SS q 0 i = aI S q 0 i) (b23 : aI SS 23 0 n = rank)
    (b21 : ∀ j p, j ≠ n → p ≤ 60 → aI SS 21 0 (61 * j + p) = aI S 21 0 (61 * j + p)) (c21 : ∀ p, p ≤ 60 → aI SS 21 0 (61 * n + p) = nI (y p))
    (b22 : ∀ j f, j ≠ n → f < 5 → aI SS 22 0 (5 * j + f) = aI S 22 0 (5 * j + f)) (c22 : ∀ f, f < 5 → aI SS 22 0 (5 * n + f) = nI (fsx y f)) : Rel CC SS := by
  have en : jn CC = n + 1 := by unfold jn; rw [v228, nI_clamp (by omega)]
  have ec : ∀ j, j ≠ n → jc CC j = jc C j := fun j hj => by unfold jc; rw [a1 67 j 0 (by omega) (by omega) (by omega) (by omega) (by omega) (by omega)]
  have ecn : jc CC n = 0 := by unfold jc; rw [v67]; rfl
  obtain ⟨⟨hnn, hl, ⟨hj, hz, ho⟩, hb1, hb2, hb3⟩, hX, hT⟩ := hR
  refine ⟨⟨?_, ⟨?_, ?_, ?_⟩, ⟨fun j hjj => ?_, fun j t' hj6 ht6 hzz => ?_, fun j hjj hj6 => ?_⟩, ?_, ?_, fun j hjj => ?_⟩, fun j hjj => ?_, ?_, fun i hi => ?_⟩
  · unfold RN at *
    rw [v228, v229, w263, w264, a1 231 0 0 (by omega) (by omega) (by omega) (by omega) (by omega) (by omega), a1 230 0 0 (by omega) (by omega) (by omega) (by omega) (by omega) (by omega), a1 232 0 0 (by omega) (by omega) (by omega) (by omega) (by omega) (by omega), a1 233 0 0 (by omega) (by omega) (by omega) (by omega) (by omega) (by omega), mf 257 0 0 (by decide) (by decide) (by decide) (by decide), mf 258 0 0 (by decide) (by decide) (by decide) (by decide), mf 259 0 0 (by decide) (by decide) (by decide) (by decide), mf 260 0 0 (by decide) (by decide) (by decide) (by decide)]
    exact ⟨rfl, hnn.2.1, hnn.2.2.1, hnn.2.2.2.1, hnn.2.2.2.2.1, rfl⟩
  · unfold tl
    rw [a1 97 0 0 (by omega) (by omega) (by omega) (by omega) (by omega) (by omega)]
    exact hl.1
  · rw [a1 97 0 0 (by omega) (by omega) (by omega) (by omega) (by omega) (by omega), mf 279 0 0 (by decide) (by decide) (by decide) (by decide)]
    exact hl.2.1
  · intro i hi
    rw [b1 35 i (by omega) (by omega) (by omega), eI]
    exact hl.2.2 i hi
  · rw [en] at hjj
    by_cases q : j = n
    · subst q
      have hz0 := ho j (by omega) hn6
      refine ⟨⟨b23.trans v64.symm, ?_, ?_, Or.inl v68, ?_, ?_⟩, fun t' ht' => ?_⟩
      · rw [b1 24 j (by omega) (by omega) (by omega), v67]; exact hz0.1
      · rw [b1 25 j (by omega) (by omega) (by omega), v68]; exact hz0.2.1
      · rw [b1 26 j (by omega) (by omega) (by omega), v69]; exact hz0.2.2.1
      · rw [b1 27 j (by omega) (by omega) (by omega), v70]; exact hz0.2.2.2
      · rw [ecn] at ht'; omega
    · have hjn : j < jn C := by omega
      refine ⟨(hj j hjn).1.of (fun g h1 h2 => a1 g j 0 (by omega) (by omega) (by omega) (by omega) (by omega) (by omega)) (fun q2 h1 h2 => b1 q2 j (by omega) (by omega) (by omega)), fun t' ht' => ?_⟩
      rw [ec j q] at ht'
      exact ((hj j hjn).2 t' ht').of (fun g h1 h2 => a1 g j t' (by omega) (by omega) (by omega) (by omega) (by omega) (by omega)) (fun q2 h1 h2 => b1 q2 _ (by omega) (by omega) (by omega))
  · rw [b1 32 _ (by omega) (by omega) (by omega), b1 33 _ (by omega) (by omega) (by omega)]
    refine hz j t' hj6 ht6 ?_
    rw [en] at hzz
    by_cases q : j = n
    · left; omega
    · rw [ec j q] at hzz
      omega
  · rw [en] at hjj
    rw [b1 24 j (by omega) (by omega) (by omega), b1 25 j (by omega) (by omega) (by omega), b1 26 j (by omega) (by omega) (by omega), b1 27 j (by omega) (by omega) (by omega)]
    exact ho j (by omega) hj6
  · rw [en]; exact v228
  · rw [en]; omega
  · rw [en] at hjj
    by_cases q : j = n
    · subst q
      rw [ecn]
      exact ⟨v67, by decide⟩
    · rw [ec j q, a1 67 j 0 (by omega) (by omega) (by omega) (by omega) (by omega) (by omega)]
      exact hb3 j (by omega)
  · rw [en] at hjj
    by_cases q : j = n
    · subst q
      exact ⟨y, L, ⟨c21, hy, hL, hrd, c22⟩, eN, v33⟩
    · exact (hX j (by omega)).of2 (eL j q) (a1 33 j 0 (by omega) (by omega) (by omega) (by omega) (by omega) (by omega)) (fun p hp => b21 j p q hp) (fun f hf => b22 j f q hf)
  · rw [w261, v193]
  · have ex : xl CC = 0 := by unfold xl; rw [v193]; rfl
    rw [ex] at hi
    omega
/-! the class's job, by its fields -/
theorem fI_scl {S : gS} {a b k j : Nat} : fI (scl S a b k j) = fI (snew S k j 0) := rfl
theorem tJ_a1 {C : gS} {n : Nat} {rank : Int32} {g x t : Nat} (h1 : ¬ (x = n ∧ g < 96)) (h2 : g ≠ 193) (h3 : g ≠ 228) (h4 : g < 256) : fI (tJob C rank n) g x t = fI C g x t := by
  simp only [tJob, tJb0, tEx0, fI_sfI, fI_sfR, fI_saR, fI_scl]
  rw [if_neg (fun z => by omega), if_neg (fun z => by omega), if_neg (fun z => by omega), if_neg (fun z => by omega), if_neg (fun z => by omega), if_neg (fun z => by omega), if_neg (fun z => by omega), fI_new (fun z => by omega)]
  simp only [fI_sfI, fI_sfR, fI_scl]
  rw [if_neg (fun z => by omega), fI_new (fun z => by omega), fI_new (fun z => by omega), fI_new (fun z => by omega)]
theorem tJ_v {C : gS} {n : Nat} {rank : Int32} : fI (tJob C rank n) 228 0 0 = nI (n + 1) ∧ fI (tJob C rank n) 193 0 0 = 0 ∧ fI (tJob C rank n) 64 n 0 = rank ∧ fI (tJob C rank n) 67 n 0 = 0 ∧ fI (tJob C rank n) 68 n 0 = 0 ∧ fI (tJob C rank n) 69 n 0 = 0 ∧ fI (tJob C rank n) 70 n 0 = 0 ∧ fI (tJob C rank n) 33 n 0 = bI (decide (¬ fI (snew C 2 n 0) 130 0 0 = 0 ∨ ¬ fI (snew C 2 n 0) 131 0 0 = 0)) := by
  refine ⟨by unfold tJob; rw [fI_at], by unfold tJob; rw [fI_ne (g' := 193) (g := 228) (by decide), fI_at], ?_, ?_, ?_, ?_, ?_, ?_⟩
  · unfold tJob tJb0; rw [fI_ne (g' := 64) (g := 228) (by decide), fI_ne (g' := 64) (g := 193) (by decide), fI_saR, fI_sfR, fI_at]
  · unfold tJob tJb0; rw [fI_ne (g' := 67) (g := 228) (by decide), fI_ne (g' := 67) (g := 193) (by decide), fI_saR, fI_sfR, fI_ne (g' := 67) (g := 64) (by decide), fI_ne (g' := 67) (g := 70) (by decide), fI_ne (g' := 67) (g := 69) (by decide), fI_ne (g' := 67) (g := 68) (by decide), fI_at]
  · unfold tJob tJb0; rw [fI_ne (g' := 68) (g := 228) (by decide), fI_ne (g' := 68) (g := 193) (by decide), fI_saR, fI_sfR, fI_ne (g' := 68) (g := 64) (by decide), fI_ne (g' := 68) (g := 70) (by decide), fI_ne (g' := 68) (g := 69) (by decide), fI_at]
  · unfold tJob tJb0; rw [fI_ne (g' := 69) (g := 228) (by decide), fI_ne (g' := 69) (g := 193) (by decide), fI_saR, fI_sfR, fI_ne (g' := 69) (g := 64) (by decide), fI_ne (g' := 69) (g := 70) (by decide), fI_at]
  · unfold tJob tJb0; rw [fI_ne (g' := 70) (g := 228) (by decide), fI_ne (g' := 70) (g := 193) (by decide), fI_saR, fI_sfR, fI_ne (g' := 70) (g := 64) (by decide), fI_at]
  · unfold tJob tJb0; rw [fI_ne (g' := 33) (g := 228) (by decide), fI_ne (g' := 33) (g := 193) (by decide), fI_saR, fI_sfR, fI_ne (g' := 33) (g := 64) (by decide), fI_ne (g' := 33) (g := 70) (by decide), fI_ne (g' := 33) (g := 69) (by decide), fI_ne (g' := 33) (g := 68) (by decide), fI_ne (g' := 33) (g := 67) (by decide), fI_sfR, fI_new (fun z => by omega)]
    unfold tEx0
    rw [fI_at]
theorem tJ_L {C : gS} {n : Nat} {rank : Int32} {j i : Nat} : aL (tJob C rank n) 12 j i = if j = n then aL C 11 0 i else aL C 12 j i := by
  simp only [tJob, tJb0, tEx0, aL_sfI, aL_sfR, aL_saR]
  rw [aL_new (by decide)]
  simp only [aL_sfI, aL_sfR]
  show (if 12 = 12 ∧ j = n then aL (snew (snew C 2 n 0) 1 n 0) 11 0 i else aL (snew (snew C 2 n 0) 1 n 0) 12 j i) = _
  by_cases q : j = n
  · rw [if_pos ⟨rfl, q⟩, if_pos q, aL_new (by decide), aL_new (by decide)]
  · rw [if_neg (fun z => q z.2), if_neg q, aL_new (by decide), aL_new (by decide)]
theorem tJ_I {C : gS} {n : Nat} {rank : Int32} {i : Nat} : aI (tJob C rank n) 13 0 i = aI C 13 0 i := by
  simp only [tJob, tJb0, tEx0, aI_sfI, aI_sfR, aI_saR]
  rw [aI_new (by decide)]
  simp only [aI_sfI, aI_sfR]
  show aI (snew (snew (snew C 2 n 0) 1 n 0) 12 n 0) 13 0 i = _
  rw [aI_new (by decide), aI_new (by decide), aI_new (by decide)]
def mLet (y : Nat → Nat) (l n : Nat) (S : gS) : gS := (S.1, S.2.1, fun k j i => if k = 21 ∧ j = 0 ∧ l ≤ i ∧ i < l + n then nI (y (i - l)) else aI S k j i, S.2.2.2)
theorem mLet_keep (y : Nat → Nat) (l : Nat) (S : gS) (n : Nat) : fI (mLet y l n S) = fI S ∧ gL (mLet y l n S) = gL S ∧ fR (mLet y l n S) = fR S ∧ aR (mLet y l n S) = aR S ∧ aL (mLet y l n S) = aL S ∧ (∀ k, k ≠ 21 → aI (mLet y l n S) k = aI S k) ∧ ∀ i, aI (mLet y l n S) 21 0 i = if l ≤ i ∧ i < l + n then nI (y (i - l)) else aI S 21 0 i := by
  refine ⟨rfl, rfl, rfl, rfl, rfl, fun k hk => ?_, fun i => ?_⟩
  · funext j i
    exact if_neg (fun z => hk z.1)
  · show (if 21 = 21 ∧ 0 = 0 ∧ l ≤ i ∧ i < l + n then nI (y (i - l)) else aI S 21 0 i) = _
    by_cases c : l ≤ i ∧ i < l + n
    · rw [if_pos ⟨rfl, rfl, c⟩, if_pos c]
    · rw [if_neg (fun z => c z.2.2), if_neg c]
theorem mLet_0 {y : Nat → Nat} {l : Nat} {S : gS} : S = mLet y l 0 S := by
  refine Prod.ext rfl (Prod.ext rfl (Prod.ext ?_ rfl))
  funext k j i
  exact (if_neg (fun z => by omega)).symm
theorem mLet_s {y : Nat → Nat} {l n : Nat} {S : gS} : saI (mLet y l n S) 21 0 (l + n) (nI (y n)) = mLet y l (n + 1) S := by
  refine Prod.ext rfl (Prod.ext rfl (Prod.ext ?_ rfl))
  funext k j i
  show (if k = 21 ∧ j = 0 ∧ i = l + n then nI (y n) else (if k = 21 ∧ j = 0 ∧ l ≤ i ∧ i < l + n then nI (y (i - l)) else aI S k j i)) = if k = 21 ∧ j = 0 ∧ l ≤ i ∧ i < l + (n + 1) then nI (y (i - l)) else aI S k j i
  by_cases c : k = 21 ∧ j = 0 ∧ i = l + n
  · rw [if_pos c, if_pos (by omega), c.2.2, Nat.add_sub_cancel_left]
  · rw [if_neg c]
    by_cases d : k = 21 ∧ j = 0 ∧ l ≤ i ∧ i < l + n
    · rw [if_pos d, if_pos (by omega)]
    · rw [if_neg d, if_neg (fun z => d (by omega))]
def mJobS (S : gS) (y : Nat → Nat) (n : Nat) (rank : Int32) : gS := sfI (sfI (saI (mLet y (61 * n) 61 S) 23 0 n rank) 261 0 0 0) 264 0 0 (nI (n + 1))
theorem Rel_job {C C' S S' : gS} {n : Nat} {rank : Int32} (hR : Rel C S) (hD : TextOk C) (hn : n = jn C) (hn6 : n < 6) (hrd : rd (xc C) 5 0 0 = none) (k : rdK C C') (hI : rIn (xc C) 5 C') (m : fK n S S') (hF : ∀ f, f < 5 → aI S' 22 0 (5 * n + f) = nI (fsx (xc C) f)) : Rel (tJob (sfI C' 229 0 0 (-1)) rank n) (mJobS (sfI (sfI S' 263 0 0 (-1)) 256 0 0 0) (xc C) n rank) := by
  obtain ⟨c1, c2, c3, c4, c5, c6, c7⟩ := mLet_keep (xc C) (61 * n) (sfI (sfI S' 263 0 0 (-1)) 256 0 0 0) 61
  obtain ⟨t1, t2, t3, t4, t5, t6, t7, t8⟩ := tJ_v (C := sfI C' 229 0 0 (-1)) (n := n) (rank := rank)
  have fM : ∀ g x t, g ≠ 264 → g ≠ 261 → fI (mJobS (sfI (sfI S' 263 0 0 (-1)) 256 0 0 0) (xc C) n rank) g x t = fI (sfI (sfI S' 263 0 0 (-1)) 256 0 0 0) g x t := fun g x t h1 h2 => by
    unfold mJobS
    rw [fI_ne h1, fI_ne h2, fI_saI, c1]
  have iM : ∀ q i, (q = 23 → i ≠ n) → aI (mJobS (sfI (sfI S' 263 0 0 (-1)) 256 0 0 0) (xc C) n rank) q 0 i = aI (mLet (xc C) (61 * n) 61 (sfI (sfI S' 263 0 0 (-1)) 256 0 0 0)) q 0 i := fun q i h => by
    unfold mJobS
    rw [aI_sfI, aI_sfI]
    exact aPair (fun z => h z.1 z.2.2)
  refine Rel_jobV (n := n) (L := xl C) (y := xc C) (rank := rank) hR hn hn6 (txE_of hD) hD.2.1 hrd (fun g x t h1 h2 h3 h4 h5 h6 => ?_) t1 ?_ t2 t3 t4 t5 t6 t7 ?_ (fun j hj => ?_) (fun f hf v hv => ?_) (fun i => ?_) (fun g x t h1 h2 h3 h4 => ?_) ?_ ?_ ?_ (fun q i h1 h2 h3 => ?_) ?_ (fun j p hj hp => ?_) (fun p hp => ?_) (fun j f hj hf => ?_) (fun f hf => ?_)
  · rw [tJ_a1 h1 h2 h3 h6, fI_ne h4]
    exact rdK_f k h5
  · rw [tJ_a1 (by omega) (by decide) (by decide) (by decide)]
    exact fI_at
  · rw [t8, fI_new (fun z => by omega), fI_new (fun z => by omega), fI_ne (g' := 130) (g := 229) (by decide), fI_ne (g' := 131) (g := 229) (by decide), hI.2.1 (by decide), hI.2.2 (by decide)]
    refine bIq ?_
    unfold mFr
    generalize decide (xc C (fsx (xc C) 2) = 42) = X
    generalize decide (xc C (fsx (xc C) 4) = 42) = Y
    cases X <;> cases Y <;> decide
  · funext i
    rw [tJ_L, if_neg hj]
    exact k.2.2.2.2.2 12 j i (by omega)
  · rw [tJ_L, if_pos rfl]
    exact hI.1 f hf v hv
  · rw [tJ_I, aI_sfI, k.2.2.2.1]
  · rw [fM g x t h4 h2, fI_ne h1, fI_ne h3, m.2.2.2.2.1]
  · unfold mJobS; rw [fI_ne (g' := 261) (g := 264) (by decide), fI_at]
  · rw [fM 263 0 0 (by decide) (by decide), fI_ne (g' := 263) (g := 256) (by decide), fI_at]
  · unfold mJobS; rw [fI_at]
  · rw [iM q i h3, c6 q h1, aI_sfI, aI_sfI, m.2.2.2.2.2.1 q h2]
  · unfold mJobS; rw [aI_sfI, aI_sfI, aI_at]
  · rw [iM 21 _ (by omega), c7, if_neg (by omega), aI_sfI, aI_sfI, m.2.2.2.2.2.1 21 (by decide)]
  · rw [iM 21 _ (by omega), c7, if_pos (by omega), Nat.add_sub_cancel_left]
  · rw [iM 22 _ (by omega), c6 22 (by decide), aI_sfI, aI_sfI]
    exact m.2.2.2.2.2.2 0 _ (by omega)
  · rw [iM 22 _ (by omega), c6 22 (by decide), aI_sfI, aI_sfI]
    exact hF f hf
set_option maxRecDepth 100000 in
set_option maxHeartbeats 2000000 in
theorem kX8_job {E : gE} {S : gS} {C C1 : gS} {r : Option gV} {rank : Int32} {Q : Option gV → gS → Prop} (hM : ModS S) (hR : Rel C S) (hX : TextOk C) (ho : oJob C rank r C1) (hQ : ∀ T' v, Rel C1 T' → pK S T' → aM [0, 1] r (fI T' 256 0 0) v → Q (some (vI v)) T') : gRun E mX8_job 7 0 0 [vR 8 0 0, vI rank] S [] Q := by
  refine gRun_of (ls := [some (vR 8 0 0), some (vI rank), none]) rfl (Nat.le_of_ble_eq_true rfl) rfl (fun ad => ?_)
  obtain ⟨l8, l20, l21, l22, l23, l24, l25, l26, l27, l28, l29, l30, l31, l32, l33, l34, l35, r262, r265, r266, r267, r268, r269, r270, r271, r272, r273, r274, r275, r276, r277, r278, r280⟩ := id hM
  have hj6 := hR.1.j6
  rcases ho with ⟨hn6, rfl, rfl⟩ | ⟨hn6, C', k, ho⟩
  · skip
    refine g_aload_n (pc' := 1) dX8_job_0 rfl rfl ?_
    refine g_aload_n (pc' := 2) dX8_job_1 rfl rfl ?_
    refine ggX8_98 (pc' := 5) rfl dX8_job_2 rfl l8 ?_
    refine g_bipush (pc' := 7) (v := 6) dX8_job_5 rfl rfl ?_
    refine g_icmp_ne dX8_job_7 (tg := 14) (pc' := 10) (by decide) rfl (fun h7 => absurd (by rw [hR.1.jobs, show jn C1 = 6 by omega]; rfl) h7) (fun h7 => ?_)
    refine g_iconst (pc' := 11) (v := 1) dX8_job_10 rfl rfl ?_
    refine g_goto dX8_job_11 (pc' := 15) (by decide) ?_
    refine gpX8_66 (pc' := 18) rfl dX8_job_15 rfl l8 ?_
    refine g_aload_n (pc' := 19) dX8_job_18 rfl rfl ?_
    refine ggX8_66 (pc' := 22) rfl dX8_job_19 rfl l8 ?_
    rw [fI_at]
    refine g_if_le dX8_job_22 (tg := 27) (pc' := 25) (by decide) rfl (fun h22 => absurd h22 (by decide)) (fun h22 => ?_)
    refine g_iconst (pc' := 26) (v := 0) dX8_job_25 rfl rfl ?_
    refine g_iret dX8_job_26 rfl rfl (Nat.le_of_ble_eq_true rfl) (Nat.le_of_ble_eq_true rfl) ?_
    exact hQ _ 0 hR.code (pK_sfI (by decide)) (aM_t (i := 0) (by decide) rfl)
  · have hTx : TxM (sfI S 256 0 0 0) (xc C) (xl C) := ⟨hR.2.2.1.trans hX.1, hX.2.1, fun p hp => (hR.2.2.2 p hp).trans (hX.2.2 p hp).2.2, txE_of hX⟩
    have hnn : fI (sfI S 256 0 0 0) 264 0 0 = nI (jn C) := hR.1.jobs
    refine g_aload_n (pc' := 1) dX8_job_0 rfl rfl ?_
    refine g_aload_n (pc' := 2) dX8_job_1 rfl rfl ?_
    refine ggX8_98 (pc' := 5) rfl dX8_job_2 rfl l8 ?_
    refine g_bipush (pc' := 7) (v := 6) dX8_job_5 rfl rfl ?_
    refine g_icmp_ne dX8_job_7 (tg := 14) (pc' := 10) (by decide) rfl (fun h7 => ?_) (fun h7 => absurd h7 (fun z => by rw [hR.1.jobs, show (6 : Int32) = nI 6 from rfl, nI_eq (by omega) (by decide)] at z; omega))
    refine g_iconst (pc' := 15) (v := 0) dX8_job_14 rfl rfl ?_
    refine gpX8_66 (pc' := 18) rfl dX8_job_15 rfl l8 ?_
    refine g_aload_n (pc' := 19) dX8_job_18 rfl rfl ?_
    refine ggX8_66 (pc' := 22) rfl dX8_job_19 rfl l8 ?_
    rw [fI_at]
    refine g_if_le dX8_job_22 (tg := 27) (pc' := 25) (by decide) rfl (fun h22 => ?_) (fun h22 => absurd (by decide) h22)
    refine g_aload_n (pc' := 28) dX8_job_27 rfl rfl ?_
    refine g_aload_n (pc' := 29) dX8_job_28 rfl rfl ?_
    refine gcv0 (pc' := 32) cwX8_105 cf8 dX8_job_29 rfl l8 (Nat.le_of_ble_eq_true rfl) (Nat.le_of_ble_eq_true rfl) (Nat.le_of_ble_eq_true rfl) (Nat.le_of_ble_eq_true rfl) (Nat.le_of_ble_eq_true rfl) (kX8_faultOf (x := xc C) (L := xl C) (n := jn C) (hM.of rfl rfl) hTx hnn hn6 ?_)
    intro S' m hF
    have hpk : pK S S' := ⟨m.1, m.2.1, m.2.2.1, m.2.2.2.1, fun g j t hg => by rw [m.2.2.2.2.1, fI_ne (by omega)], fun q hq => by rw [m.2.2.2.2.2.1 q (by omega)]; rfl⟩
    have hM2 : ModS S' := hM.pk hpk
    obtain ⟨l8, l20, l21, l22, l23, -⟩ := id hM2
    have r265 : fR S' 265 0 0 = some (21, 0, 0) := by rw [m.2.1]; exact r265
    have r267 : fR S' 267 0 0 = some (23, 0, 0) := by rw [m.2.1]; exact r267
    rcases ho with ⟨q, hq, hq60, rfl, rfl⟩ | ⟨hq, hI, rfl, rfl⟩
    · rw [hq]
      refine gpX8_17 (pc' := 35) rfl dX8_job_32 rfl l8 ?_
      refine g_aload_n (pc' := 36) dX8_job_35 rfl rfl ?_
      refine g_aload_n (pc' := 37) dX8_job_36 rfl rfl ?_
      refine ggX8_17 (pc' := 40) rfl dX8_job_37 rfl l8 ?_
      rw [fI_at]
      rw [show oI (some q) = nI q from rfl]
      refine g_if_lt dX8_job_40 (tg := 47) (pc' := 43) (by decide) rfl (fun h40 => absurd h40 (nI_pos (by omega))) (fun h40 => ?_)
      refine g_iconst (pc' := 44) (v := 2) dX8_job_43 rfl rfl ?_
      refine g_goto dX8_job_44 (pc' := 48) (by decide) ?_
      refine gpX8_66 (pc' := 51) rfl dX8_job_48 rfl l8 ?_
      refine g_aload_n (pc' := 52) dX8_job_51 rfl rfl ?_
      refine ggX8_66 (pc' := 55) rfl dX8_job_52 rfl l8 ?_
      rw [fI_at]
      refine g_if_le dX8_job_55 (tg := 60) (pc' := 58) (by decide) rfl (fun h55 => absurd h55 (by decide)) (fun h55 => ?_)
      refine g_iconst (pc' := 59) (v := 0) dX8_job_58 rfl rfl ?_
      refine g_iret dX8_job_59 rfl rfl (Nat.le_of_ble_eq_true rfl) (Nat.le_of_ble_eq_true rfl) ?_
      exact hQ _ 0 ((Rel_told (Rel_rd hR.code k m)).code) (((hpk.tr (pK_sfI (by decide))).tr (pK_sfI (by decide)))) (aM_t (i := 1) (by decide) rfl)
    · rw [hq]
      have hnT0 : fI (sfI (sfI S' 263 0 0 (-1)) 256 0 0 0) 264 0 0 = nI (jn C) := by
        rw [fI_ne (g' := 264) (g := 256) (by decide), fI_ne (g' := 264) (g := 263) (by decide), m.2.2.2.2.1]
        exact hnn
      have hLq : ∀ i, i ≤ 61 → True := fun _ _ => trivial
      have LP : ∀ (f i : Nat) (_ : i + f = 61), gG E mX8_job (gBof 7 0 0 ad [] Q) 62 [some (vR 8 0 0), some (vI rank), some (vI (nI i))] [] (mLet (xc C) (61 * jn C) i (sfI (sfI S' 263 0 0 (-1)) 256 0 0 0)) 0 0 := by
        intro f
        induction f with
        | zero =>
          intro i hi
          have e9 : i = 61 := by omega
          subst e9
          obtain ⟨c1, c2, c3, c4, c5, c6, c7⟩ := mLet_keep (xc C) (61 * jn C) (sfI (sfI S' 263 0 0 (-1)) 256 0 0 0) 61
          have hjT : fI (mLet (xc C) (61 * jn C) 61 (sfI (sfI S' 263 0 0 (-1)) 256 0 0 0)) 264 0 0 = nI (jn C) := by rw [c1]; exact hnT0
          have hMT : ModS (mLet (xc C) (61 * jn C) 61 (sfI (sfI S' 263 0 0 (-1)) 256 0 0 0)) := hM2.of c2 c3
          have hpk2 : pK S (mLet (xc C) (61 * jn C) 61 (sfI (sfI S' 263 0 0 (-1)) 256 0 0 0)) := ((hpk.tr (pK_sfI (by decide))).tr (pK_sfI (by decide))).tr ⟨c2, c3, c4, c5, fun g j t _ => by rw [c1], fun q hq => c6 q (by omega)⟩
          have hpk3 : pK S (mJobS (sfI (sfI S' 263 0 0 (-1)) 256 0 0 0) (xc C) (jn C) rank) := ((hpk2.tr (pK_saI (by decide))).tr (pK_sfI (by decide))).tr (pK_sfI (by decide))
          have fin : Q (some (vI (nI (jn C)))) (mJobS (sfI (sfI S' 263 0 0 (-1)) 256 0 0 0) (xc C) (jn C) rank) := hQ _ _ (Rel_job hR.code hX rfl hn6 hq k hI m (hF hq)) hpk3 aM_v
          unfold mJobS at fin
          clear hpk3 hpk2 c1 c2 c3 c4 c5 c6 c7
          generalize mLet (xc C) (61 * jn C) 61 (sfI (sfI S' 263 0 0 (-1)) 256 0 0 0) = TT at *
          obtain ⟨l8, l20, l21, l22, l23, l24, l25, l26, l27, l28, l29, l30, l31, l32, l33, l34, l35, r262, r265, r266, r267, r268, r269, r270, r271, r272, r273, r274, r275, r276, r277, r278, r280⟩ := id hMT
          refine g_iload_n (pc' := 63) dX8_job_62 rfl rfl ?_
          refine g_bipush (pc' := 65) (v := 61) dX8_job_63 rfl rfl ?_
          refine g_icmp_ge dX8_job_65 (tg := 93) (pc' := 68) (by decide) rfl (fun h65 => ?_) (fun h65 => absurd (by decide) h65)
          refine g_aload_n (pc' := 94) dX8_job_93 rfl rfl ?_
          refine ggX8_26 (pc' := 97) rfl dX8_job_94 rfl l8 r267 ?_
          refine g_aload_n (pc' := 98) dX8_job_97 rfl rfl ?_
          refine ggX8_98 (pc' := 101) rfl dX8_job_98 rfl l8 ?_
          refine g_iload_n (pc' := 102) dX8_job_101 rfl rfl ?_
          rw [hjT]
          refine g_iast (pc' := 103) (n := jn C) dX8_job_102 rfl (by decide) rfl rfl (show jn C < 6 by omega) l23 ?_
          refine g_aload_n (pc' := 104) dX8_job_103 rfl rfl ?_
          refine g_iconst (pc' := 105) (v := 0) dX8_job_104 rfl rfl ?_
          refine gpX8_71 (pc' := 108) rfl dX8_job_105 rfl l8 ?_
          refine g_aload_n (pc' := 109) dX8_job_108 rfl rfl ?_
          refine g_aload_n (pc' := 110) dX8_job_109 rfl rfl ?_
          refine ggX8_98 (pc' := 113) rfl dX8_job_110 rfl l8 ?_
          rw [show fI (sfI (saI TT 23 0 (jn C) rank) 261 0 0 0) 264 0 0 = nI (jn C) from (fI_ne (by decide)).trans hjT]
          refine g_iconst (pc' := 114) (v := 1) dX8_job_113 rfl rfl ?_
          refine g_iadd (pc' := 115) dX8_job_114 rfl ?_
          rw [nI_1]
          refine gpX8_98 (pc' := 118) rfl dX8_job_115 rfl l8 ?_
          refine g_aload_n (pc' := 119) dX8_job_118 rfl rfl ?_
          refine ggX8_98 (pc' := 122) rfl dX8_job_119 rfl l8 ?_
          rw [fI_at]
          refine g_iconst (pc' := 123) (v := 1) dX8_job_122 rfl rfl ?_
          refine g_isub (pc' := 124) dX8_job_123 rfl ?_
          rw [nI_m1 (by omega), Nat.add_sub_cancel]
          refine g_iret dX8_job_124 rfl rfl (Nat.le_of_ble_eq_true rfl) (Nat.le_of_ble_eq_true rfl) ?_
          exact fin
        | succ f ih =>
          intro i hi
          obtain ⟨c1, c2, c3, c4, c5, c6, c7⟩ := mLet_keep (xc C) (61 * jn C) (sfI (sfI S' 263 0 0 (-1)) 256 0 0 0) i
          have hjT : fI (mLet (xc C) (61 * jn C) i (sfI (sfI S' 263 0 0 (-1)) 256 0 0 0)) 264 0 0 = nI (jn C) := by rw [c1]; exact hnT0
          have hMT : ModS (mLet (xc C) (61 * jn C) i (sfI (sfI S' 263 0 0 (-1)) 256 0 0 0)) := hM2.of c2 c3
          have hTT : TxM (mLet (xc C) (61 * jn C) i (sfI (sfI S' 263 0 0 (-1)) 256 0 0 0)) (xc C) (xl C) := hTx.of (by rw [c1, fI_ne (g' := 261) (g := 256) (by decide), fI_ne (g' := 261) (g := 263) (by decide), m.2.2.2.2.1]) (by rw [c6 20 (by decide), aI_sfI, aI_sfI, m.2.2.2.2.2.1 20 (by decide)])
          obtain ⟨l8, l20, l21, l22, l23, l24, l25, l26, l27, l28, l29, l30, l31, l32, l33, l34, l35, r262, r265, r266, r267, r268, r269, r270, r271, r272, r273, r274, r275, r276, r277, r278, r280⟩ := id hMT
          refine g_iload_n (pc' := 63) dX8_job_62 rfl rfl ?_
          refine g_bipush (pc' := 65) (v := 61) dX8_job_63 rfl rfl ?_
          refine g_icmp_ge dX8_job_65 (tg := 93) (pc' := 68) (by decide) rfl (fun h65 => absurd h65 (by rw [show (61 : Int32) = nI 61 from rfl, nI_leI (by decide) (by omega)]; omega)) (fun h65 => ?_)
          refine g_aload_n (pc' := 69) dX8_job_68 rfl rfl ?_
          refine ggX8_20 (pc' := 72) rfl dX8_job_69 rfl l8 r265 ?_
          refine g_bipush (pc' := 74) (v := 61) dX8_job_72 rfl rfl ?_
          refine g_aload_n (pc' := 75) dX8_job_74 rfl rfl ?_
          refine ggX8_98 (pc' := 78) rfl dX8_job_75 rfl l8 ?_
          rw [hjT]
          refine g_imul (pc' := 79) dX8_job_78 rfl ?_
          rw [show (61 : Int32) = nI 61 from rfl, pk_mul]
          refine g_iload_n (pc' := 80) dX8_job_79 rfl rfl ?_
          refine g_iadd (pc' := 81) dX8_job_80 rfl ?_
          rw [nI_add]
          refine g_aload_n (pc' := 82) dX8_job_81 rfl rfl ?_
          refine g_iload_n (pc' := 83) dX8_job_82 rfl rfl ?_
          refine gcv1 (pc' := 86) cwX8_74 cf8 dX8_job_83 rfl l8 (Nat.le_of_ble_eq_true rfl) (Nat.le_of_ble_eq_true rfl) (Nat.le_of_ble_eq_true rfl) (Nat.le_of_ble_eq_true rfl) (Nat.le_of_ble_eq_true rfl) (kX8_typedAt hMT hTT (by omega) ?_)
          refine g_iast (pc' := 87) (n := 61 * jn C + i) dX8_job_86 rfl (by decide) rfl rfl (show 61 * jn C + i < 366 by omega) l21 ?_
          refine giinc2 (pc' := 90) (c := 1) dX8_job_87 rfl rfl (Nat.le_of_ble_eq_true rfl) rfl ?_
          refine g_goto dX8_job_90 (pc' := 62) (by decide) ?_
          rw [nI_1]
          refine gG.eqS mLet_s ?_
          exact ih (i + 1) (by omega)
      refine gpX8_17 (pc' := 35) rfl dX8_job_32 rfl l8 ?_
      refine g_aload_n (pc' := 36) dX8_job_35 rfl rfl ?_
      refine g_aload_n (pc' := 37) dX8_job_36 rfl rfl ?_
      refine ggX8_17 (pc' := 40) rfl dX8_job_37 rfl l8 ?_
      rw [fI_at]
      rw [show oI none = -1 from rfl]
      refine g_if_lt dX8_job_40 (tg := 47) (pc' := 43) (by decide) rfl (fun h40 => ?_) (fun h40 => absurd (by decide) h40)
      refine g_iconst (pc' := 48) (v := 0) dX8_job_47 rfl rfl ?_
      refine gpX8_66 (pc' := 51) rfl dX8_job_48 rfl l8 ?_
      refine g_aload_n (pc' := 52) dX8_job_51 rfl rfl ?_
      refine ggX8_66 (pc' := 55) rfl dX8_job_52 rfl l8 ?_
      rw [fI_at]
      refine g_if_le dX8_job_55 (tg := 60) (pc' := 58) (by decide) rfl (fun h55 => ?_) (fun h55 => absurd (by decide) h55)
      refine g_iconst (pc' := 61) (v := 0) dX8_job_60 rfl rfl ?_
      refine gistore_n2 (pc' := 62) dX8_job_61 rfl (Nat.le_of_ble_eq_true rfl) rfl ?_
      refine gG.eqS (mLet_0 (y := xc C) (l := 61 * jn C)) ?_
      exact LP 61 0 rfl

