/-! THE MODEL (5): how the two states belong together; the log -/
def RN (S T : gS) : Prop := fI T 264 0 0 = fI S 228 0 0 ∧ fI T 257 0 0 = fI S 231 0 0 ∧ fI T 258 0 0 = fI S 230 0 0 ∧ fI T 259 0 0 = fI S 232 0 0 ∧ fI T 260 0 0 = fI S 233 0 0 ∧ fI T 263 0 0 = fI S 229 0 0
def LG (S T : gS) : Prop := fI S 97 0 0 = nI (tl S) ∧ fI T 279 0 0 = fI S 97 0 0 ∧ ∀ i, i < 256 → aI T 35 0 i = aI S 13 0 i
def TK (S T : gS) (j t : Nat) : Prop := aI T 32 0 (6 * j + t) = fI S 163 j t ∧ (∃ s, s ≤ 6 ∧ fI S 163 j t = nI s) ∧ aI T 33 0 (6 * j + t) = fI S 164 j t ∧ (∃ n, n < 2 ^ t ∧ fI S 160 j t = nI n ∧ aI T 29 0 (6 * j + t) = nI n) ∧ aI T 30 0 (6 * j + t) = fI S 161 j t ∧ aI T 31 0 (6 * j + t) = fI S 162 j t ∧ (fI S 163 j t = 2 → aI T 34 0 (6 * j + t) = fI S 165 j t)
def JK (S T : gS) (j : Nat) : Prop := aI T 23 0 j = fI S 64 j 0 ∧ aI T 24 0 j = fI S 67 j 0 ∧ aI T 25 0 j = fI S 68 j 0 ∧ (fI S 68 j 0 = 0 ∨ fI S 68 j 0 = 1) ∧ aI T 26 0 j = fI S 69 j 0 ∧ aI T 27 0 j = fI S 70 j 0
def RJ (S T : gS) : Prop := (∀ j, j < jn S → JK S T j ∧ ∀ t, t < jc S j → TK S T j t) ∧ (∀ j t, j < 6 → t < 6 → (jn S ≤ j ∨ jc S j ≤ t) → aI T 32 0 (6 * j + t) = 0 ∧ aI T 33 0 (6 * j + t) = 0) ∧ ∀ j, jn S ≤ j → j < 6 → aI T 24 0 j = 0 ∧ aI T 25 0 j = 0 ∧ aI T 26 0 j = 0 ∧ aI T 27 0 j = 0
def RB (S : gS) : Prop := fI S 228 0 0 = nI (jn S) ∧ jn S ≤ 6 ∧ ∀ j, j < jn S → fI S 67 j 0 = nI (jc S j) ∧ jc S j ≤ 6
def R0 (S T : gS) : Prop := RN S T ∧ LG S T ∧ RJ S T ∧ RB S
def mkA (k : Nat) : Bool := [25, 26, 27, 32, 33, 34, 35].contains k
def mkB (k : Nat) : Bool := [25, 26, 27, 28, 32, 33, 34, 35].contains k
def mkF (g : Nat) : Bool := [279, 281, 282, 283].contains g
/-- what a run's part of the model keeps -/
def mK (T T' : gS) : Prop := gL T' = gL T ∧ fR T' = fR T ∧ aR T' = aR T ∧ aL T' = aL T ∧ (∀ g j t, mkF g = false → fI T' g j t = fI T g j t) ∧ ∀ k, mkA k = false → aI T' k = aI T k
theorem mK.rf {T : gS} : mK T T := ⟨rfl, rfl, rfl, rfl, fun _ _ _ _ => rfl, fun _ _ => rfl⟩
theorem mK.tr {S S1 S2 : gS} (h : mK S S1) (h2 : mK S1 S2) : mK S S2 := by
  obtain ⟨a1, a2, a3, a4, a5, a6⟩ := h
  obtain ⟨b1, b2, b3, b4, b5, b6⟩ := h2
  exact ⟨b1.trans a1, b2.trans a2, b3.trans a3, b4.trans a4, fun g j t hg => (b5 g j t hg).trans (a5 g j t hg), fun k hk => (b6 k hk).trans (a6 k hk)⟩
theorem mK_sfI {S : gS} {g j t : Nat} {v : Int32} (hg : mkF g = true) : mK S (sfI S g j t v) := ⟨rfl, rfl, rfl, rfl, (fun g' j' t' h => by
  rw [fI_sfI, if_neg]
  rintro ⟨rfl, -⟩
  rw [hg] at h
  cases h), fun _ _ => rfl⟩
theorem mK_saI {S : gS} {k j i : Nat} {v : Int32} (hk : mkA k = true) : mK S (saI S k j i v) := ⟨rfl, rfl, rfl, rfl, fun _ _ _ _ => rfl, fun k' h => by
  funext j' i'
  rw [aI_saI, if_neg]
  rintro ⟨rfl, -⟩
  rw [hk] at h
  cases h⟩
theorem mK_tMD {S : gS} {w : Nat} : mK S (tMD S w) := ((mK_sfI rfl).tr (mK_sfI rfl)).tr (mK_sfI rfl)
theorem mK_dK {S S' : gS} (h : dK S S') : mK S S' := by
  rcases h with rfl | ⟨w, rfl⟩
  · exact mK.rf
  · exact mK_tMD
theorem ModS.mk {S S' : gS} (h : ModS S) (k : mK S S') : ModS S' := h.of k.1 k.2.1
/-- what coming up keeps of it -/
def mK2 (T T' : gS) : Prop := gL T' = gL T ∧ fR T' = fR T ∧ aR T' = aR T ∧ aL T' = aL T ∧ (∀ g j t, mkF g = false → fI T' g j t = fI T g j t) ∧ ∀ k, mkB k = false → aI T' k = aI T k
theorem mK.to2 {S S' : gS} (h : mK S S') : mK2 S S' := ⟨h.1, h.2.1, h.2.2.1, h.2.2.2.1, h.2.2.2.2.1, fun k hk => h.2.2.2.2.2 k (by
  cases e : mkA k with
  | false => rfl
  | true =>
    simp only [mkA, mkB, List.contains_eq_mem, List.mem_cons, List.not_mem_nil, or_false, decide_eq_true_eq, decide_eq_false_iff_not] at e hk
    omega)⟩
theorem mK2.tr {S S1 S2 : gS} (h : mK2 S S1) (h2 : mK2 S1 S2) : mK2 S S2 := by
  obtain ⟨a1, a2, a3, a4, a5, a6⟩ := h
  obtain ⟨b1, b2, b3, b4, b5, b6⟩ := h2
  exact ⟨b1.trans a1, b2.trans a2, b3.trans a3, b4.trans a4, fun g j t hg => (b5 g j t hg).trans (a5 g j t hg), fun k hk => (b6 k hk).trans (a6 k hk)⟩
theorem mK2_28 {S : gS} {j i : Nat} {v : Int32} : mK2 S (saI S 28 j i v) := ⟨rfl, rfl, rfl, rfl, fun _ _ _ _ => rfl, fun k' h => by
  funext j' i'
  rw [aI_saI, if_neg]
  rintro ⟨rfl, -⟩
  cases h⟩
theorem ModS.mk2 {S S' : gS} (h : ModS S) (k : mK2 S S') : ModS S' := h.of k.1 k.2.1
theorem XM.mk2 {S S' : gS} {j L : Nat} {y : Nat → Nat} (h : XM S j y L) (k : mK2 S S') : XM S' j y L := by
  unfold XM LtM at *; rw [k.2.2.2.2.2 21 rfl, k.2.2.2.2.2 22 rfl]; exact h
theorem XM.mk {S S' : gS} {j L : Nat} {y : Nat → Nat} (h : XM S j y L) (k : mK S S') : XM S' j y L := by
  unfold XM LtM at *; rw [k.2.2.2.2.2 21 rfl, k.2.2.2.2.2 22 rfl]; exact h
theorem TK.of {S S' T T' : gS} {j t : Nat} (h : TK S T j t) (a : ∀ g, 160 ≤ g → g < 166 → fI S' g j t = fI S g j t) (b : ∀ k, 29 ≤ k → k < 35 → aI T' k 0 (6 * j + t) = aI T k 0 (6 * j + t)) : TK S' T' j t := by
  unfold TK at *
  rw [a 160 (by omega) (by omega), a 161 (by omega) (by omega), a 162 (by omega) (by omega), a 163 (by omega) (by omega), a 164 (by omega) (by omega), a 165 (by omega) (by omega), b 29 (by omega) (by omega), b 30 (by omega) (by omega), b 31 (by omega) (by omega), b 32 (by omega) (by omega), b 33 (by omega) (by omega), b 34 (by omega) (by omega)]
  exact h
theorem JK.of {S S' T T' : gS} {j : Nat} (h : JK S T j) (a : ∀ g, 64 ≤ g → g < 71 → fI S' g j 0 = fI S g j 0) (b : ∀ k, 23 ≤ k → k < 28 → aI T' k 0 j = aI T k 0 j) : JK S' T' j := by
  unfold JK at *
  rw [a 64 (by omega) (by omega), a 67 (by omega) (by omega), a 68 (by omega) (by omega), a 69 (by omega) (by omega), a 70 (by omega) (by omega), b 23 (by omega) (by omega), b 24 (by omega) (by omega), b 25 (by omega) (by omega), b 26 (by omega) (by omega), b 27 (by omega) (by omega)]
  exact h
theorem RJ.up {S S' T T' : gS} {j0 : Nat} (h : RJ S T) (hB : RB S) (hj0 : j0 < jn S) (en : jn S' = jn S) (ec : ∀ j, jc S' j = jc S j)
    (a : ∀ g j t, j ≠ j0 → g < 192 → g ≠ 97 → fI S' g j t = fI S g j t) (b : ∀ k i, 23 ≤ k → k < 28 → i ≠ j0 → aI T' k 0 i = aI T k 0 i)
    (c : ∀ k i, 29 ≤ k → k < 35 → (∀ t, t < jc S j0 → i ≠ 6 * j0 + t) → aI T' k 0 i = aI T k 0 i) (d : JK S' T' j0) (e : ∀ t, t < jc S j0 → TK S' T' j0 t) : RJ S' T' := by
  obtain ⟨h1, h2, h3⟩ := h
  obtain ⟨b1, b2, b3⟩ := hB
  have hc0 := (b3 j0 hj0).2
  refine ⟨fun j hj => ?_, fun j t hj ht hz => ?_, fun j hj hj6 => ?_⟩
  · rw [en] at hj
    rw [ec]
    by_cases q : j = j0
    · subst q; exact ⟨d, e⟩
    · have hcj := (b3 j hj).2
      exact ⟨(h1 j hj).1.of (fun g _ h9 => a g j 0 q (by omega) (by omega)) (fun k h8 h9 => b k j h8 h9 q), fun t ht => ((h1 j hj).2 t ht).of (fun g h8 h9 => a g j t q (by omega) (by omega)) (fun k h8 h9 => c k _ h8 h9 (fun t' ht' => by omega))⟩
  · rw [en, ec] at hz
    have hni : ∀ t', t' < jc S j0 → 6 * j + t ≠ 6 * j0 + t' := fun t' ht' => by
      by_cases q : j = j0
      · subst q; omega
      · omega
    rw [c 32 _ (by decide) (by decide) hni, c 33 _ (by decide) (by decide) hni]
    exact h2 j t hj ht hz
  · rw [en] at hj
    rw [b 24 j (by decide) (by decide) (by omega), b 25 j (by decide) (by decide) (by omega), b 26 j (by decide) (by decide) (by omega), b 27 j (by decide) (by decide) (by omega)]
    exact h3 j hj hj6
theorem RJ.task {S S' T T' : gS} {j0 t0 : Nat} (h : RJ S T) (hB : RB S) (hj0 : j0 < jn S) (ht0 : t0 < jc S j0) (en : jn S' = jn S)
    (a : ∀ g j t, g < 192 → g ≠ 97 → ¬ (160 ≤ g ∧ j = j0 ∧ t = t0) → fI S' g j t = fI S g j t) (c : ∀ k i, 23 ≤ k → k < 35 → ¬ (29 ≤ k ∧ i = 6 * j0 + t0) → aI T' k 0 i = aI T k 0 i) (e : TK S' T' j0 t0) : RJ S' T' := by
  have ec : ∀ j, jc S' j = jc S j := fun j => by unfold jc; rw [a 67 j 0 (by decide) (by decide) (fun z => by omega)]
  refine RJ.up h hB hj0 en ec (fun g j t hj h8 h9 => a g j t h8 h9 (fun z => hj z.2.1)) (fun k i h8 h9 hi => c k i h8 (by omega) (fun z => by omega)) (fun k i h8 h9 hi => c k i (by omega) h9 (fun z => hi t0 ht0 z.2)) ((h.1 j0 hj0).1.of (fun g h8 h9 => a g j0 0 (by omega) (by omega) (fun z => by omega)) (fun k h8 h9 => c k j0 h8 (by omega) (fun z => by omega))) (fun t ht => ?_)
  by_cases q : t = t0
  · subst q; exact e
  · exact ((h.1 j0 hj0).2 t ht).of (fun g h8 h9 => a g j0 t (by omega) (by omega) (fun z => q z.2.2)) (fun k h8 h9 => c k _ (by omega) h9 (fun z => by omega))
theorem RJ.job {S S' T T' : gS} {j0 : Nat} (h : RJ S T) (hB : RB S) (hj0 : j0 < jn S) (en : jn S' = jn S)
    (a : ∀ g j t, g < 192 → g ≠ 97 → ¬ (68 ≤ g ∧ g ≤ 70 ∧ j = j0 ∧ t = 0) → fI S' g j t = fI S g j t) (c : ∀ k i, 23 ≤ k → k < 35 → ¬ (25 ≤ k ∧ k ≤ 27 ∧ i = j0) → aI T' k 0 i = aI T k 0 i)
    (d : aI T' 25 0 j0 = fI S' 68 j0 0 ∧ (fI S' 68 j0 0 = 0 ∨ fI S' 68 j0 0 = 1) ∧ aI T' 26 0 j0 = fI S' 69 j0 0 ∧ aI T' 27 0 j0 = fI S' 70 j0 0) : RJ S' T' := by
  have ec : ∀ j, jc S' j = jc S j := fun j => by unfold jc; rw [a 67 j 0 (by decide) (by decide) (fun z => by omega)]
  refine RJ.up h hB hj0 en ec (fun g j t hj h8 h9 => a g j t h8 h9 (fun z => hj z.2.2.1)) (fun k i h8 h9 hi => c k i h8 (by omega) (fun z => hi z.2.2)) (fun k i h8 h9 hi => c k i (by omega) h9 (fun z => by omega)) ?_ (fun t ht => ((h.1 j0 hj0).2 t ht).of (fun g h8 h9 => a g j0 t (by omega) (by omega) (fun z => by omega)) (fun k h8 h9 => c k _ (by omega) h9 (fun z => by omega)))
  obtain ⟨q1, q2, -⟩ := (h.1 j0 hj0).1
  exact ⟨by rw [c 23 j0 (by decide) (by decide) (fun z => by omega), a 64 j0 0 (by decide) (by decide) (fun z => by omega)]; exact q1, by rw [c 24 j0 (by decide) (by decide) (fun z => by omega), a 67 j0 0 (by decide) (by decide) (fun z => by omega)]; exact q2, d⟩
theorem RJ.same {S S' T T' : gS} (h : RJ S T) (en : jn S' = jn S) (a : ∀ g j t, g < 192 → g ≠ 97 → fI S' g j t = fI S g j t) (c : ∀ k i, 23 ≤ k → k < 35 → aI T' k 0 i = aI T k 0 i) : RJ S' T' := by
  have ec : ∀ j, jc S' j = jc S j := fun j => by unfold jc; rw [a 67 j 0 (by decide) (by decide)]
  obtain ⟨h1, h2, h3⟩ := h
  refine ⟨fun j hj => ?_, fun j t hj ht hz => ?_, fun j hj hj6 => ?_⟩
  · rw [en] at hj
    rw [ec]
    exact ⟨(h1 j hj).1.of (fun g h8 h9 => a g j 0 (by omega) (by omega)) (fun k h8 h9 => c k j h8 (by omega)), fun t ht => ((h1 j hj).2 t ht).of (fun g h8 h9 => a g j t (by omega) (by omega)) (fun k h8 h9 => c k _ (by omega) h9)⟩
  · rw [en, ec] at hz
    rw [c 32 _ (by decide) (by decide), c 33 _ (by decide) (by decide)]
    exact h2 j t hj ht hz
  · rw [en] at hj
    rw [c 24 j (by decide) (by decide), c 25 j (by decide) (by decide), c 26 j (by decide) (by decide), c 27 j (by decide) (by decide)]
    exact h3 j hj hj6
theorem RB.keep {S S' : gS} (h : RB S) (k : tKeep d2 S S') : RB S' := by
  have ej := tKeep_jn k
  obtain ⟨h1, h2, h3⟩ := h
  refine ⟨by rw [ej, k.2.2.2.2.1 228 0 0 rfl]; exact h1, by rw [ej]; exact h2, fun j hj => ?_⟩
  rw [ej] at hj
  rw [tKeep_jc k, k.2.2.2.2.1 67 j 0 rfl]
  exact h3 j hj
theorem RB.go {S S' : gS} {b : Nat} (h : RB S) (k : tGo d0 b S S') : RB S' := h.keep (k.1.up (fun _ z => d12 (d01 z)))
theorem RB.go1 {S S' : gS} {b : Nat} (h : RB S) (k : tGo d1 b S S') : RB S' := h.keep (k.1.up (fun _ z => d12 z))
theorem RN.of {S S' T T' : gS} (h : RN S T) (k : tKeep d1 S S') (m : mK T T') : RN S' T' := by
  unfold RN at *
  rw [k.2.2.2.2.1 228 0 0 rfl, k.2.2.2.2.1 231 0 0 rfl, k.2.2.2.2.1 230 0 0 rfl, k.2.2.2.2.1 232 0 0 rfl, k.2.2.2.2.1 233 0 0 rfl, k.2.2.2.2.1 229 0 0 rfl, m.2.2.2.2.1 264 0 0 rfl, m.2.2.2.2.1 257 0 0 rfl, m.2.2.2.2.1 258 0 0 rfl, m.2.2.2.2.1 259 0 0 rfl, m.2.2.2.2.1 260 0 0 rfl, m.2.2.2.2.1 263 0 0 rfl]
  exact h
theorem LG.of {S S' T T' : gS} (h : LG S T) (a : fI S' 97 0 0 = fI S 97 0 0) (b : aI S' 13 = aI S 13) (c : fI T' 279 0 0 = fI T 279 0 0) (d : aI T' 35 = aI T 35) : LG S' T' := by
  unfold LG tl at *
  rw [a, b, c, d]; exact h
/-- a row of the model's log -/
def tLM (T : gS) (n : Nat) (k m j t : Int32) : gS := sfI (saI (saI (saI (saI T 35 0 (n % 64 * 4) k) 35 0 (n % 64 * 4 + 1) m) 35 0 (n % 64 * 4 + 2) j) 35 0 (n % 64 * 4 + 3) t) 279 0 0 (nI (n + 1))
theorem tLM_mK {T : gS} {n : Nat} {k m j t : Int32} : mK T (tLM T n k m j t) := (((((mK_saI rfl).tr (mK_saI rfl)).tr (mK_saI rfl)).tr (mK_saI rfl)).tr (mK_sfI rfl))
theorem tLM_a {T : gS} {n : Nat} {k m j t : Int32} {q : Nat} (h : q ≠ 35) : aI (tLM T n k m j t) q = aI T q := by
  funext j' i'
  simp only [tLM, aI_sfI, aI_saI]
  rw [if_neg (fun z => h z.1), if_neg (fun z => h z.1), if_neg (fun z => h z.1), if_neg (fun z => h z.1)]
theorem tLogS_f {S : gS} {k m j t : Int32} {g a b : Nat} (h : g ≠ 97) : fI (tLogS S k m j t) g a b = fI S g a b := by
  simp only [tLogS, tLog, fI_sfI, fI_saI]
  rw [if_neg (fun z => h z.1)]
theorem tLogS_13 {S : gS} {k m j t : Int32} (i : Nat) : aI (tLogS S k m j t) 13 0 i = if i = tl S % 64 * 4 + 3 then t else if i = tl S % 64 * 4 + 2 then j else if i = tl S % 64 * 4 + 1 then m else if i = tl S % 64 * 4 then k else aI S 13 0 i := by
  simp only [tLogS, tLog, aI_sfI, aI_saI, true_and]
theorem tLM_35 {S : gS} {n : Nat} {k m j t : Int32} (i : Nat) : aI (tLM S n k m j t) 35 0 i = if i = n % 64 * 4 + 3 then t else if i = n % 64 * 4 + 2 then j else if i = n % 64 * 4 + 1 then m else if i = n % 64 * 4 then k else aI S 35 0 i := by
  simp only [tLM, aI_sfI, aI_saI, true_and]
theorem LG.note {S T : gS} {k m j t : Int32} (h : LG S T) (hb : tl S + 1 < 2 ^ 31) : LG (tLogS S k m j t) (tLM T (tl S) k m j t) := by
  have e : fI (tLogS S k m j t) 97 0 0 = nI (tl S + 1) := rfl
  refine ⟨?_, ?_, fun i hi => ?_⟩
  · rw [tl, e, nI_clamp hb]
  · rw [e]; rfl
  · rw [tLogS_13, tLM_35, h.2.2 i hi]
theorem R0.note {S T : gS} {k m j t : Int32} (h : R0 S T) (hb : tl S + 1 < 2 ^ 31) : R0 (tLogS S k m j t) (tLM T (tl S) k m j t) :=
  ⟨h.1.of (tLogS_go.1.up (fun _ z => d01 z)) tLM_mK, h.2.1.note hb, h.2.2.1.same (tKeep_jn (tLogS_go.1.up (fun _ z => d12 (d01 z)))) (fun g j t _ h9 => tLogS_f h9) (fun k i _ h9 => by rw [tLM_a (by omega)]), h.2.2.2.go tLogS_go⟩
theorem tl_note {S : gS} {k m j t : Int32} (hb : tl S + 1 < 2 ^ 31) : tl (tLogS S k m j t) = tl S + 1 := by
  rw [tl, show fI (tLogS S k m j t) 97 0 0 = nI (tl S + 1) from rfl, nI_clamp hb]
set_option maxRecDepth 100000 in
set_option maxHeartbeats 2000000 in
theorem kX8_note {E : gE} {S : gS} {n : Nat} {k j t : Int32} {Q : Option gV → gS → Prop} (hM : ModS S) (hn : fI S 279 0 0 = nI n) (hb : n < 2 ^ 30) (hQ : Q none (tLM S n k (fI S 257 0 0) j t)) : gRun E mX8_note 1 0 0 [vR 8 0 0, vI k, vI j, vI t] S [] Q := by
  refine gRun_of (ls := [some (vR 8 0 0), some (vI k), some (vI j), some (vI t), none]) rfl (Nat.le_of_ble_eq_true rfl) rfl (fun ad => ?_)
  obtain ⟨l8, l20, l21, l22, l23, l24, l25, l26, l27, l28, l29, l30, l31, l32, l33, l34, l35, r262, r265, r266, r267, r268, r269, r270, r271, r272, r273, r274, r275, r276, r277, r278, r280⟩ := id hM
  refine g_iconst (pc' := 1) (v := 4) dX8_note_0 rfl rfl ?_
  refine g_aload_n (pc' := 2) dX8_note_1 rfl rfl ?_
  refine ggX8_170 (pc' := 5) rfl dX8_note_2 rfl l8 ?_
  rw [hn]
  refine g_bipush (pc' := 7) (v := 64) dX8_note_5 rfl rfl ?_
  refine g_irem (pc' := 8) dX8_note_7 rfl (by decide) ?_
  rw [show (64 : Int32) = nI 64 from rfl, nI_rem (by omega) (by decide) (by decide)]
  refine g_imul (pc' := 9) dX8_note_8 rfl ?_
  rw [show (4 : Int32) = nI 4 from rfl, pk_mul, Nat.mul_comm 4]
  refine gistore4 (pc' := 11) dX8_note_9 rfl (Nat.le_of_ble_eq_true rfl) rfl ?_
  refine g_aload_n (pc' := 12) dX8_note_11 rfl rfl ?_
  refine ggX8_63 (pc' := 15) rfl dX8_note_12 rfl l8 r280 ?_
  refine g_iload (pc' := 17) dX8_note_15 rfl rfl ?_
  refine g_iload_n (pc' := 18) dX8_note_17 rfl rfl ?_
  refine g_iast (pc' := 19) (n := n % 64 * 4) dX8_note_18 rfl (by decide) rfl rfl (show n % 64 * 4 < 256 by omega) l35 ?_
  refine g_aload_n (pc' := 20) dX8_note_19 rfl rfl ?_
  refine ggX8_63 (pc' := 23) rfl dX8_note_20 rfl l8 r280 ?_
  refine g_iload (pc' := 25) dX8_note_23 rfl rfl ?_
  refine g_iconst (pc' := 26) (v := 1) dX8_note_25 rfl rfl ?_
  refine g_iadd (pc' := 27) dX8_note_26 rfl ?_
  rw [nI_1]
  refine g_aload_n (pc' := 28) dX8_note_27 rfl rfl ?_
  refine ggX8_173 (pc' := 31) rfl dX8_note_28 rfl l8 ?_
  rw [show fI (saI S 35 0 (n % 64 * 4) k) 257 0 0 = fI S 257 0 0 from rfl]
  refine g_iast (pc' := 32) (n := n % 64 * 4 + 1) dX8_note_31 rfl (by decide) rfl rfl (show n % 64 * 4 + 1 < 256 by omega) l35 ?_
  refine g_aload_n (pc' := 33) dX8_note_32 rfl rfl ?_
  refine ggX8_63 (pc' := 36) rfl dX8_note_33 rfl l8 r280 ?_
  refine g_iload (pc' := 38) dX8_note_36 rfl rfl ?_
  refine g_iconst (pc' := 39) (v := 2) dX8_note_38 rfl rfl ?_
  refine g_iadd (pc' := 40) dX8_note_39 rfl ?_
  rw [show (2 : Int32) = nI 2 from rfl, nI_add]
  refine g_iload_n (pc' := 41) dX8_note_40 rfl rfl ?_
  refine g_iast (pc' := 42) (n := n % 64 * 4 + 2) dX8_note_41 rfl (by decide) rfl rfl (show n % 64 * 4 + 2 < 256 by omega) l35 ?_
  refine g_aload_n (pc' := 43) dX8_note_42 rfl rfl ?_
  refine ggX8_63 (pc' := 46) rfl dX8_note_43 rfl l8 r280 ?_
  refine g_iload (pc' := 48) dX8_note_46 rfl rfl ?_
  refine g_iconst (pc' := 49) (v := 3) dX8_note_48 rfl rfl ?_
  refine g_iadd (pc' := 50) dX8_note_49 rfl ?_
  rw [show (3 : Int32) = nI 3 from rfl, nI_add]
  refine g_iload_n (pc' := 51) dX8_note_50 rfl rfl ?_
  refine g_iast (pc' := 52) (n := n % 64 * 4 + 3) dX8_note_51 rfl (by decide) rfl rfl (show n % 64 * 4 + 3 < 256 by omega) l35 ?_
  refine g_aload_n (pc' := 53) dX8_note_52 rfl rfl ?_
  refine g_aload_n (pc' := 54) dX8_note_53 rfl rfl ?_
  refine ggX8_170 (pc' := 57) rfl dX8_note_54 rfl l8 ?_
  rw [show fI (saI (saI (saI (saI S 35 0 (n % 64 * 4) k) 35 0 (n % 64 * 4 + 1) (fI S 257 0 0)) 35 0 (n % 64 * 4 + 2) j) 35 0 (n % 64 * 4 + 3) t) 279 0 0 = nI n from hn]
  refine g_iconst (pc' := 58) (v := 1) dX8_note_57 rfl rfl ?_
  refine g_iadd (pc' := 59) dX8_note_58 rfl ?_
  rw [nI_1]
  refine gpX8_170 (pc' := 62) rfl dX8_note_59 rfl l8 ?_
  refine g_vret dX8_note_62 rfl (Nat.le_of_ble_eq_true rfl) (Nat.le_of_ble_eq_true rfl) ?_
  exact hQ

