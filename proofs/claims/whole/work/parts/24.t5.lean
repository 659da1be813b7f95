/-! THE CLASS (5): the desk as a whole; what stays; small private methods -/
def jn (S : gS) : Nat := (fI S 228 0 0).toNatClampNeg
def jc (S : gS) (j : Nat) : Nat := (fI S 67 j 0).toNatClampNeg
def tl (S : gS) : Nat := (fI S 97 0 0).toNatClampNeg
def DeskS (S : gS) : Prop := lv S 7 0 0 ∧ lv S 4 0 0 ∧ lv S 6 0 0 ∧ lv S 0 0 0 ∧ lv S 3 0 0 ∧ lv S 10 0 0 ∧ lv S 11 0 0 ∧ lv S 13 0 0 ∧ lv S 14 0 0 ∧ fR S 224 0 0 = some (4, 0, 0) ∧ fR S 225 0 0 = some (0, 0, 0) ∧ fR S 226 0 0 = some (3, 0, 0) ∧ fR S 227 0 0 = some (14, 0, 0) ∧ fR S 128 0 0 = some (6, 0, 0) ∧ fR S 129 0 0 = some (11, 0, 0) ∧ fR S 192 0 0 = some (10, 0, 0) ∧ fR S 96 0 0 = some (13, 0, 0)
def DeskOk (S : gS) : Prop := DeskS S ∧ fI S 228 0 0 = nI (jn S) ∧ jn S ≤ 6 ∧ ∀ j, j < jn S → JobOk S j (jc S j) ∧ aR S 14 0 j = some (2, j, 0) ∧ lv S 1 j 0 ∧ lv S 12 j 0 ∧ fR S 65 j 0 = some (1, j, 0) ∧ fR S 32 j 0 = some (12, j, 0)
/-- the fields that may change: d0 in runs, d1 with the calendar's leaf, d2 with the desk's own numbers -/
def d0 (g : Nat) : Bool := [68, 69, 70, 97, 163, 164, 165].contains g
def d1 (g : Nat) : Bool := [68, 69, 70, 97, 163, 164, 165, 0, 1, 2, 3].contains g
def d2 (g : Nat) : Bool := [68, 69, 70, 97, 163, 164, 165, 0, 1, 2, 3, 229, 230, 231, 232, 233].contains g
theorem d01 {g : Nat} (h : d0 g = true) : d1 g = true := by
  simp only [d0, d1, List.contains_iff_mem] at *
  exact List.mem_append_left [0, 1, 2, 3] h
theorem d12 {g : Nat} (h : d1 g = true) : d2 g = true := by
  simp only [d1, d2, List.contains_iff_mem] at *
  exact List.mem_append_left [229, 230, 231, 232, 233] h
def tKeep (d : Nat → Bool) (S S' : gS) : Prop := gL S' = gL S ∧ fR S' = fR S ∧ aR S' = aR S ∧ aL S' = aL S ∧ (∀ g j t, d g = false → fI S' g j t = fI S g j t) ∧ ∀ k, k ≠ 13 → aI S' k = aI S k
theorem tKeep.rf {d : Nat → Bool} {S : gS} : tKeep d S S := ⟨rfl, rfl, rfl, rfl, fun _ _ _ _ => rfl, fun _ _ => rfl⟩
theorem tKeep.tr {d : Nat → Bool} {S S1 S2 : gS} (h : tKeep d S S1) (h2 : tKeep d S1 S2) : tKeep d S S2 := by
  obtain ⟨a1, a2, a3, a4, a5, a6⟩ := h
  obtain ⟨b1, b2, b3, b4, b5, b6⟩ := h2
  exact ⟨b1.trans a1, b2.trans a2, b3.trans a3, b4.trans a4, fun g j t hg => (b5 g j t hg).trans (a5 g j t hg), fun k hk => (b6 k hk).trans (a6 k hk)⟩
theorem tKeep.up {d d' : Nat → Bool} {S S1 : gS} (h : tKeep d S S1) (hd : ∀ g, d g = true → d' g = true) : tKeep d' S S1 := ⟨h.1, h.2.1, h.2.2.1, h.2.2.2.1, fun g j t hg => h.2.2.2.2.1 g j t (by
  cases e : d g with
  | false => rfl
  | true => rw [hd g e] at hg; cases hg), h.2.2.2.2.2⟩
theorem tKeep_sfI {d : Nat → Bool} {S : gS} {g j t : Nat} {v : Int32} (hg : d g = true) : tKeep d S (sfI S g j t v) := ⟨rfl, rfl, rfl, rfl, (fun g' j' t' h => by
  rw [fI_sfI, if_neg]
  rintro ⟨rfl, -⟩
  rw [hg] at h
  cases h), fun _ _ => rfl⟩
theorem tKeep_saI {d : Nat → Bool} {S : gS} {j i : Nat} {v : Int32} : tKeep d S (saI S 13 j i v) := ⟨rfl, rfl, rfl, rfl, fun _ _ _ _ => rfl, fun k hk => by
  funext j' i'
  rw [aI_saI, if_neg (fun z => hk z.1)]⟩
theorem JobOk.keep {d : Nat → Bool} {S S' : gS} {j c : Nat} (h : JobOk S j c) (k : tKeep d S S') (hd : d 67 = false) : JobOk S' j c := by
  obtain ⟨a1, a2, a3, a4, a5, a6⟩ := h
  obtain ⟨b1, b2, b3, b4, b5, b6⟩ := k
  exact ⟨by rw [lv, b1]; exact a1, by rw [lv, b1]; exact a2, by rw [b2]; exact a3, by rw [b5 67 j 0 hd]; exact a4, a5, fun t ht => ⟨by rw [lv, b1]; exact (a6 t ht).1, by rw [b3]; exact (a6 t ht).2⟩⟩
theorem DeskS.keep {S S' : gS} (h : DeskS S) (k1 : gL S' = gL S) (k2 : fR S' = fR S) : DeskS S' := by
  unfold DeskS lv at *
  rw [k1, k2]
  exact h
theorem tKeep_jn {S S' : gS} (k : tKeep d2 S S') : jn S' = jn S := by
  unfold jn; rw [k.2.2.2.2.1 228 0 0 rfl]
theorem tKeep_jc {S S' : gS} (k : tKeep d2 S S') (j : Nat) : jc S' j = jc S j := by
  unfold jc; rw [k.2.2.2.2.1 67 j 0 rfl]
theorem DeskOk.keep {S S' : gS} (h : DeskOk S) (k : tKeep d2 S S') : DeskOk S' := by
  obtain ⟨a1, a2, a3, a4⟩ := h
  obtain ⟨b1, b2, b3, b4, b5, b6⟩ := id k
  refine ⟨a1.keep b1 b2, by rw [tKeep_jn k, b5 228 0 0 rfl]; exact a2, by rw [tKeep_jn k]; exact a3, fun j hj => ?_⟩
  rw [tKeep_jn k] at hj
  obtain ⟨c1, c2, c3, c4, c5, c6⟩ := a4 j hj
  exact ⟨by rw [tKeep_jc k]; exact c1.keep k rfl, by rw [b3]; exact c2, by rw [lv, b1]; exact c3, by rw [lv, b1]; exact c4, by rw [b2]; exact c5, by rw [b2]; exact c6⟩
/-- .. and the log grows by at most b -/
def tGo (d : Nat → Bool) (b : Nat) (S S' : gS) : Prop := tKeep d S S' ∧ ∀ x, fI S 97 0 0 = nI x → x + b < 2 ^ 30 → ∃ y, fI S' 97 0 0 = nI y ∧ x ≤ y ∧ y ≤ x + b
theorem tGo.rf {d : Nat → Bool} {b : Nat} {S : gS} : tGo d b S S := ⟨tKeep.rf, fun x h _ => ⟨x, h, Nat.le_refl _, Nat.le_add_right _ _⟩⟩
theorem tGo.tr {d : Nat → Bool} {a b : Nat} {S S1 S2 : gS} (h : tGo d a S S1) (h2 : tGo d b S1 S2) : tGo d (a + b) S S2 := ⟨h.1.tr h2.1, fun x hx hb => by
  obtain ⟨y, e1, e2, e3⟩ := h.2 x hx (by omega)
  obtain ⟨z, f1, f2, f3⟩ := h2.2 y e1 (by omega)
  exact ⟨z, f1, by omega, by omega⟩⟩
theorem tGo.up {d d' : Nat → Bool} {a b : Nat} {S S1 : gS} (h : tGo d a S S1) (hab : a ≤ b) (hd : ∀ g, d g = true → d' g = true) : tGo d' b S S1 := ⟨h.1.up hd, fun x hx hb => by
  obtain ⟨y, e1, e2, e3⟩ := h.2 x hx (by omega)
  exact ⟨y, e1, e2, by omega⟩⟩
theorem tGo.le {d : Nat → Bool} {a b : Nat} {S S1 : gS} (h : tGo d a S S1) (hab : a ≤ b) : tGo d b S S1 := h.up hab (fun _ z => z)
theorem tGo_sfI {d : Nat → Bool} {S : gS} {g j t : Nat} {v : Int32} (hg : d g = true) (h97 : g ≠ 97) : tGo d 0 S (sfI S g j t v) := ⟨tKeep_sfI hg, fun x hx _ => ⟨x, by rw [fI_sfI, if_neg (fun z => h97 z.1.symm)]; exact hx, Nat.le_refl _, Nat.le_refl _⟩⟩
def tLogS (S : gS) (k m j t : Int32) : gS := tLog S (tl S) k m j t
theorem tl_of {S : gS} {x : Nat} (h : fI S 97 0 0 = nI x) (hx : x < 2 ^ 31) : tl S = x := by rw [tl, h, nI_clamp hx]
theorem tLogS_go {S : gS} {k m j t : Int32} : tGo d0 1 S (tLogS S k m j t) := ⟨(((tKeep_saI.tr tKeep_saI).tr tKeep_saI).tr tKeep_saI).tr (tKeep_sfI rfl), fun x hx hb => ⟨x + 1, by
  have e := tl_of hx (by omega)
  show nI (tl S + 1) = _
  rw [e], Nat.le_succ _, Nat.le_refl _⟩⟩
theorem nI_jc {S : gS} {j : Nat} (h : JobOk S j (jc S j)) : fI S 67 j 0 = nI (jc S j) := h.2.2.2.1
set_option maxRecDepth 100000 in
set_option maxHeartbeats 2000000 in
theorem kX7_isJob {E : gE} {S : gS} {j : Int32} {Q : Option gV → gS → Prop} (l7 : lv S 7 0 0) (hQ : Q (some (vI (bI (decide (0 ≤ j ∧ j < fI S 228 0 0))))) S) : gRun E mX7_isJob 1 0 0 [vR 7 0 0, vI j] S [] Q := by
  refine gRun_of (ls := [some (vR 7 0 0), some (vI j)]) rfl (Nat.le_of_ble_eq_true rfl) rfl (fun ad => ?_)
  refine g_iload_n (pc' := 1) dX7_isJob_0 rfl rfl ?_
  refine g_if_lt dX7_isJob_1 (tg := 16) (pc' := 4) (by decide) rfl (fun h1 => ?_) (fun h1 => ?_)
  · refine g_iconst (pc' := 17) (v := 0) dX7_isJob_16 rfl rfl ?_
    refine g_iret dX7_isJob_17 rfl rfl (Nat.le_of_ble_eq_true rfl) (Nat.le_of_ble_eq_true rfl) ?_
    exact gq hQ (by simp only [bI,  Int32.lt_iff_toInt_lt, Int32.le_iff_toInt_le] at *; simp_all <;> (intros; omega))
  · refine g_iload_n (pc' := 5) dX7_isJob_4 rfl rfl ?_
    refine g_aload_n (pc' := 6) dX7_isJob_5 rfl rfl ?_
    refine ggX7_36 (pc' := 9) rfl dX7_isJob_6 rfl l7 ?_
    refine g_icmp_ge dX7_isJob_9 (tg := 16) (pc' := 12) (by decide) rfl (fun h9 => ?_) (fun h9 => ?_)
    · refine g_iconst (pc' := 17) (v := 0) dX7_isJob_16 rfl rfl ?_
      refine g_iret dX7_isJob_17 rfl rfl (Nat.le_of_ble_eq_true rfl) (Nat.le_of_ble_eq_true rfl) ?_
      exact gq hQ (by simp only [bI,  Int32.lt_iff_toInt_lt, Int32.le_iff_toInt_le] at *; simp_all <;> (intros; omega))
    · refine g_iconst (pc' := 13) (v := 1) dX7_isJob_12 rfl rfl ?_
      refine g_goto dX7_isJob_13 (pc' := 17) (by decide) ?_
      refine g_iret dX7_isJob_17 rfl rfl (Nat.le_of_ble_eq_true rfl) (Nat.le_of_ble_eq_true rfl) ?_
      exact gq hQ (by simp only [bI,  Int32.lt_iff_toInt_lt, Int32.le_iff_toInt_le] at *; simp_all <;> (intros; omega))

set_option maxRecDepth 100000 in
set_option maxHeartbeats 2000000 in
theorem kX7_isMinute {E : gE} {S : gS} {m : Int32} {Q : Option gV → gS → Prop} (hQ : Q (some (vI (bI (decide (0 ≤ m ∧ m < 20000000))))) S) : gRun E mX7_isMinute 1 0 0 [vI m] S [] Q := by
  refine gRun_of (ls := [some (vI m)]) rfl (Nat.le_of_ble_eq_true rfl) rfl (fun ad => ?_)
  refine g_iload_n (pc' := 1) dX7_isMinute_0 rfl rfl ?_
  refine g_if_lt dX7_isMinute_1 (tg := 14) (pc' := 4) (by decide) rfl (fun h1 => ?_) (fun h1 => ?_)
  · refine g_iconst (pc' := 15) (v := 0) dX7_isMinute_14 rfl rfl ?_
    refine g_iret dX7_isMinute_15 rfl rfl (Nat.le_of_ble_eq_true rfl) (Nat.le_of_ble_eq_true rfl) ?_
    exact gq hQ (by simp only [bI,  Int32.lt_iff_toInt_lt, Int32.le_iff_toInt_le] at *; simp_all <;> (intros; omega))
  · refine g_iload_n (pc' := 5) dX7_isMinute_4 rfl rfl ?_
    refine g_ldc (pc' := 7) dX7_isMinute_5 rfl ckX7_142 ?_
    refine g_icmp_ge dX7_isMinute_7 (tg := 14) (pc' := 10) (by decide) rfl (fun h7 => ?_) (fun h7 => ?_)
    · refine g_iconst (pc' := 15) (v := 0) dX7_isMinute_14 rfl rfl ?_
      refine g_iret dX7_isMinute_15 rfl rfl (Nat.le_of_ble_eq_true rfl) (Nat.le_of_ble_eq_true rfl) ?_
      exact gq hQ (by simp only [bI,  Int32.lt_iff_toInt_lt, Int32.le_iff_toInt_le] at *; simp_all <;> (intros; omega))
    · refine g_iconst (pc' := 11) (v := 1) dX7_isMinute_10 rfl rfl ?_
      refine g_goto dX7_isMinute_11 (pc' := 15) (by decide) ?_
      refine g_iret dX7_isMinute_15 rfl rfl (Nat.le_of_ble_eq_true rfl) (Nat.le_of_ble_eq_true rfl) ?_
      exact gq hQ (by simp only [bI,  Int32.lt_iff_toInt_lt, Int32.le_iff_toInt_le] at *; simp_all <;> (intros; omega))

theorem isJob_nat {S : gS} (hD : DeskOk S) {j : Int32} (h : 0 ≤ j ∧ j < fI S 228 0 0) : ∃ k, k < jn S ∧ j = nI k := by
  obtain ⟨k, h1, h2⟩ := nI_of (x := j) (by rw [Int32.not_lt]; exact h.1)
  refine ⟨k, ?_, h2⟩
  have h3 := h.2
  rw [h2, hD.2.1, nI_ltI h1 (by have := hD.2.2.1; omega)] at h3
  exact h3
def isTk (S : gS) (j t : Int32) : Bool := decide ((0 ≤ j ∧ j < fI S 228 0 0) ∧ 0 ≤ t ∧ t < fI S 67 j.toNatClampNeg 0)
set_option maxRecDepth 100000 in
set_option maxHeartbeats 2000000 in
theorem kX7_isTask {E : gE} {S : gS} {j t : Int32} {Q : Option gV → gS → Prop} (hD : DeskOk S) (hQ : Q (some (vI (bI (isTk S j t)))) S) : gRun E mX7_isTask 2 0 0 [vR 7 0 0, vI j, vI t] S [] Q := by
  refine gRun_of (ls := [some (vR 7 0 0), some (vI j), some (vI t)]) rfl (Nat.le_of_ble_eq_true rfl) rfl (fun ad => ?_)
  obtain ⟨l7, l4, l6, l0, l3, l10, l11, l13, l14, r224, r225, r226, r227, r128, r129, r192, r96⟩ := id hD.1
  have hn := hD.2.1
  have hn6 := hD.2.2.1
  refine g_aload_n (pc' := 1) dX7_isTask_0 rfl rfl ?_
  refine g_iload_n (pc' := 2) dX7_isTask_1 rfl rfl ?_
  refine gcv1 (pc' := 5) cwX7_86 cf7 dX7_isTask_2 rfl l7 (Nat.le_of_ble_eq_true rfl) (Nat.le_of_ble_eq_true rfl) (Nat.le_of_ble_eq_true rfl) (Nat.le_of_ble_eq_true rfl) (Nat.le_of_ble_eq_true rfl) (kX7_isJob l7 ?_)
  refine g_if_eq dX7_isTask_5 (tg := 29) (pc' := 8) (by decide) rfl (fun h5 => ?_) (fun h5 => ?_)
  · refine g_iconst (pc' := 30) (v := 0) dX7_isTask_29 rfl rfl ?_
    refine g_iret dX7_isTask_30 rfl rfl (Nat.le_of_ble_eq_true rfl) (Nat.le_of_ble_eq_true rfl) ?_
    first
      | exact gq hQ (by
          rw [bI_f, decide_eq_false_iff_not] at h5
          exact bd_f (fun z => h5 z.1))
      | exact gq hQ (by
          rw [bI_f, decide_eq_false_iff_not, Decidable.not_not] at h5
          refine bd_f (fun z => ?_)
          have z2 := z.2.1
          rw [Int32.le_iff_toInt_le] at z2
          rw [Int32.lt_iff_toInt_lt] at h9
          omega)
      | exact gq hQ (by
          have z : (nI k).toNatClampNeg = k := nI_clamp (by omega)
          rw [isTk, z]
          simp only [bI, Int32.lt_iff_toInt_lt, Int32.le_iff_toInt_le] at *
          simp_all <;> (intros; omega))
  · refine g_iload_n (pc' := 9) dX7_isTask_8 rfl rfl ?_
    refine g_if_lt dX7_isTask_9 (tg := 29) (pc' := 12) (by decide) rfl (fun h9 => ?_) (fun h9 => ?_)
    · refine g_iconst (pc' := 30) (v := 0) dX7_isTask_29 rfl rfl ?_
      refine g_iret dX7_isTask_30 rfl rfl (Nat.le_of_ble_eq_true rfl) (Nat.le_of_ble_eq_true rfl) ?_
      first
        | exact gq hQ (by
            rw [bI_f, decide_eq_false_iff_not] at h5
            exact bd_f (fun z => h5 z.1))
        | exact gq hQ (by
            rw [bI_f, decide_eq_false_iff_not, Decidable.not_not] at h5
            refine bd_f (fun z => ?_)
            have z2 := z.2.1
            rw [Int32.le_iff_toInt_le] at z2
            rw [Int32.lt_iff_toInt_lt] at h9
            omega)
        | exact gq hQ (by
            have z : (nI k).toNatClampNeg = k := nI_clamp (by omega)
            rw [isTk, z]
            simp only [bI, Int32.lt_iff_toInt_lt, Int32.le_iff_toInt_le] at *
            simp_all <;> (intros; omega))
    · refine g_iload_n (pc' := 13) dX7_isTask_12 rfl rfl ?_
      refine g_aload_n (pc' := 14) dX7_isTask_13 rfl rfl ?_
      have hj := mt bI_f.mpr h5
      rw [Bool.not_eq_false, decide_eq_true_eq] at hj
      obtain ⟨k, hk, rfl⟩ := isJob_nat hD hj
      obtain ⟨hJ, ra, -⟩ := hD.2.2.2 k hk
      have l2 := hJ.1
      refine ggX7_32 (pc' := 17) rfl dX7_isTask_14 rfl l7 r227 ?_
      refine g_iload_n (pc' := 18) dX7_isTask_17 rfl rfl ?_
      refine g_aaldJ (pc' := 19) (n := k) dX7_isTask_18 rfl (by decide) rfl rfl (show k < 6 by omega) l14 ra ?_
      refine ggX7_93 (pc' := 22) rfl dX7_isTask_19 rfl l2 ?_
      refine g_icmp_ge dX7_isTask_22 (tg := 29) (pc' := 25) (by decide) rfl (fun h22 => ?_) (fun h22 => ?_)
      · refine g_iconst (pc' := 30) (v := 0) dX7_isTask_29 rfl rfl ?_
        refine g_iret dX7_isTask_30 rfl rfl (Nat.le_of_ble_eq_true rfl) (Nat.le_of_ble_eq_true rfl) ?_
        first
          | exact gq hQ (by
              rw [bI_f, decide_eq_false_iff_not] at h5
              exact bd_f (fun z => h5 z.1))
          | exact gq hQ (by
              rw [bI_f, decide_eq_false_iff_not, Decidable.not_not] at h5
              refine bd_f (fun z => ?_)
              have z2 := z.2.1
              rw [Int32.le_iff_toInt_le] at z2
              rw [Int32.lt_iff_toInt_lt] at h9
              omega)
          | exact gq hQ (by
              have z : (nI k).toNatClampNeg = k := nI_clamp (by omega)
              rw [isTk, z]
              simp only [bI, Int32.lt_iff_toInt_lt, Int32.le_iff_toInt_le] at *
              simp_all <;> (intros; omega))
      · refine g_iconst (pc' := 26) (v := 1) dX7_isTask_25 rfl rfl ?_
        refine g_goto dX7_isTask_26 (pc' := 30) (by decide) ?_
        refine g_iret dX7_isTask_30 rfl rfl (Nat.le_of_ble_eq_true rfl) (Nat.le_of_ble_eq_true rfl) ?_
        first
          | exact gq hQ (by
              rw [bI_f, decide_eq_false_iff_not] at h5
              exact bd_f (fun z => h5 z.1))
          | exact gq hQ (by
              rw [bI_f, decide_eq_false_iff_not, Decidable.not_not] at h5
              refine bd_f (fun z => ?_)
              have z2 := z.2.1
              rw [Int32.le_iff_toInt_le] at z2
              rw [Int32.lt_iff_toInt_lt] at h9
              omega)
          | exact gq hQ (by
              have z : (nI k).toNatClampNeg = k := nI_clamp (by omega)
              rw [isTk, z]
              simp only [bI, Int32.lt_iff_toInt_lt, Int32.le_iff_toInt_le] at *
              simp_all <;> (intros; omega))

