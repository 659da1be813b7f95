/-! THE CLASS (16): the public methods but job and task -/
theorem gAtw {own X : String} {ic : Nat} {names : List String} (h : (vx_at0 own ic X names).all (fun w => decide (w ∈ lw_tbl) && (goodWord w || gnw w)) = true) : ∀ w ∈ vx_at0 own ic X names, w ∈ lwG ∨ w ∈ lwN := by
  intro w hw
  have h1 := List.all_eq_true.mp h w hw
  simp only [Bool.and_eq_true, decide_eq_true_eq, Bool.or_eq_true] at h1
  rcases h1.2 with h2 | h2
  · exact Or.inl (List.mem_filter.mpr ⟨h1.1, h2⟩)
  · exact Or.inr (List.mem_filter.mpr ⟨h1.1, h2⟩)
theorem thr0 {M : gM} (h : M.1.cls = RX7) : gThr M 0 66 68 := by
  unfold gThr; rw [h]
  exact ⟨by decide +kernel, mG 262 (by decide +kernel) (by decide +kernel), mG 65 (by decide +kernel) (by decide +kernel), gAtw (by decide +kernel)⟩
theorem thr1 {M : gM} (h : M.1.cls = RX7) : gThr M 1 73 75 := by
  unfold gThr; rw [h]
  exact ⟨by decide +kernel, mG 361 (by decide +kernel) (by decide +kernel), mG 66 (by decide +kernel) (by decide +kernel), gAtw (by decide +kernel)⟩
theorem thr2 {M : gM} (h : M.1.cls = RX7) : gThr M 2 90 92 := by
  unfold gThr; rw [h]
  exact ⟨by decide +kernel, mG 444 (by decide +kernel) (by decide +kernel), mG 69 (by decide +kernel) (by decide +kernel), gAtw (by decide +kernel)⟩
theorem thr3 {M : gM} (h : M.1.cls = RX7) : gThr M 3 143 145 := by
  unfold gThr; rw [h]
  exact ⟨by decide +kernel, mG 585 (by decide +kernel) (by decide +kernel), mG 71 (by decide +kernel) (by decide +kernel), gAtw (by decide +kernel)⟩
def thr (n : Nat) : Option gV := some (vR 100 n 0)
theorem bdn {P : Prop} {_ : Decidable P} (h : bI (decide P) = 0) : ¬ P := of_decide_eq_false (bI_f.mp h)
theorem bdp {P : Prop} {_ : Decidable P} (h : ¬ bI (decide P) = 0) : P := by
  by_cases hp : P
  · exact hp
  · exact absurd (bd_f hp) h
theorem bbn {b : Bool} (h : bI b = 0) : ¬ b = true := by rw [bI_f.mp h]; decide
theorem bbp {b : Bool} (h : ¬ bI b = 0) : b = true := by
  cases b
  · exact absurd rfl h
  · rfl
def isJ (S : gS) (j : Int32) : Prop := 0 ≤ j ∧ j < fI S 228 0 0
def isM (m : Int32) : Prop := 0 ≤ m ∧ m < 20000000
theorem isU_nat {m : Int32} {n : Nat} (hn : n < 2 ^ 31) (h : 0 ≤ m ∧ m < nI n) : ∃ k, k < n ∧ m = nI k := by
  obtain ⟨k, h1, h2⟩ := nI_of (x := m) (by rw [Int32.not_lt]; exact h.1)
  refine ⟨k, ?_, h2⟩
  have h3 := h.2
  rw [h2, nI_ltI h1 hn] at h3
  exact h3
theorem isM_nat {m : Int32} (h : isM m) : ∃ k, k < 20000000 ∧ m = nI k := isU_nat (by omega) h
theorem isTk_nat {S : gS} (hD : DeskOk S) {j t : Int32} (h : isTk S j t = true) : ∃ k n, k < jn S ∧ n < jc S k ∧ j = nI k ∧ t = nI n := by
  have h1 := of_decide_eq_true h
  obtain ⟨k, hk, rfl⟩ := isJob_nat hD h1.1
  have hn6 := hD.2.2.1
  have hc := (hD.2.2.2 k hk).1
  have h2 := h1.2
  rw [nI_clamp (by omega), hc.2.2.2.1] at h2
  have hc6 := hc.2.2.2.2.1
  obtain ⟨n, a1, a2⟩ := isU_nat (by omega) h2
  exact ⟨k, n, hk, a1, rfl, a2⟩
/-- the outcomes: r the answer (a throw: thr n), S1 the state -/
noncomputable def oHolds (S : gS) (j m : Int32) (r : Option gV) (S1 : gS) : Prop := (¬ isJ S j ∧ r = thr 2 ∧ S1 = S) ∨ (isJ S j ∧ ¬ isM m ∧ r = thr 1 ∧ S1 = S) ∨ ∃ k n, k < jn S ∧ j = nI k ∧ n < 20000000 ∧ m = nI n ∧ r = some (vI (bI (eHolds S k n))) ∧ S1 = tHS S k n
noncomputable def oNext (S : gS) (j m : Int32) (r : Option gV) (S1 : gS) : Prop := (¬ isJ S j ∧ r = thr 2 ∧ S1 = S) ∨ (isJ S j ∧ ¬ isM m ∧ r = thr 1 ∧ S1 = S) ∨ ∃ k n, k < jn S ∧ j = nI k ∧ n < 20000000 ∧ m = nI n ∧ r = some (vI (fT (eHolds S k) (19999999 - n) (n + 1))) ∧ (S1 = S ∨ ∃ w, w < 13889 ∧ S1 = tTurn S w)
noncomputable def pPart (n q : Nat) : Int32 := if q = 0 then nI (dY (n / 1440)) else if q = 1 then nI (dM (n / 1440)) else if q = 2 then nI (dD (n / 1440)) else if q = 3 then nI (n % 1440 / 60) else if q = 4 then nI (n % 60) else nI ((n / 1440 + 6) % 7)
noncomputable def oPart (S : gS) (m p : Int32) (r : Option gV) (S1 : gS) : Prop := (¬ (isM m ∧ 0 ≤ p ∧ p ≤ 5) ∧ r = thr 1 ∧ S1 = S) ∨ ∃ n q, n < 20000000 ∧ m = nI n ∧ q ≤ 5 ∧ p = nI q ∧ r = some (vI (pPart n q)) ∧ S1 = tTurn S (n / 1440)
def oSet (S : gS) (m : Int32) (r : Option gV) (S1 : gS) : Prop := ((¬ fI S 232 0 0 = 0 ∨ ¬ ∀ j, j < jn S → fI S 68 j 0 = 0) ∧ r = thr 3 ∧ S1 = S) ∨ ((fI S 232 0 0 = 0 ∧ ∀ j, j < jn S → fI S 68 j 0 = 0) ∧ (((m < fI S 231 0 0 ∨ ¬ m < 20000000) ∧ r = thr 1 ∧ S1 = S) ∨ ((¬ m < fI S 231 0 0 ∧ m < 20000000) ∧ r = none ∧ S1 = sfI S 231 0 0 m)))
def oEnd (S : gS) (j t w : Int32) (r : Option gV) (S1 : gS) : Prop := (¬ isTk S j t = true ∧ r = thr 2 ∧ S1 = S) ∨ ∃ k n, k < jn S ∧ n < jc S k ∧ j = nI k ∧ t = nI n ∧ (((¬ fI S 232 0 0 = 0 ∨ ¬ fI S 163 k n = 3) ∧ r = thr 3 ∧ S1 = S) ∨ ((fI S 232 0 0 = 0 ∧ fI S 163 k n = 3) ∧ r = some (vI (fI (tEnd S k n w) 163 k n)) ∧ S1 = tEnd S k n w))
noncomputable def oDown (S : gS) (d : Int32) (b m : Nat) (r : Option gV) (S1 : gS) : Prop := (d = fI S 232 0 0 ∧ r = thr 3 ∧ S1 = S) ∨ (¬ d = fI S 232 0 0 ∧ ¬ d = 0 ∧ r = some (vI 0) ∧ S1 = sfI (sfI S 232 0 0 d) 233 0 0 (fI S 231 0 0)) ∨ (¬ d = fI S 232 0 0 ∧ d = 0 ∧ ∃ T, tC2 b m (jn S) (tCJ (jn S) (sfI S 232 0 0 d)) T ∧ r = some (vI (nI (tStartS T).1)) ∧ S1 = (tStartS T).2)
def oEntry (S : gS) (b p : Int32) (r : Option gV) (S1 : gS) : Prop := (¬ ((0 ≤ b ∧ b < 64 ∧ b < fI S 97 0 0) ∧ 0 ≤ p ∧ p < 4) ∧ r = thr 2 ∧ S1 = S) ∨ ∃ n k q, n < 2 ^ 30 ∧ fI S 97 0 0 = nI n ∧ k < n ∧ k < 64 ∧ b = nI k ∧ q < 4 ∧ p = nI q ∧ r = some (vI (aI S 13 0 ((n - 1 - k) % 64 * 4 + q))) ∧ S1 = S
noncomputable def tPass : Nat → Nat → gS → Nat × gS
  | 0, s, S => (s, S)
  | k + 1, s, S => tPass k (s + (tStep S).1) (tStep S).2
noncomputable def oPass (S : gS) (m : Nat) (n : Int32) (r : Option gV) (S1 : gS) : Prop := (¬ (1 ≤ n ∧ n ≤ 5000) ∧ r = thr 1 ∧ S1 = S) ∨ ∃ k, 1 ≤ k ∧ k ≤ 5000 ∧ n = nI k ∧ ((20000000 ≤ m + k ∧ r = thr 3 ∧ S1 = S) ∨ (m + k < 20000000 ∧ ¬ fI S 232 0 0 = 0 ∧ r = some (vI 0) ∧ S1 = sfI S 231 0 0 (nI (m + k))) ∨ (m + k < 20000000 ∧ fI S 232 0 0 = 0 ∧ r = some (vI (nI (tPass k 0 S).1)) ∧ S1 = (tPass k 0 S).2))
def oState (S : gS) (j t : Int32) : Int32 := if isTk S j t = true then fI S 163 j.toNatClampNeg t.toNatClampNeg else -1
def oCount (S : gS) (j w : Int32) : Int32 := if w = 4 then nI (tRun S (jn S)) else if 0 ≤ j ∧ j < fI S 228 0 0 then (if w = 0 then fI S 69 j.toNatClampNeg 0 else if w = 1 then fI S 70 j.toNatClampNeg 0 else if w = 2 then (if fI S 68 j.toNatClampNeg 0 = 0 then 0 else 1) else if w = 3 then fI S 67 j.toNatClampNeg 0 else -1) else -1
def oSlots (S : gS) (n : Int32) : Int32 × gS := if 1 ≤ n ∧ n ≤ 6 then (1, sfI S 230 0 0 n) else (0, S)
def GoodD (S : gS) (x m : Nat) : Prop := DeskOk S ∧ (∃ w, DayOk S w) ∧ fI S 231 0 0 = nI m ∧ fI S 230 0 0 = nI (slN S) ∧ slN S ≤ 6 ∧ fI S 97 0 0 = nI x
theorem tStep_good {S : gS} {x m : Nat} (h : GoodD S x m) (hm : m + 1 < 20000000) (hx : x + 18 < 2 ^ 30) : ∃ y, y ≤ x + 18 ∧ GoodD (tStep S).2 y (m + 1) := by
  obtain ⟨h1, h2, h3, h4, h5, h6⟩ := h
  have g := tStep_go (S := S) h1.2.2.1 h5
  obtain ⟨y, y1, y2, y3⟩ := g.2 x h6 (by omega)
  have hmc : (fI S 231 0 0).toNatClampNeg = m := by rw [h3, nI_clamp (by omega)]
  have g1 := tSJ_go (m := m + 1) (jn S) (sfI S 231 0 0 (nI (m + 1)))
  have hs1 : slN (tSJ (m + 1) (jn S) (sfI S 231 0 0 (nI (m + 1)))) = slN S := (slN_keep (d := d1) g1.1 rfl).trans rfl
  have g2 := tStartS_go (S := tSJ (m + 1) (jn S) (sfI S 231 0 0 (nI (m + 1)))) (by rw [hs1]; exact h5)
  have e : (tStep S).2 = (tStartS (tSJ (m + 1) (jn S) (sfI S 231 0 0 (nI (m + 1))))).2 := by rw [tStep, hmc, h3, nI_1]
  have e1 : ∀ g, d1 g = false → g ≠ 231 → fI (tStep S).2 g 0 0 = fI S g 0 0 := fun g hg h9 => by
    rw [e, g2.1.2.2.2.2.1 g 0 0 (by cases q : d0 g with | false => rfl | true => rw [d01 q] at hg; cases hg), g1.1.2.2.2.2.1 g 0 0 hg, fI_sfI, if_neg (fun z => h9 z.1)]
  have es : slN (tStep S).2 = slN S := by unfold slN; rw [e1 230 rfl (by decide)]
  refine ⟨y, y3, h1.keep g.1, tStep_day (by rw [hmc]; exact hm) h5 h2, ?_, ?_, by rw [es]; exact h5, y1⟩
  · rw [e, g2.1.2.2.2.2.1 231 0 0 rfl, g1.1.2.2.2.2.1 231 0 0 rfl]; rfl
  · rw [es, e1 230 rfl (by decide)]; exact h4
theorem tStep_le {S : gS} (h5 : slN S ≤ 6) : (tStep S).1 ≤ 6 := by
  rw [tStep, tStartS]
  have h := (tStart_le (slN (tSJ ((fI S 231 0 0).toNatClampNeg + 1) (jn S) (sfI S 231 0 0 (fI S 231 0 0 + 1))) - tRun (tSJ ((fI S 231 0 0).toNatClampNeg + 1) (jn S) (sfI S 231 0 0 (fI S 231 0 0 + 1))) (jn (tSJ ((fI S 231 0 0).toNatClampNeg + 1) (jn S) (sfI S 231 0 0 (fI S 231 0 0 + 1))))) 0 (tSJ ((fI S 231 0 0).toNatClampNeg + 1) (jn S) (sfI S 231 0 0 (fI S 231 0 0 + 1)))).2
  have hs1 : slN (tSJ ((fI S 231 0 0).toNatClampNeg + 1) (jn S) (sfI S 231 0 0 (fI S 231 0 0 + 1))) = slN S := (slN_keep (d := d1) (tSJ_go (m := (fI S 231 0 0).toNatClampNeg + 1) (jn S) (sfI S 231 0 0 (fI S 231 0 0 + 1))).1 rfl).trans rfl
  omega
set_option maxRecDepth 100000 in
set_option maxHeartbeats 2000000 in
theorem kX7_type {E : gE} {S : gS} {a : Nat} {Q : Option gV → gS → Prop} (hD : DeskOk S) (hX : TextOk S) (ha : a < 2 ^ 64) (hQ : Q (some (vI (bI (tType S a).1))) (tType S a).2) : gRun E mX7_type 3 0 0 [vR 7 0 0, vL (lN a)] S [] Q := by
  refine gRun_of (ls := [some (vR 7 0 0), some (vL (lN a)), none]) rfl (Nat.le_of_ble_eq_true rfl) rfl (fun ad => ?_)
  obtain ⟨l7, l4, l6, l0, l3, l10, l11, l13, l14, r224, r225, r226, r227, r128, r129, r192, r96⟩ := id hD.1
  have hn := hD.2.1
  have hn6 := hD.2.2.1
  refine g_aload_n (pc' := 1) dX7_type_0 rfl rfl ?_
  refine ggX7_10 (pc' := 4) rfl dX7_type_1 rfl l7 r224 ?_
  refine ggX7_56 (pc' := 7) rfl dX7_type_4 rfl l4 r128 ?_
  refine g_lload_n (pc' := 8) dX7_type_7 rfl rfl ?_
  refine gcv1 (pc' := 11) cwX7_60 cf6 dX7_type_8 rfl l6 (Nat.le_of_ble_eq_true rfl) (Nat.le_of_ble_eq_true rfl) (Nat.le_of_ble_eq_true rfl) (Nat.le_of_ble_eq_true rfl) (Nat.le_of_ble_eq_true rfl) (kX6_append l6 l10 r192 hX ha ?_)
  refine g_iret dX7_type_11 rfl (bI_nar _) (Nat.le_of_ble_eq_true rfl) (Nat.le_of_ble_eq_true rfl) ?_
  exact hQ

set_option maxRecDepth 100000 in
set_option maxHeartbeats 2000000 in
theorem kX7_fault {E : gE} {S : gS} {Q : Option gV → gS → Prop} (l7 : lv S 7 0 0) (hQ : Q (some (vI (fI S 229 0 0))) S) : gRun E mX7_fault 1 0 0 [vR 7 0 0] S [] Q := by
  refine gRun_of (ls := [some (vR 7 0 0)]) rfl (Nat.le_of_ble_eq_true rfl) rfl (fun ad => ?_)
  refine g_aload_n (pc' := 1) dX7_fault_0 rfl rfl ?_
  refine ggX7_40 (pc' := 4) rfl dX7_fault_1 rfl l7 ?_
  refine g_iret dX7_fault_4 rfl rfl (Nat.le_of_ble_eq_true rfl) (Nat.le_of_ble_eq_true rfl) ?_
  exact hQ

set_option maxRecDepth 100000 in
set_option maxHeartbeats 2000000 in
theorem kX7_now {E : gE} {S : gS} {Q : Option gV → gS → Prop} (l7 : lv S 7 0 0) (hQ : Q (some (vI (fI S 231 0 0))) S) : gRun E mX7_now 1 0 0 [vR 7 0 0] S [] Q := by
  refine gRun_of (ls := [some (vR 7 0 0)]) rfl (Nat.le_of_ble_eq_true rfl) rfl (fun ad => ?_)
  refine g_aload_n (pc' := 1) dX7_now_0 rfl rfl ?_
  refine ggX7_46 (pc' := 4) rfl dX7_now_1 rfl l7 ?_
  refine g_iret dX7_now_4 rfl rfl (Nat.le_of_ble_eq_true rfl) (Nat.le_of_ble_eq_true rfl) ?_
  exact hQ

set_option maxRecDepth 100000 in
set_option maxHeartbeats 2000000 in
theorem kX7_erase {E : gE} {S : gS} {Q : Option gV → gS → Prop} (hD : DeskOk S) (hQ : Q none (sfI S 193 0 0 0)) : gRun E mX7_erase 2 0 0 [vR 7 0 0] S [] Q := by
  refine gRun_of (ls := [some (vR 7 0 0)]) rfl (Nat.le_of_ble_eq_true rfl) rfl (fun ad => ?_)
  obtain ⟨l7, l4, l6, l0, l3, l10, l11, l13, l14, r224, r225, r226, r227, r128, r129, r192, r96⟩ := id hD.1
  have hn := hD.2.1
  have hn6 := hD.2.2.1
  refine g_aload_n (pc' := 1) dX7_erase_0 rfl rfl ?_
  refine ggX7_10 (pc' := 4) rfl dX7_erase_1 rfl l7 r224 ?_
  refine ggX7_56 (pc' := 7) rfl dX7_erase_4 rfl l4 r128 ?_
  refine gcv0 (pc' := 10) cwX7_83 cf6 dX7_erase_7 rfl l6 (Nat.le_of_ble_eq_true rfl) (Nat.le_of_ble_eq_true rfl) (Nat.le_of_ble_eq_true rfl) (Nat.le_of_ble_eq_true rfl) (Nat.le_of_ble_eq_true rfl) (kX6_clear l6 ?_)
  refine g_vret dX7_erase_10 rfl (Nat.le_of_ble_eq_true rfl) (Nat.le_of_ble_eq_true rfl) ?_
  exact hQ

set_option maxRecDepth 100000 in
set_option maxHeartbeats 2000000 in
theorem kX7_entries {E : gE} {S : gS} {Q : Option gV → gS → Prop} (hD : DeskOk S) (hQ : Q (some (vI (fI S 97 0 0))) S) : gRun E mX7_entries 1 0 0 [vR 7 0 0] S [] Q := by
  refine gRun_of (ls := [some (vR 7 0 0)]) rfl (Nat.le_of_ble_eq_true rfl) rfl (fun ad => ?_)
  obtain ⟨l7, l4, l6, l0, l3, l10, l11, l13, l14, r224, r225, r226, r227, r128, r129, r192, r96⟩ := id hD.1
  have hn := hD.2.1
  have hn6 := hD.2.2.1
  refine g_aload_n (pc' := 1) dX7_entries_0 rfl rfl ?_
  refine ggX7_26 (pc' := 4) rfl dX7_entries_1 rfl l7 r226 ?_
  refine ggX7_180 (pc' := 7) rfl dX7_entries_4 rfl l3 ?_
  refine g_iret dX7_entries_7 rfl rfl (Nat.le_of_ble_eq_true rfl) (Nat.le_of_ble_eq_true rfl) ?_
  exact hQ

set_option maxRecDepth 100000 in
set_option maxHeartbeats 2000000 in
theorem kX7_slots {E : gE} {S : gS} {n : Int32} {Q : Option gV → gS → Prop} (l7 : lv S 7 0 0) (hQ : Q (some (vI (oSlots S n).1)) (oSlots S n).2) : gRun E mX7_slots 1 0 0 [vR 7 0 0, vI n] S [] Q := by
  refine gRun_of (ls := [some (vR 7 0 0), some (vI n)]) rfl (Nat.le_of_ble_eq_true rfl) rfl (fun ad => ?_)
  refine g_iload_n (pc' := 1) dX7_slots_0 rfl rfl ?_
  refine g_iconst (pc' := 2) (v := 1) dX7_slots_1 rfl rfl ?_
  refine g_icmp_lt dX7_slots_2 (tg := 11) (pc' := 5) (by decide) rfl (fun h2 => ?_) (fun h2 => ?_)
  · refine g_iconst (pc' := 12) (v := 0) dX7_slots_11 rfl rfl ?_
    refine g_iret dX7_slots_12 rfl rfl (Nat.le_of_ble_eq_true rfl) (Nat.le_of_ble_eq_true rfl) ?_
    have e : oSlots S n = _ := if_neg (fun z => by
      have z1 := z.1
      have z2 := z.2
      rw [Int32.le_iff_toInt_le] at z1 z2
      first
        | (rw [Int32.lt_iff_toInt_lt] at h2; omega)
        | (rw [Int32.le_iff_toInt_le] at h8; omega))
    rw [e] at hQ
    exact hQ
  · refine g_iload_n (pc' := 6) dX7_slots_5 rfl rfl ?_
    refine g_bipush (pc' := 8) (v := 6) dX7_slots_6 rfl rfl ?_
    refine g_icmp_le dX7_slots_8 (tg := 13) (pc' := 11) (by decide) rfl (fun h8 => ?_) (fun h8 => ?_)
    · refine g_aload_n (pc' := 14) dX7_slots_13 rfl rfl ?_
      refine g_iload_n (pc' := 15) dX7_slots_14 rfl rfl ?_
      refine gpX7_43 (pc' := 18) rfl dX7_slots_15 rfl l7 ?_
      refine g_iconst (pc' := 19) (v := 1) dX7_slots_18 rfl rfl ?_
      refine g_iret dX7_slots_19 rfl rfl (Nat.le_of_ble_eq_true rfl) (Nat.le_of_ble_eq_true rfl) ?_
      have e : oSlots S n = _ := if_pos ⟨by rw [Int32.le_iff_toInt_le]; rw [Int32.lt_iff_toInt_lt] at h2; omega, h8⟩
      rw [e] at hQ
      exact hQ
    · refine g_iconst (pc' := 12) (v := 0) dX7_slots_11 rfl rfl ?_
      refine g_iret dX7_slots_12 rfl rfl (Nat.le_of_ble_eq_true rfl) (Nat.le_of_ble_eq_true rfl) ?_
      have e : oSlots S n = _ := if_neg (fun z => by
        have z1 := z.1
        have z2 := z.2
        rw [Int32.le_iff_toInt_le] at z1 z2
        first
          | (rw [Int32.lt_iff_toInt_lt] at h2; omega)
          | (rw [Int32.le_iff_toInt_le] at h8; omega))
      rw [e] at hQ
      exact hQ

set_option maxRecDepth 100000 in
set_option maxHeartbeats 2000000 in
theorem kX7_state {E : gE} {S : gS} {j t : Int32} {Q : Option gV → gS → Prop} (hD : DeskOk S) (hQ : Q (some (vI (oState S j t))) S) : gRun E mX7_state 3 0 0 [vR 7 0 0, vI j, vI t] S [] Q := by
  refine gRun_of (ls := [some (vR 7 0 0), some (vI j), some (vI t)]) rfl (Nat.le_of_ble_eq_true rfl) rfl (fun ad => ?_)
  obtain ⟨l7, l4, l6, l0, l3, l10, l11, l13, l14, r224, r225, r226, r227, r128, r129, r192, r96⟩ := id hD.1
  have hn := hD.2.1
  have hn6 := hD.2.2.1
  refine g_aload_n (pc' := 1) dX7_state_0 rfl rfl ?_
  refine g_iload_n (pc' := 2) dX7_state_1 rfl rfl ?_
  refine g_iload_n (pc' := 3) dX7_state_2 rfl rfl ?_
  refine gcv2 (pc' := 6) cwX7_153 cf7 dX7_state_3 rfl l7 (Nat.le_of_ble_eq_true rfl) (Nat.le_of_ble_eq_true rfl) (Nat.le_of_ble_eq_true rfl) (Nat.le_of_ble_eq_true rfl) (Nat.le_of_ble_eq_true rfl) (kX7_isTask hD ?_)
  refine g_if_eq dX7_state_6 (tg := 26) (pc' := 9) (by decide) rfl (fun h6 => ?_) (fun h6 => ?_)
  · refine g_iconst (pc' := 27) (v := (-1)) dX7_state_26 rfl rfl ?_
    refine g_iret dX7_state_27 rfl rfl (Nat.le_of_ble_eq_true rfl) (Nat.le_of_ble_eq_true rfl) ?_
    first
      | exact gq hQ (if_neg (bbn h6))
      | exact gq hQ ((if_pos (bbp h6)).trans (by rw [nI_clamp (by omega), nI_clamp (by omega)]))
  · obtain ⟨k, n, hk, hc, rfl, rfl⟩ := isTk_nat hD (bbp h6)
    obtain ⟨hJ, ra, l1, l12, r65, r32⟩ := hD.2.2.2 k hk
    have l2 := hJ.1
    have hc6 := hJ.2.2.2.2.1
    refine g_aload_n (pc' := 10) dX7_state_9 rfl rfl ?_
    refine ggX7_32 (pc' := 13) rfl dX7_state_10 rfl l7 r227 ?_
    refine g_iload_n (pc' := 14) dX7_state_13 rfl rfl ?_
    refine g_aaldJ (pc' := 15) (n := k) dX7_state_14 rfl (by decide) rfl rfl (show k < 6 by omega) l14 ra ?_
    refine ggX7_157 (pc' := 18) rfl dX7_state_15 rfl l2 hJ.2.2.1 ?_
    refine g_iload_n (pc' := 19) dX7_state_18 rfl rfl ?_
    refine g_aaldT (pc' := 20) (n := n) dX7_state_19 rfl (by decide) rfl rfl (show n < 6 by omega) hJ.2.1 (hJ.2.2.2.2.2 n hc).2 ?_
    refine ggX7_161 (pc' := 23) rfl dX7_state_20 rfl (hJ.2.2.2.2.2 n hc).1 ?_
    refine g_goto dX7_state_23 (pc' := 27) (by decide) ?_
    refine g_iret dX7_state_27 rfl rfl (Nat.le_of_ble_eq_true rfl) (Nat.le_of_ble_eq_true rfl) ?_
    first
      | exact gq hQ (if_neg (bbn h6))
      | exact gq hQ ((if_pos (bbp h6)).trans (by rw [nI_clamp (by omega), nI_clamp (by omega)]))

set_option maxRecDepth 100000 in
set_option maxHeartbeats 2000000 in
theorem kX7_count {E : gE} {S : gS} {j w : Int32} {Q : Option gV → gS → Prop} (hD : DeskOk S) (hQ : Q (some (vI (oCount S j w))) S) : gRun E mX7_count 3 0 0 [vR 7 0 0, vI j, vI w] S [] Q := by
  refine gRun_of (ls := [some (vR 7 0 0), some (vI j), some (vI w)]) rfl (Nat.le_of_ble_eq_true rfl) rfl (fun ad => ?_)
  obtain ⟨l7, l4, l6, l0, l3, l10, l11, l13, l14, r224, r225, r226, r227, r128, r129, r192, r96⟩ := id hD.1
  have hn := hD.2.1
  have hn6 := hD.2.2.1
  refine g_iload_n (pc' := 1) dX7_count_0 rfl rfl ?_
  refine g_iconst (pc' := 2) (v := 4) dX7_count_1 rfl rfl ?_
  refine g_icmp_ne dX7_count_2 (tg := 10) (pc' := 5) (by decide) rfl (fun h2 => ?_) (fun h2 => ?_)
  · refine g_aload_n (pc' := 11) dX7_count_10 rfl rfl ?_
    refine g_iload_n (pc' := 12) dX7_count_11 rfl rfl ?_
    refine gcv1 (pc' := 15) cwX7_86 cf7 dX7_count_12 rfl l7 (Nat.le_of_ble_eq_true rfl) (Nat.le_of_ble_eq_true rfl) (Nat.le_of_ble_eq_true rfl) (Nat.le_of_ble_eq_true rfl) (Nat.le_of_ble_eq_true rfl) (kX7_isJob l7 ?_)
    refine g_if_ne dX7_count_15 (tg := 20) (pc' := 18) (by decide) rfl (fun h15 => ?_) (fun h15 => ?_)
    · obtain ⟨k, hk, rfl⟩ := isJob_nat hD (bdp h15)
      obtain ⟨hJ, ra, l1, l12, r65, r32⟩ := hD.2.2.2 k hk
      have l2 := hJ.1
      refine g_iload_n (pc' := 21) dX7_count_20 rfl rfl ?_
      have hk2 : (nI k).toNatClampNeg = k := nI_clamp (by omega)
      have ej : ∀ w, ¬ w = 4 → oCount S (nI k) w = if w = 0 then fI S 69 k 0 else if w = 1 then fI S 70 k 0 else if w = 2 then (if fI S 68 k 0 = 0 then 0 else 1) else if w = 3 then fI S 67 k 0 else -1 := fun w hw => by
        rw [oCount, if_neg hw, if_pos (bdp h15), hk2]
      by_cases q0 : w = 0
      · subst q0
        have hv : oCount S (nI k) 0 = fI S 69 k 0 := ej 0 (by decide)
        refine g_tabIn (off := 31) dX7_count_21 (by decide) (by decide) rfl (tg := 52) (by decide) ?_
        refine g_aload_n (pc' := 53) dX7_count_52 rfl rfl ?_
        refine ggX7_32 (pc' := 56) rfl dX7_count_53 rfl l7 r227 ?_
        refine g_iload_n (pc' := 57) dX7_count_56 rfl rfl ?_
        refine g_aaldJ (pc' := 58) (n := k) dX7_count_57 rfl (by decide) rfl rfl (show k < 6 by omega) l14 ra ?_
        refine ggX7_174 (pc' := 61) rfl dX7_count_58 rfl l2 ?_
        refine g_iret dX7_count_61 rfl rfl (Nat.le_of_ble_eq_true rfl) (Nat.le_of_ble_eq_true rfl) ?_
        first
          | exact gq hQ hv
          | exact gq hQ (hv.trans (if_pos h81))
          | exact gq hQ (hv.trans (if_neg h81))
      by_cases q1 : w = 1
      · subst q1
        have hv : oCount S (nI k) 1 = fI S 70 k 0 := ej 1 (by decide)
        refine g_tabIn (off := 41) dX7_count_21 (by decide) (by decide) rfl (tg := 62) (by decide) ?_
        refine g_aload_n (pc' := 63) dX7_count_62 rfl rfl ?_
        refine ggX7_32 (pc' := 66) rfl dX7_count_63 rfl l7 r227 ?_
        refine g_iload_n (pc' := 67) dX7_count_66 rfl rfl ?_
        refine g_aaldJ (pc' := 68) (n := k) dX7_count_67 rfl (by decide) rfl rfl (show k < 6 by omega) l14 ra ?_
        refine ggX7_177 (pc' := 71) rfl dX7_count_68 rfl l2 ?_
        refine g_iret dX7_count_71 rfl rfl (Nat.le_of_ble_eq_true rfl) (Nat.le_of_ble_eq_true rfl) ?_
        first
          | exact gq hQ hv
          | exact gq hQ (hv.trans (if_pos h81))
          | exact gq hQ (hv.trans (if_neg h81))
      by_cases q2 : w = 2
      · subst q2
        have hv : oCount S (nI k) 2 = if fI S 68 k 0 = 0 then 0 else 1 := ej 2 (by decide)
        refine g_tabIn (off := 51) dX7_count_21 (by decide) (by decide) rfl (tg := 72) (by decide) ?_
        refine g_aload_n (pc' := 73) dX7_count_72 rfl rfl ?_
        refine ggX7_32 (pc' := 76) rfl dX7_count_73 rfl l7 r227 ?_
        refine g_iload_n (pc' := 77) dX7_count_76 rfl rfl ?_
        refine g_aaldJ (pc' := 78) (n := k) dX7_count_77 rfl (by decide) rfl rfl (show k < 6 by omega) l14 ra ?_
        refine ggX7_96 (pc' := 81) rfl dX7_count_78 rfl l2 ?_
        refine g_if_eq dX7_count_81 (tg := 88) (pc' := 84) (by decide) rfl (fun h81 => ?_) (fun h81 => ?_)
        · refine g_iconst (pc' := 89) (v := 0) dX7_count_88 rfl rfl ?_
          refine g_iret dX7_count_89 rfl rfl (Nat.le_of_ble_eq_true rfl) (Nat.le_of_ble_eq_true rfl) ?_
          first
            | exact gq hQ hv
            | exact gq hQ (hv.trans (if_pos h81))
            | exact gq hQ (hv.trans (if_neg h81))
        · refine g_iconst (pc' := 85) (v := 1) dX7_count_84 rfl rfl ?_
          refine g_goto dX7_count_85 (pc' := 89) (by decide) ?_
          refine g_iret dX7_count_89 rfl rfl (Nat.le_of_ble_eq_true rfl) (Nat.le_of_ble_eq_true rfl) ?_
          first
            | exact gq hQ hv
            | exact gq hQ (hv.trans (if_pos h81))
            | exact gq hQ (hv.trans (if_neg h81))
      by_cases q3 : w = 3
      · subst q3
        have hv : oCount S (nI k) 3 = fI S 67 k 0 := ej 3 (by decide)
        refine g_tabIn (off := 69) dX7_count_21 (by decide) (by decide) rfl (tg := 90) (by decide) ?_
        refine g_aload_n (pc' := 91) dX7_count_90 rfl rfl ?_
        refine ggX7_32 (pc' := 94) rfl dX7_count_91 rfl l7 r227 ?_
        refine g_iload_n (pc' := 95) dX7_count_94 rfl rfl ?_
        refine g_aaldJ (pc' := 96) (n := k) dX7_count_95 rfl (by decide) rfl rfl (show k < 6 by omega) l14 ra ?_
        refine ggX7_93 (pc' := 99) rfl dX7_count_96 rfl l2 ?_
        refine g_iret dX7_count_99 rfl rfl (Nat.le_of_ble_eq_true rfl) (Nat.le_of_ble_eq_true rfl) ?_
        first
          | exact gq hQ hv
          | exact gq hQ (hv.trans (if_pos h81))
          | exact gq hQ (hv.trans (if_neg h81))
      have hv : oCount S (nI k) w = -1 := by rw [ej w h2, if_neg q0, if_neg q1, if_neg q2, if_neg q3]
      refine g_tabOut dX7_count_21 ?_ (tg := 100) (by decide) ?_
      · have a0 : ¬ w.toInt = (0 : Int32).toInt := fun z => q0 (Int32.toInt_inj.mp z)
        have a1 : ¬ w.toInt = (1 : Int32).toInt := fun z => q1 (Int32.toInt_inj.mp z)
        have a2 : ¬ w.toInt = (2 : Int32).toInt := fun z => q2 (Int32.toInt_inj.mp z)
        have a3 : ¬ w.toInt = (3 : Int32).toInt := fun z => q3 (Int32.toInt_inj.mp z)
        have e0 : (0 : Int32).toInt = 0 := rfl
        have e1 : (1 : Int32).toInt = 1 := rfl
        have e2 : (2 : Int32).toInt = 2 := rfl
        have e3 : (3 : Int32).toInt = 3 := rfl
        omega
      refine g_iconst (pc' := 101) (v := (-1)) dX7_count_100 rfl rfl ?_
      refine g_iret dX7_count_101 rfl rfl (Nat.le_of_ble_eq_true rfl) (Nat.le_of_ble_eq_true rfl) ?_
      exact gq hQ hv
    · refine g_iconst (pc' := 19) (v := (-1)) dX7_count_18 rfl rfl ?_
      refine g_iret dX7_count_19 rfl rfl (Nat.le_of_ble_eq_true rfl) (Nat.le_of_ble_eq_true rfl) ?_
      first
        | exact gq hQ ((if_neg h2).trans (if_neg (bdn h15)))
  · refine g_aload_n (pc' := 6) dX7_count_5 rfl rfl ?_
    refine gcv0 (pc' := 9) cwX7_171 cf7 dX7_count_6 rfl l7 (Nat.le_of_ble_eq_true rfl) (Nat.le_of_ble_eq_true rfl) (Nat.le_of_ble_eq_true rfl) (Nat.le_of_ble_eq_true rfl) (Nat.le_of_ble_eq_true rfl) (kX7_countRunning hD ?_)
    refine g_iret dX7_count_9 rfl rfl (Nat.le_of_ble_eq_true rfl) (Nat.le_of_ble_eq_true rfl) ?_
    first
      | exact gq hQ (if_pos h2)
      | exact gq hQ (if_pos (Decidable.not_not.mp h2))

set_option maxRecDepth 100000 in
set_option maxHeartbeats 2000000 in
theorem kX7_holds {E : gE} {S : gS} {j m : Int32} {Q : Option gV → gS → Prop} (hD : DeskOk S) (hd : ∃ w, DayOk S w) (hQ : ∀ r S1, oHolds S j m r S1 → Q r S1) : gRunT E mX7_holds 7 1 6 [vR 7 0 0, vI j, vI m] S [] Q := by
  refine gRunT_of (ls := [some (vR 7 0 0), some (vI j), some (vI m)]) rfl (Nat.le_of_ble_eq_true rfl) rfl (fun ad => ?_)
  obtain ⟨l7, l4, l6, l0, l3, l10, l11, l13, l14, r224, r225, r226, r227, r128, r129, r192, r96⟩ := id hD.1
  have hn := hD.2.1
  have hn6 := hD.2.2.1
  obtain ⟨w, hw⟩ := hd
  refine g_aload_n (pc' := 1) dX7_holds_0 rfl rfl ?_
  refine g_iload_n (pc' := 2) dX7_holds_1 rfl rfl ?_
  refine gcv1 (pc' := 5) cwX7_86 cf7 dX7_holds_2 rfl l7 (Nat.le_of_ble_eq_true rfl) (Nat.le_of_ble_eq_true rfl) (Nat.le_of_ble_eq_true rfl) (Nat.le_of_ble_eq_true rfl) (Nat.le_of_ble_eq_true rfl) (kX7_isJob l7 ?_)
  refine g_if_ne dX7_holds_5 (tg := 16) (pc' := 8) (by decide) rfl (fun h5 => ?_) (fun h5 => ?_)
  · obtain ⟨k, hk, rfl⟩ := isJob_nat hD (bdp h5)
    obtain ⟨hJ, ra, l1, l12, r65, r32⟩ := hD.2.2.2 k hk
    have l2 := hJ.1
    refine g_iload_n (pc' := 17) dX7_holds_16 rfl rfl ?_
    refine gcs1 (pc' := 20) cwX7_111 dX7_holds_17 rfl (Nat.le_of_ble_eq_true rfl) (Nat.le_of_ble_eq_true rfl) (Nat.le_of_ble_eq_true rfl) (Nat.le_of_ble_eq_true rfl) (Nat.le_of_ble_eq_true rfl) (kX7_isMinute ?_)
    refine g_if_ne dX7_holds_20 (tg := 31) (pc' := 23) (by decide) rfl (fun h20 => ?_) (fun h20 => ?_)
    · have hM : isM m := bdp h20
      obtain ⟨n, hm, rfl⟩ := isM_nat hM
      refine g_aload_n (pc' := 32) dX7_holds_31 rfl rfl ?_
      refine g_aload_n (pc' := 33) dX7_holds_32 rfl rfl ?_
      refine ggX7_32 (pc' := 36) rfl dX7_holds_33 rfl l7 r227 ?_
      refine g_iload_n (pc' := 37) dX7_holds_36 rfl rfl ?_
      refine g_aaldJ (pc' := 38) (n := k) dX7_holds_37 rfl (by decide) rfl rfl (show k < 6 by omega) l14 ra ?_
      refine ggX7_114 (pc' := 41) rfl dX7_holds_38 rfl l2 r65 ?_
      refine g_iload_n (pc' := 42) dX7_holds_41 rfl rfl ?_
      refine gcv2 (pc' := 45) cwX7_117 cf7 dX7_holds_42 rfl l7 (Nat.le_of_ble_eq_true rfl) (Nat.le_of_ble_eq_true rfl) (Nat.le_of_ble_eq_true rfl) (Nat.le_of_ble_eq_true rfl) (Nat.le_of_ble_eq_true rfl) (kX7_holdsAt (w := w) l7 r225 l0 l1 l12 r32 hw hm ?_)
      refine g_iret dX7_holds_45 rfl (bI_nar _) (Nat.le_of_ble_eq_true rfl) (Nat.le_of_ble_eq_true rfl) ?_
      exact hQ _ _ (Or.inr (Or.inr ⟨k, n, hk, rfl, hm, rfl, rfl, rfl⟩))
    · refine g_throw (thr1 rfl) rfl (Nat.le_of_ble_eq_true rfl) dX7_holds_23 dX7_holds_26 dX7_holds_27 dX7_holds_30 (Nat.le_of_ble_eq_true rfl) (Nat.le_of_ble_eq_true rfl) ?_
      exact hQ _ _ (Or.inr (Or.inl ⟨bdp h5, bdn h20, rfl, rfl⟩))
  · refine g_throw (thr2 rfl) rfl (Nat.le_of_ble_eq_true rfl) dX7_holds_8 dX7_holds_11 dX7_holds_12 dX7_holds_15 (Nat.le_of_ble_eq_true rfl) (Nat.le_of_ble_eq_true rfl) ?_
    exact hQ _ _ (Or.inl ⟨bdn h5, rfl, rfl⟩)

set_option maxRecDepth 100000 in
set_option maxHeartbeats 2000000 in
theorem kX7_next {E : gE} {S : gS} {j m : Int32} {Q : Option gV → gS → Prop} (hD : DeskOk S) (hd : ∃ w, DayOk S w) (hQ : ∀ r S1, oNext S j m r S1 → Q r S1) : gRunT E mX7_next 7 1 6 [vR 7 0 0, vI j, vI m] S [] Q := by
  refine gRunT_of (ls := [some (vR 7 0 0), some (vI j), some (vI m)]) rfl (Nat.le_of_ble_eq_true rfl) rfl (fun ad => ?_)
  obtain ⟨l7, l4, l6, l0, l3, l10, l11, l13, l14, r224, r225, r226, r227, r128, r129, r192, r96⟩ := id hD.1
  have hn := hD.2.1
  have hn6 := hD.2.2.1
  obtain ⟨w, hw⟩ := hd
  refine g_aload_n (pc' := 1) dX7_next_0 rfl rfl ?_
  refine g_iload_n (pc' := 2) dX7_next_1 rfl rfl ?_
  refine gcv1 (pc' := 5) cwX7_86 cf7 dX7_next_2 rfl l7 (Nat.le_of_ble_eq_true rfl) (Nat.le_of_ble_eq_true rfl) (Nat.le_of_ble_eq_true rfl) (Nat.le_of_ble_eq_true rfl) (Nat.le_of_ble_eq_true rfl) (kX7_isJob l7 ?_)
  refine g_if_ne dX7_next_5 (tg := 16) (pc' := 8) (by decide) rfl (fun h5 => ?_) (fun h5 => ?_)
  · obtain ⟨k, hk, rfl⟩ := isJob_nat hD (bdp h5)
    obtain ⟨hJ, ra, l1, l12, r65, r32⟩ := hD.2.2.2 k hk
    have l2 := hJ.1
    refine g_iload_n (pc' := 17) dX7_next_16 rfl rfl ?_
    refine gcs1 (pc' := 20) cwX7_111 dX7_next_17 rfl (Nat.le_of_ble_eq_true rfl) (Nat.le_of_ble_eq_true rfl) (Nat.le_of_ble_eq_true rfl) (Nat.le_of_ble_eq_true rfl) (Nat.le_of_ble_eq_true rfl) (kX7_isMinute ?_)
    refine g_if_ne dX7_next_20 (tg := 31) (pc' := 23) (by decide) rfl (fun h20 => ?_) (fun h20 => ?_)
    · have hM : isM m := bdp h20
      obtain ⟨n, hm, rfl⟩ := isM_nat hM
      refine g_aload_n (pc' := 32) dX7_next_31 rfl rfl ?_
      refine g_aload_n (pc' := 33) dX7_next_32 rfl rfl ?_
      refine ggX7_32 (pc' := 36) rfl dX7_next_33 rfl l7 r227 ?_
      refine g_iload_n (pc' := 37) dX7_next_36 rfl rfl ?_
      refine g_aaldJ (pc' := 38) (n := k) dX7_next_37 rfl (by decide) rfl rfl (show k < 6 by omega) l14 ra ?_
      refine ggX7_114 (pc' := 41) rfl dX7_next_38 rfl l2 r65 ?_
      refine g_iload_n (pc' := 42) dX7_next_41 rfl rfl ?_
      refine g_ldc (pc' := 44) dX7_next_42 rfl ckX7_121 ?_
      rw [show (19999999 : Int32) = nI 19999999 from rfl]
      refine gcv3 (pc' := 47) cwX7_122 cf7 dX7_next_44 rfl l7 (Nat.le_of_ble_eq_true rfl) (Nat.le_of_ble_eq_true rfl) (Nat.le_of_ble_eq_true rfl) (Nat.le_of_ble_eq_true rfl) (Nat.le_of_ble_eq_true rfl) (kX7_firstBehind (w0 := w) (l := 19999999) l7 r225 l0 l1 l12 r32 hw (by omega) (by omega) ?_)
      intro T hT
      refine g_iret dX7_next_47 rfl rfl (Nat.le_of_ble_eq_true rfl) (Nat.le_of_ble_eq_true rfl) ?_
      exact hQ _ _ (Or.inr (Or.inr ⟨k, n, hk, rfl, hm, rfl, rfl, hT⟩))
    · refine g_throw (thr1 rfl) rfl (Nat.le_of_ble_eq_true rfl) dX7_next_23 dX7_next_26 dX7_next_27 dX7_next_30 (Nat.le_of_ble_eq_true rfl) (Nat.le_of_ble_eq_true rfl) ?_
      exact hQ _ _ (Or.inr (Or.inl ⟨bdp h5, bdn h20, rfl, rfl⟩))
  · refine g_throw (thr2 rfl) rfl (Nat.le_of_ble_eq_true rfl) dX7_next_8 dX7_next_11 dX7_next_12 dX7_next_15 (Nat.le_of_ble_eq_true rfl) (Nat.le_of_ble_eq_true rfl) ?_
    exact hQ _ _ (Or.inl ⟨bdn h5, rfl, rfl⟩)

set_option maxRecDepth 100000 in
set_option maxHeartbeats 2000000 in
theorem kX7_part {E : gE} {S : gS} {m p : Int32} {Q : Option gV → gS → Prop} (hD : DeskOk S) (hd : ∃ w, DayOk S w) (hQ : ∀ r S1, oPart S m p r S1 → Q r S1) : gRunT E mX7_part 7 1 6 [vR 7 0 0, vI m, vI p] S [] Q := by
  refine gRunT_of (ls := [some (vR 7 0 0), some (vI m), some (vI p)]) rfl (Nat.le_of_ble_eq_true rfl) rfl (fun ad => ?_)
  obtain ⟨l7, l4, l6, l0, l3, l10, l11, l13, l14, r224, r225, r226, r227, r128, r129, r192, r96⟩ := id hD.1
  have hn := hD.2.1
  have hn6 := hD.2.2.1
  obtain ⟨w, hw⟩ := hd
  refine g_iload_n (pc' := 1) dX7_part_0 rfl rfl ?_
  refine gcs1 (pc' := 4) cwX7_111 dX7_part_1 rfl (Nat.le_of_ble_eq_true rfl) (Nat.le_of_ble_eq_true rfl) (Nat.le_of_ble_eq_true rfl) (Nat.le_of_ble_eq_true rfl) (Nat.le_of_ble_eq_true rfl) (kX7_isMinute ?_)
  refine g_if_eq dX7_part_4 (tg := 16) (pc' := 7) (by decide) rfl (fun h4 => ?_) (fun h4 => ?_)
  · refine g_throw (thr1 rfl) rfl (Nat.le_of_ble_eq_true rfl) dX7_part_16 dX7_part_19 dX7_part_20 dX7_part_23 (Nat.le_of_ble_eq_true rfl) (Nat.le_of_ble_eq_true rfl) ?_
    refine hQ _ _ (Or.inl ⟨fun z => ?_, rfl, rfl⟩)
    first
      | exact bdn h4 z.1
      | exact Int32.not_lt.mpr z.2.1 h8
      | exact h13 z.2.2
  · refine g_iload_n (pc' := 8) dX7_part_7 rfl rfl ?_
    refine g_if_lt dX7_part_8 (tg := 16) (pc' := 11) (by decide) rfl (fun h8 => ?_) (fun h8 => ?_)
    · refine g_throw (thr1 rfl) rfl (Nat.le_of_ble_eq_true rfl) dX7_part_16 dX7_part_19 dX7_part_20 dX7_part_23 (Nat.le_of_ble_eq_true rfl) (Nat.le_of_ble_eq_true rfl) ?_
      refine hQ _ _ (Or.inl ⟨fun z => ?_, rfl, rfl⟩)
      first
        | exact bdn h4 z.1
        | exact Int32.not_lt.mpr z.2.1 h8
        | exact h13 z.2.2
    · refine g_iload_n (pc' := 12) dX7_part_11 rfl rfl ?_
      refine g_iconst (pc' := 13) (v := 5) dX7_part_12 rfl rfl ?_
      refine g_icmp_le dX7_part_13 (tg := 24) (pc' := 16) (by decide) rfl (fun h13 => ?_) (fun h13 => ?_)
      · have hM : isM m := bdp h4
        obtain ⟨n, hm, rfl⟩ := isM_nat hM
        obtain ⟨q, hq, rfl⟩ : ∃ q, q ≤ 5 ∧ p = nI q := by
          obtain ⟨q, q1, q2⟩ := nI_of (x := p) h8
          refine ⟨q, ?_, q2⟩
          rw [q2, show (5 : Int32) = nI 5 from rfl, nI_leI q1 (by decide)] at h13
          exact h13
        refine g_aload_n (pc' := 25) dX7_part_24 rfl rfl ?_
        refine ggX7_19 (pc' := 28) rfl dX7_part_25 rfl l7 r225 ?_
        refine g_iload_n (pc' := 29) dX7_part_28 rfl rfl ?_
        refine g_sipush (pc' := 32) (v := 1440) dX7_part_29 rfl rfl ?_
        refine g_idiv (pc' := 33) dX7_part_32 rfl (by decide) ?_
        rw [show (1440 : Int32) = nI 1440 from rfl, pk_div (by omega) (by decide) (by decide)]
        refine gcv1 (pc' := 36) cwX7_126 cf0 dX7_part_33 rfl l0 (Nat.le_of_ble_eq_true rfl) (Nat.le_of_ble_eq_true rfl) (Nat.le_of_ble_eq_true rfl) (Nat.le_of_ble_eq_true rfl) (Nat.le_of_ble_eq_true rfl) (kX0_turnTo (w := w) l0 hw (by omega) ?_)
        refine g_iload_n (pc' := 37) dX7_part_36 rfl rfl ?_
        have hT : DayOk (tTurn S (n / 1440)) (n / 1440) := tTurn_ok (by omega)
        have l7 : lv (tTurn S (n / 1440)) 7 0 0 := l7
        have l0 : lv (tTurn S (n / 1440)) 0 0 0 := l0
        have hqq : q = 0 ∨ q = 1 ∨ q = 2 ∨ q = 3 ∨ q = 4 ∨ q = 5 := by omega
        rcases hqq with rfl | rfl | rfl | rfl | rfl | rfl
        · refine g_tabIn (off := 35) dX7_part_37 (by decide) (by decide) rfl (tg := 72) (by decide) ?_
          refine g_aload_n (pc' := 73) dX7_part_72 rfl rfl ?_
          refine ggX7_19 (pc' := 76) rfl dX7_part_73 rfl l7 r225 ?_
          refine ggX7_130 (pc' := 79) rfl dX7_part_76 rfl l0 ?_
          rw [hT.2.2.1]
          refine g_iret dX7_part_79 rfl rfl (Nat.le_of_ble_eq_true rfl) (Nat.le_of_ble_eq_true rfl) ?_
          exact hQ _ _ (Or.inr ⟨n, 0, hm, rfl, by omega, rfl, rfl, rfl⟩)
        · refine g_tabIn (off := 43) dX7_part_37 (by decide) (by decide) rfl (tg := 80) (by decide) ?_
          refine g_aload_n (pc' := 81) dX7_part_80 rfl rfl ?_
          refine ggX7_19 (pc' := 84) rfl dX7_part_81 rfl l7 r225 ?_
          refine ggX7_133 (pc' := 87) rfl dX7_part_84 rfl l0 ?_
          rw [hT.2.2.2.1]
          refine g_iret dX7_part_87 rfl rfl (Nat.le_of_ble_eq_true rfl) (Nat.le_of_ble_eq_true rfl) ?_
          exact hQ _ _ (Or.inr ⟨n, 1, hm, rfl, by omega, rfl, rfl, rfl⟩)
        · refine g_tabIn (off := 51) dX7_part_37 (by decide) (by decide) rfl (tg := 88) (by decide) ?_
          refine g_aload_n (pc' := 89) dX7_part_88 rfl rfl ?_
          refine ggX7_19 (pc' := 92) rfl dX7_part_89 rfl l7 r225 ?_
          refine ggX7_136 (pc' := 95) rfl dX7_part_92 rfl l0 ?_
          rw [hT.2.2.2.2]
          refine g_iret dX7_part_95 rfl rfl (Nat.le_of_ble_eq_true rfl) (Nat.le_of_ble_eq_true rfl) ?_
          exact hQ _ _ (Or.inr ⟨n, 2, hm, rfl, by omega, rfl, rfl, rfl⟩)
        · refine g_tabIn (off := 59) dX7_part_37 (by decide) (by decide) rfl (tg := 96) (by decide) ?_
          refine g_iload_n (pc' := 97) dX7_part_96 rfl rfl ?_
          refine g_sipush (pc' := 100) (v := 1440) dX7_part_97 rfl rfl ?_
          refine g_irem (pc' := 101) dX7_part_100 rfl (by decide) ?_
          rw [show (1440 : Int32) = nI 1440 from rfl, nI_rem (by omega) (by decide) (by decide)]
          refine g_bipush (pc' := 103) (v := 60) dX7_part_101 rfl rfl ?_
          refine g_idiv (pc' := 104) dX7_part_103 rfl (by decide) ?_
          rw [show (60 : Int32) = nI 60 from rfl, pk_div (by omega) (by decide) (by decide)]
          refine g_iret dX7_part_104 rfl rfl (Nat.le_of_ble_eq_true rfl) (Nat.le_of_ble_eq_true rfl) ?_
          exact hQ _ _ (Or.inr ⟨n, 3, hm, rfl, by omega, rfl, rfl, rfl⟩)
        · refine g_tabIn (off := 68) dX7_part_37 (by decide) (by decide) rfl (tg := 105) (by decide) ?_
          refine g_iload_n (pc' := 106) dX7_part_105 rfl rfl ?_
          refine g_bipush (pc' := 108) (v := 60) dX7_part_106 rfl rfl ?_
          refine g_irem (pc' := 109) dX7_part_108 rfl (by decide) ?_
          rw [show (60 : Int32) = nI 60 from rfl, nI_rem (by omega) (by decide) (by decide)]
          refine g_iret dX7_part_109 rfl rfl (Nat.le_of_ble_eq_true rfl) (Nat.le_of_ble_eq_true rfl) ?_
          exact hQ _ _ (Or.inr ⟨n, 4, hm, rfl, by omega, rfl, rfl, rfl⟩)
        · refine g_tabOut dX7_part_37 (Or.inr (by decide)) (tg := 110) (by decide) ?_
          refine g_aload_n (pc' := 111) dX7_part_110 rfl rfl ?_
          refine ggX7_19 (pc' := 114) rfl dX7_part_111 rfl l7 r225 ?_
          refine gcv0 (pc' := 117) cwX7_139 cf0 dX7_part_114 rfl l0 (Nat.le_of_ble_eq_true rfl) (Nat.le_of_ble_eq_true rfl) (Nat.le_of_ble_eq_true rfl) (Nat.le_of_ble_eq_true rfl) (Nat.le_of_ble_eq_true rfl) (kX0_weekday (w := n / 1440) l0 hT.2.1 (by omega) ?_)
          refine g_iret dX7_part_117 rfl rfl (Nat.le_of_ble_eq_true rfl) (Nat.le_of_ble_eq_true rfl) ?_
          exact hQ _ _ (Or.inr ⟨n, 5, hm, rfl, by omega, rfl, rfl, rfl⟩)
        
      · refine g_throw (thr1 rfl) rfl (Nat.le_of_ble_eq_true rfl) dX7_part_16 dX7_part_19 dX7_part_20 dX7_part_23 (Nat.le_of_ble_eq_true rfl) (Nat.le_of_ble_eq_true rfl) ?_
        refine hQ _ _ (Or.inl ⟨fun z => ?_, rfl, rfl⟩)
        first
          | exact bdn h4 z.1
          | exact Int32.not_lt.mpr z.2.1 h8
          | exact h13 z.2.2

set_option maxRecDepth 100000 in
set_option maxHeartbeats 2000000 in
theorem kX7_set {E : gE} {S : gS} {m : Int32} {Q : Option gV → gS → Prop} (hD : DeskOk S) (hQ : ∀ r S1, oSet S m r S1 → Q r S1) : gRunT E mX7_set 7 1 6 [vR 7 0 0, vI m] S [] Q := by
  refine gRunT_of (ls := [some (vR 7 0 0), some (vI m)]) rfl (Nat.le_of_ble_eq_true rfl) rfl (fun ad => ?_)
  obtain ⟨l7, l4, l6, l0, l3, l10, l11, l13, l14, r224, r225, r226, r227, r128, r129, r192, r96⟩ := id hD.1
  have hn := hD.2.1
  have hn6 := hD.2.2.1
  refine g_aload_n (pc' := 1) dX7_set_0 rfl rfl ?_
  refine ggX7_49 (pc' := 4) rfl dX7_set_1 rfl l7 ?_
  refine g_if_ne dX7_set_4 (tg := 14) (pc' := 7) (by decide) rfl (fun h4 => ?_) (fun h4 => ?_)
  · refine g_throw (thr3 rfl) rfl (Nat.le_of_ble_eq_true rfl) dX7_set_14 dX7_set_17 dX7_set_18 dX7_set_21 (Nat.le_of_ble_eq_true rfl) (Nat.le_of_ble_eq_true rfl) ?_
    first
      | exact hQ _ _ (Or.inl ⟨Or.inl h4, rfl, rfl⟩)
      | exact hQ _ _ (Or.inl ⟨Or.inr (bdp h11), rfl, rfl⟩)
  · refine g_aload_n (pc' := 8) dX7_set_7 rfl rfl ?_
    refine gcv0 (pc' := 11) cwX7_149 cf7 dX7_set_8 rfl l7 (Nat.le_of_ble_eq_true rfl) (Nat.le_of_ble_eq_true rfl) (Nat.le_of_ble_eq_true rfl) (Nat.le_of_ble_eq_true rfl) (Nat.le_of_ble_eq_true rfl) (kX7_isAnyRunUnderWay hD ?_)
    refine g_if_eq dX7_set_11 (tg := 22) (pc' := 14) (by decide) rfl (fun h11 => ?_) (fun h11 => ?_)
    · refine g_iload_n (pc' := 23) dX7_set_22 rfl rfl ?_
      refine g_aload_n (pc' := 24) dX7_set_23 rfl rfl ?_
      refine ggX7_46 (pc' := 27) rfl dX7_set_24 rfl l7 ?_
      refine g_icmp_lt dX7_set_27 (tg := 36) (pc' := 30) (by decide) rfl (fun h27 => ?_) (fun h27 => ?_)
      · refine g_throw (thr1 rfl) rfl (Nat.le_of_ble_eq_true rfl) dX7_set_36 dX7_set_39 dX7_set_40 dX7_set_43 (Nat.le_of_ble_eq_true rfl) (Nat.le_of_ble_eq_true rfl) ?_
        first
          | exact hQ _ _ (Or.inr ⟨⟨h4, Decidable.not_not.mp (bdn h11)⟩, Or.inl ⟨Or.inl h27, rfl, rfl⟩⟩)
          | exact hQ _ _ (Or.inr ⟨⟨h4, Decidable.not_not.mp (bdn h11)⟩, Or.inl ⟨Or.inr h33, rfl, rfl⟩⟩)
      · refine g_iload_n (pc' := 31) dX7_set_30 rfl rfl ?_
        refine g_ldc (pc' := 33) dX7_set_31 rfl ckX7_142 ?_
        refine g_icmp_lt dX7_set_33 (tg := 44) (pc' := 36) (by decide) rfl (fun h33 => ?_) (fun h33 => ?_)
        · refine g_aload_n (pc' := 45) dX7_set_44 rfl rfl ?_
          refine g_iload_n (pc' := 46) dX7_set_45 rfl rfl ?_
          refine gpX7_46 (pc' := 49) rfl dX7_set_46 rfl l7 ?_
          refine g_vret dX7_set_49 rfl (Nat.le_of_ble_eq_true rfl) (Nat.le_of_ble_eq_true rfl) ?_
          exact hQ _ _ (Or.inr ⟨⟨h4, Decidable.not_not.mp (bdn h11)⟩, Or.inr ⟨⟨h27, h33⟩, rfl, rfl⟩⟩)
        · refine g_throw (thr1 rfl) rfl (Nat.le_of_ble_eq_true rfl) dX7_set_36 dX7_set_39 dX7_set_40 dX7_set_43 (Nat.le_of_ble_eq_true rfl) (Nat.le_of_ble_eq_true rfl) ?_
          first
            | exact hQ _ _ (Or.inr ⟨⟨h4, Decidable.not_not.mp (bdn h11)⟩, Or.inl ⟨Or.inl h27, rfl, rfl⟩⟩)
            | exact hQ _ _ (Or.inr ⟨⟨h4, Decidable.not_not.mp (bdn h11)⟩, Or.inl ⟨Or.inr h33, rfl, rfl⟩⟩)
    · refine g_throw (thr3 rfl) rfl (Nat.le_of_ble_eq_true rfl) dX7_set_14 dX7_set_17 dX7_set_18 dX7_set_21 (Nat.le_of_ble_eq_true rfl) (Nat.le_of_ble_eq_true rfl) ?_
      first
        | exact hQ _ _ (Or.inl ⟨Or.inl h4, rfl, rfl⟩)
        | exact hQ _ _ (Or.inl ⟨Or.inr (bdp h11), rfl, rfl⟩)

set_option maxRecDepth 100000 in
set_option maxHeartbeats 2000000 in
theorem kX7_end {E : gE} {S : gS} {j t w : Int32} {x : Nat} {Q : Option gV → gS → Prop} (hD : DeskOk S) (hx : fI S 97 0 0 = nI x) (hb : x + 8 < 2 ^ 30) (hQ : ∀ r S1, oEnd S j t w r S1 → Q r S1) : gRunT E mX7_end 7 1 6 [vR 7 0 0, vI j, vI t, vI w] S [] Q := by
  refine gRunT_of (ls := [some (vR 7 0 0), some (vI j), some (vI t), some (vI w)]) rfl (Nat.le_of_ble_eq_true rfl) rfl (fun ad => ?_)
  obtain ⟨l7, l4, l6, l0, l3, l10, l11, l13, l14, r224, r225, r226, r227, r128, r129, r192, r96⟩ := id hD.1
  have hn := hD.2.1
  have hn6 := hD.2.2.1
  refine g_aload_n (pc' := 1) dX7_end_0 rfl rfl ?_
  refine g_iload_n (pc' := 2) dX7_end_1 rfl rfl ?_
  refine g_iload_n (pc' := 3) dX7_end_2 rfl rfl ?_
  refine gcv2 (pc' := 6) cwX7_153 cf7 dX7_end_3 rfl l7 (Nat.le_of_ble_eq_true rfl) (Nat.le_of_ble_eq_true rfl) (Nat.le_of_ble_eq_true rfl) (Nat.le_of_ble_eq_true rfl) (Nat.le_of_ble_eq_true rfl) (kX7_isTask hD ?_)
  refine g_if_ne dX7_end_6 (tg := 17) (pc' := 9) (by decide) rfl (fun h6 => ?_) (fun h6 => ?_)
  · obtain ⟨k, n, hk, hc, rfl, rfl⟩ := isTk_nat hD (bbp h6)
    obtain ⟨hJ, ra, l1, l12, r65, r32⟩ := hD.2.2.2 k hk
    have l2 := hJ.1
    have hc6 := hJ.2.2.2.2.1
    refine g_aload_n (pc' := 18) dX7_end_17 rfl rfl ?_
    refine ggX7_49 (pc' := 21) rfl dX7_end_18 rfl l7 ?_
    refine g_if_ne dX7_end_21 (tg := 42) (pc' := 24) (by decide) rfl (fun h21 => ?_) (fun h21 => ?_)
    · refine g_throw (thr3 rfl) rfl (Nat.le_of_ble_eq_true rfl) dX7_end_42 dX7_end_45 dX7_end_46 dX7_end_49 (Nat.le_of_ble_eq_true rfl) (Nat.le_of_ble_eq_true rfl) ?_
      first
        | exact hQ _ _ (Or.inr ⟨k, n, hk, hc, rfl, rfl, Or.inl ⟨Or.inl h21, rfl, rfl⟩⟩)
        | exact hQ _ _ (Or.inr ⟨k, n, hk, hc, rfl, rfl, Or.inl ⟨Or.inr h39, rfl, rfl⟩⟩)
    · refine g_aload_n (pc' := 25) dX7_end_24 rfl rfl ?_
      refine ggX7_32 (pc' := 28) rfl dX7_end_25 rfl l7 r227 ?_
      refine g_iload_n (pc' := 29) dX7_end_28 rfl rfl ?_
      refine g_aaldJ (pc' := 30) (n := k) dX7_end_29 rfl (by decide) rfl rfl (show k < 6 by omega) l14 ra ?_
      refine ggX7_157 (pc' := 33) rfl dX7_end_30 rfl l2 hJ.2.2.1 ?_
      refine g_iload_n (pc' := 34) dX7_end_33 rfl rfl ?_
      refine g_aaldT (pc' := 35) (n := n) dX7_end_34 rfl (by decide) rfl rfl (show n < 6 by omega) hJ.2.1 (hJ.2.2.2.2.2 n hc).2 ?_
      refine ggX7_161 (pc' := 38) rfl dX7_end_35 rfl (hJ.2.2.2.2.2 n hc).1 ?_
      refine g_iconst (pc' := 39) (v := 3) dX7_end_38 rfl rfl ?_
      refine g_icmp_eq dX7_end_39 (tg := 50) (pc' := 42) (by decide) rfl (fun h39 => ?_) (fun h39 => ?_)
      · refine g_aload_n (pc' := 51) dX7_end_50 rfl rfl ?_
        refine g_iload_n (pc' := 52) dX7_end_51 rfl rfl ?_
        refine g_iload_n (pc' := 53) dX7_end_52 rfl rfl ?_
        refine g_iload_n (pc' := 54) dX7_end_53 rfl rfl ?_
        refine gcv3 (pc' := 57) cwX7_164 cf7 dX7_end_54 rfl l7 (Nat.le_of_ble_eq_true rfl) (Nat.le_of_ble_eq_true rfl) (Nat.le_of_ble_eq_true rfl) (Nat.le_of_ble_eq_true rfl) (Nat.le_of_ble_eq_true rfl) (kX7_endTask (x := x) hD hk hc hx hb ?_)
        have gT := tEnd_go (S := S) (j := k) (t := n) (w := w) hc6
        have hE := hD.go gT
        have hjE : k < jn (tEnd S k n w) := by rw [tKeep_jn (gT.1.up (fun _ z => d12 (d01 z)))]; exact hk
        have hcE : n < jc (tEnd S k n w) k := by rw [tKeep_jc (gT.1.up (fun _ z => d12 (d01 z)))]; exact hc
        obtain ⟨hJE, raE, -⟩ := hE.2.2.2 k hjE
        have rE : fR (tEnd S k n w) 227 0 0 = some (14, 0, 0) := by rw [gT.1.2.1]; exact r227
        refine g_aload_n (pc' := 58) dX7_end_57 rfl rfl ?_
        refine ggX7_32 (pc' := 61) rfl dX7_end_58 rfl hE.1.1 rE ?_
        refine g_iload_n (pc' := 62) dX7_end_61 rfl rfl ?_
        refine g_aaldJ (pc' := 63) (n := k) dX7_end_62 rfl (by decide) rfl rfl (show k < 6 by omega) hE.1.2.2.2.2.2.2.2.2.1 raE ?_
        refine ggX7_157 (pc' := 66) rfl dX7_end_63 rfl hJE.1 hJE.2.2.1 ?_
        refine g_iload_n (pc' := 67) dX7_end_66 rfl rfl ?_
        refine g_aaldT (pc' := 68) (n := n) dX7_end_67 rfl (by decide) rfl rfl (show n < 6 by omega) hJE.2.1 (hJE.2.2.2.2.2 n hcE).2 ?_
        refine ggX7_161 (pc' := 71) rfl dX7_end_68 rfl (hJE.2.2.2.2.2 n hcE).1 ?_
        refine g_iret dX7_end_71 rfl rfl (Nat.le_of_ble_eq_true rfl) (Nat.le_of_ble_eq_true rfl) ?_
        exact hQ _ _ (Or.inr ⟨k, n, hk, hc, rfl, rfl, Or.inr ⟨⟨h21, h39⟩, rfl, rfl⟩⟩)
      · refine g_throw (thr3 rfl) rfl (Nat.le_of_ble_eq_true rfl) dX7_end_42 dX7_end_45 dX7_end_46 dX7_end_49 (Nat.le_of_ble_eq_true rfl) (Nat.le_of_ble_eq_true rfl) ?_
        first
          | exact hQ _ _ (Or.inr ⟨k, n, hk, hc, rfl, rfl, Or.inl ⟨Or.inl h21, rfl, rfl⟩⟩)
          | exact hQ _ _ (Or.inr ⟨k, n, hk, hc, rfl, rfl, Or.inl ⟨Or.inr h39, rfl, rfl⟩⟩)
  · refine g_throw (thr2 rfl) rfl (Nat.le_of_ble_eq_true rfl) dX7_end_9 dX7_end_12 dX7_end_13 dX7_end_16 (Nat.le_of_ble_eq_true rfl) (Nat.le_of_ble_eq_true rfl) ?_
    exact hQ _ _ (Or.inl ⟨bbn h6, rfl, rfl⟩)

set_option maxRecDepth 100000 in
set_option maxHeartbeats 2000000 in
theorem kX7_down {E : gE} {S : gS} {d : Int32} {b m x : Nat} {Q : Option gV → gS → Prop} (hG : GoodD S x m) (hd1 : d = 0 ∨ d = 1) (hbs : fI S 233 0 0 = nI b) (hbm : b ≤ m) (hm2 : m < 20000000) (hb : x + 306 < 2 ^ 30) (hQ : ∀ r S1, oDown S d b m r S1 → Q r S1) : gRunT E mX7_down 7 1 6 [vR 7 0 0, vI d] S [] Q := by
  refine gRunT_of (ls := [some (vR 7 0 0), some (vI d)]) rfl (Nat.le_of_ble_eq_true rfl) rfl (fun ad => ?_)
  obtain ⟨hD, hd, hm, hs, hs6, hx⟩ := hG
  obtain ⟨l7, l4, l6, l0, l3, l10, l11, l13, l14, r224, r225, r226, r227, r128, r129, r192, r96⟩ := id hD.1
  have hn := hD.2.1
  have hn6 := hD.2.2.1
  refine g_iload_n (pc' := 1) dX7_down_0 rfl rfl ?_
  refine g_aload_n (pc' := 2) dX7_down_1 rfl rfl ?_
  refine ggX7_49 (pc' := 5) rfl dX7_down_2 rfl l7 ?_
  refine g_icmp_ne dX7_down_5 (tg := 16) (pc' := 8) (by decide) rfl (fun h5 => ?_) (fun h5 => ?_)
  · refine g_aload_n (pc' := 17) dX7_down_16 rfl rfl ?_
    refine g_iload_n (pc' := 18) dX7_down_17 rfl rfl ?_
    refine gpX7_49 (pc' := 21) rfl dX7_down_18 rfl l7 hd1 ?_
    refine g_iload_n (pc' := 22) dX7_down_21 rfl rfl ?_
    refine g_if_eq dX7_down_22 (tg := 35) (pc' := 25) (by decide) rfl (fun h22 => ?_) (fun h22 => ?_)
    · refine g_aload_n (pc' := 36) dX7_down_35 rfl rfl ?_
      refine gcv0 (pc' := 39) cwX7_168 cf7 dX7_down_36 rfl l7 (Nat.le_of_ble_eq_true rfl) (Nat.le_of_ble_eq_true rfl) (Nat.le_of_ble_eq_true rfl) (Nat.le_of_ble_eq_true rfl) (Nat.le_of_ble_eq_true rfl) (kX7_catchUp (b := b) (m := m) (x := x) (S := sfI S 232 0 0 d) (hD.keep (tKeep_sfI rfl)) hd hbs hm hbm hm2 hs hs6 hx hb ?_)
      intro T hT
      refine g_iret dX7_down_39 rfl rfl (Nat.le_of_ble_eq_true rfl) (Nat.le_of_ble_eq_true rfl) ?_
      exact hQ _ _ (Or.inr (Or.inr ⟨h5, h22, T, hT, rfl, rfl⟩))
    · refine g_aload_n (pc' := 26) dX7_down_25 rfl rfl ?_
      refine g_aload_n (pc' := 27) dX7_down_26 rfl rfl ?_
      refine ggX7_46 (pc' := 30) rfl dX7_down_27 rfl l7 ?_
      refine gpX7_53 (pc' := 33) rfl dX7_down_30 rfl l7 ?_
      refine g_iconst (pc' := 34) (v := 0) dX7_down_33 rfl rfl ?_
      refine g_iret dX7_down_34 rfl rfl (Nat.le_of_ble_eq_true rfl) (Nat.le_of_ble_eq_true rfl) ?_
      exact hQ _ _ (Or.inr (Or.inl ⟨h5, h22, rfl, rfl⟩))
  · refine g_throw (thr3 rfl) rfl (Nat.le_of_ble_eq_true rfl) dX7_down_8 dX7_down_11 dX7_down_12 dX7_down_15 (Nat.le_of_ble_eq_true rfl) (Nat.le_of_ble_eq_true rfl) ?_
    exact hQ _ _ (Or.inl ⟨h5, rfl, rfl⟩)

set_option maxRecDepth 100000 in
set_option maxHeartbeats 2000000 in
theorem kX7_entry {E : gE} {S : gS} {b p : Int32} {x : Nat} {Q : Option gV → gS → Prop} (hD : DeskOk S) (hx : fI S 97 0 0 = nI x) (hb : x < 2 ^ 30) (hQ : ∀ r S1, oEntry S b p r S1 → Q r S1) : gRunT E mX7_entry 7 1 6 [vR 7 0 0, vI b, vI p] S [] Q := by
  refine gRunT_of (ls := [some (vR 7 0 0), some (vI b), some (vI p)]) rfl (Nat.le_of_ble_eq_true rfl) rfl (fun ad => ?_)
  obtain ⟨l7, l4, l6, l0, l3, l10, l11, l13, l14, r224, r225, r226, r227, r128, r129, r192, r96⟩ := id hD.1
  have hn := hD.2.1
  have hn6 := hD.2.2.1
  refine g_aload_n (pc' := 1) dX7_entry_0 rfl rfl ?_
  refine ggX7_26 (pc' := 4) rfl dX7_entry_1 rfl l7 r226 ?_
  refine g_iload_n (pc' := 5) dX7_entry_4 rfl rfl ?_
  refine gcv1 (pc' := 8) cwX7_183 cf3 dX7_entry_5 rfl l3 (Nat.le_of_ble_eq_true rfl) (Nat.le_of_ble_eq_true rfl) (Nat.le_of_ble_eq_true rfl) (Nat.le_of_ble_eq_true rfl) (Nat.le_of_ble_eq_true rfl) (kX3_keeps l3 ?_)
  refine g_if_eq dX7_entry_8 (tg := 20) (pc' := 11) (by decide) rfl (fun h8 => ?_) (fun h8 => ?_)
  · refine g_throw (thr2 rfl) rfl (Nat.le_of_ble_eq_true rfl) dX7_entry_20 dX7_entry_23 dX7_entry_24 dX7_entry_27 (Nat.le_of_ble_eq_true rfl) (Nat.le_of_ble_eq_true rfl) ?_
    refine hQ _ _ (Or.inl ⟨fun z => ?_, rfl, rfl⟩)
    first
      | exact bdn h8 z.1
      | exact Int32.not_lt.mpr z.2.1 h12
      | exact h17 z.2.2
  · refine g_iload_n (pc' := 12) dX7_entry_11 rfl rfl ?_
    refine g_if_lt dX7_entry_12 (tg := 20) (pc' := 15) (by decide) rfl (fun h12 => ?_) (fun h12 => ?_)
    · refine g_throw (thr2 rfl) rfl (Nat.le_of_ble_eq_true rfl) dX7_entry_20 dX7_entry_23 dX7_entry_24 dX7_entry_27 (Nat.le_of_ble_eq_true rfl) (Nat.le_of_ble_eq_true rfl) ?_
      refine hQ _ _ (Or.inl ⟨fun z => ?_, rfl, rfl⟩)
      first
        | exact bdn h8 z.1
        | exact Int32.not_lt.mpr z.2.1 h12
        | exact h17 z.2.2
    · refine g_iload_n (pc' := 16) dX7_entry_15 rfl rfl ?_
      refine g_iconst (pc' := 17) (v := 4) dX7_entry_16 rfl rfl ?_
      refine g_icmp_lt dX7_entry_17 (tg := 28) (pc' := 20) (by decide) rfl (fun h17 => ?_) (fun h17 => ?_)
      · have h9 := bdp h8
        obtain ⟨k, hk64, rfl⟩ := isU_nat (n := 64) (by decide) ⟨h9.1, h9.2.1⟩
        have hk : k < x := by
          have z := h9.2.2
          rw [hx, nI_ltI (by omega) (by omega)] at z
          exact z
        obtain ⟨q, hq, rfl⟩ := isU_nat (n := 4) (by decide) ⟨Int32.not_lt.mp h12, h17⟩
        refine g_aload_n (pc' := 29) dX7_entry_28 rfl rfl ?_
        refine ggX7_26 (pc' := 32) rfl dX7_entry_29 rfl l7 r226 ?_
        refine g_iload_n (pc' := 33) dX7_entry_32 rfl rfl ?_
        refine g_iload_n (pc' := 34) dX7_entry_33 rfl rfl ?_
        refine gcv2 (pc' := 37) cwX7_186 cf3 dX7_entry_34 rfl l3 (Nat.le_of_ble_eq_true rfl) (Nat.le_of_ble_eq_true rfl) (Nat.le_of_ble_eq_true rfl) (Nat.le_of_ble_eq_true rfl) (Nat.le_of_ble_eq_true rfl) (kX3_read (n := x) l3 l13 r96 hb hx hk hq ?_)
        refine g_iret dX7_entry_37 rfl rfl (Nat.le_of_ble_eq_true rfl) (Nat.le_of_ble_eq_true rfl) ?_
        exact hQ _ _ (Or.inr ⟨x, k, q, hb, hx, hk, hk64, rfl, hq, rfl, rfl, rfl⟩)
      · refine g_throw (thr2 rfl) rfl (Nat.le_of_ble_eq_true rfl) dX7_entry_20 dX7_entry_23 dX7_entry_24 dX7_entry_27 (Nat.le_of_ble_eq_true rfl) (Nat.le_of_ble_eq_true rfl) ?_
        refine hQ _ _ (Or.inl ⟨fun z => ?_, rfl, rfl⟩)
        first
          | exact bdn h8 z.1
          | exact Int32.not_lt.mpr z.2.1 h12
          | exact h17 z.2.2

set_option maxRecDepth 100000 in
set_option maxHeartbeats 2000000 in
theorem kX7_pass {E : gE} {S : gS} {n : Int32} {m x : Nat} {Q : Option gV → gS → Prop} (hG : GoodD S x m) (hm2 : m < 20000000) (hb : x + 90018 < 2 ^ 30) (hQ : ∀ r S1, oPass S m n r S1 → Q r S1) : gRunT E mX7_pass 7 1 6 [vR 7 0 0, vI n] S [] Q := by
  refine gRunT_of (ls := [some (vR 7 0 0), some (vI n), none, none]) rfl (Nat.le_of_ble_eq_true rfl) rfl (fun ad => ?_)
  obtain ⟨hD, hd, hm, hs, hs6, hx⟩ := id hG
  obtain ⟨l7, l4, l6, l0, l3, l10, l11, l13, l14, r224, r225, r226, r227, r128, r129, r192, r96⟩ := id hD.1
  have hn := hD.2.1
  have hn6 := hD.2.2.1
  refine g_iload_n (pc' := 1) dX7_pass_0 rfl rfl ?_
  refine g_iconst (pc' := 2) (v := 1) dX7_pass_1 rfl rfl ?_
  refine g_icmp_lt dX7_pass_2 (tg := 12) (pc' := 5) (by decide) rfl (fun h2 => ?_) (fun h2 => ?_)
  · refine g_throw (thr1 rfl) rfl (Nat.le_of_ble_eq_true rfl) dX7_pass_12 dX7_pass_15 dX7_pass_16 dX7_pass_19 (Nat.le_of_ble_eq_true rfl) (Nat.le_of_ble_eq_true rfl) ?_
    refine hQ _ _ (Or.inl ⟨fun z => ?_, rfl, rfl⟩)
    first
      | exact Int32.not_lt.mpr z.1 h2
      | exact h9 z.2
  · refine g_iload_n (pc' := 6) dX7_pass_5 rfl rfl ?_
    refine g_sipush (pc' := 9) (v := 5000) dX7_pass_6 rfl rfl ?_
    refine g_icmp_le dX7_pass_9 (tg := 20) (pc' := 12) (by decide) rfl (fun h9 => ?_) (fun h9 => ?_)
    · obtain ⟨k, q1, rfl⟩ := nI_of (x := n) (by
        intro z
        rw [Int32.lt_iff_toInt_lt] at z h2
        have e0 : (0 : Int32).toInt = 0 := rfl
        have e1 : (1 : Int32).toInt = 1 := rfl
        omega)
      have hk2 : k ≤ 5000 := by rw [show (5000 : Int32) = nI 5000 from rfl, nI_leI q1 (by decide)] at h9; exact h9
      have hk1 : 1 ≤ k := by
        rw [show (1 : Int32) = nI 1 from rfl, nI_ltI q1 (by decide)] at h2
        omega
      refine g_aload_n (pc' := 21) dX7_pass_20 rfl rfl ?_
      refine ggX7_46 (pc' := 24) rfl dX7_pass_21 rfl l7 ?_
      refine g_iload_n (pc' := 25) dX7_pass_24 rfl rfl ?_
      refine g_iadd (pc' := 26) dX7_pass_25 rfl ?_
      rw [hm, nI_add]
      refine g_ldc (pc' := 28) dX7_pass_26 rfl ckX7_142 ?_
      refine g_icmp_lt dX7_pass_28 (tg := 39) (pc' := 31) (by decide) rfl (fun h28 => ?_) (fun h28 => ?_)
      · have hmk : m + k < 20000000 := by
          rw [show (20000000 : Int32) = nI 20000000 from rfl, nI_ltI (by omega) (by omega)] at h28
          exact h28
        refine g_aload_n (pc' := 40) dX7_pass_39 rfl rfl ?_
        refine ggX7_49 (pc' := 43) rfl dX7_pass_40 rfl l7 ?_
        refine g_if_eq dX7_pass_43 (tg := 58) (pc' := 46) (by decide) rfl (fun h43 => ?_) (fun h43 => ?_)
        · refine g_iconst (pc' := 59) (v := 0) dX7_pass_58 rfl rfl ?_
          refine gistore_n2 (pc' := 60) dX7_pass_59 rfl (Nat.le_of_ble_eq_true rfl) rfl ?_
          refine g_iconst (pc' := 61) (v := 0) dX7_pass_60 rfl rfl ?_
          refine gistore_n3 (pc' := 62) dX7_pass_61 rfl (Nat.le_of_ble_eq_true rfl) rfl ?_
          have fin := hQ _ _ (Or.inr ⟨k, hk1, hk2, rfl, Or.inr (Or.inr ⟨hmk, h43, rfl, rfl⟩)⟩)
          have L : ∀ (f i s : Nat) (T : gS) (y u : Nat) (_ : i + f = k) (hG : GoodD T y u) (_ : u + f < 20000000) (_ : y + 18 * f + 18 < 2 ^ 30) (_ : s + 6 * f ≤ 30000) (hv : tPass f s T = tPass k 0 S), gG E mX7_pass (gBoT 7 1 6 ad [] Q) 62 [some (vR 7 0 0), some (vI (nI k)), some (vI (nI s)), some (vI (nI i))] [] T 0 0 := by
            intro f
            induction f with
            | zero =>
              intro i s T y u hi hG hu hy hs2 hv
              have e : i = k := by omega
              subst e
              have fin : Q (some (vI (nI s))) T := by rw [← hv] at fin; exact fin
              have l7 := hG.1.1.1
              refine g_iload_n (pc' := 63) dX7_pass_62 rfl rfl ?_
              refine g_iload_n (pc' := 64) dX7_pass_63 rfl rfl ?_
              refine g_icmp_ge dX7_pass_64 (tg := 80) (pc' := 67) (by decide) rfl (fun h64 => ?_) (fun h64 => absurd (by first | exact Int32.le_refl _ | decide) h64)
              refine g_iload_n (pc' := 81) dX7_pass_80 rfl rfl ?_
              refine g_iret dX7_pass_81 rfl rfl (Nat.le_of_ble_eq_true rfl) (Nat.le_of_ble_eq_true rfl) ?_
              exact fin
            | succ f ih =>
              intro i s T y u hi hG hu hy hs2 hv
              have l7 := hG.1.1.1
              obtain ⟨hDT, hdT, hmT, hsT, hs6T, hxT⟩ := id hG
              refine g_iload_n (pc' := 63) dX7_pass_62 rfl rfl ?_
              refine g_iload_n (pc' := 64) dX7_pass_63 rfl rfl ?_
              refine g_icmp_ge dX7_pass_64 (tg := 80) (pc' := 67) (by decide) rfl (fun h64 => absurd h64 (by rw [nI_leI (by omega) (by omega)]; omega)) (fun h64 => ?_)
              refine g_iload_n (pc' := 68) dX7_pass_67 rfl rfl ?_
              refine g_aload_n (pc' := 69) dX7_pass_68 rfl rfl ?_
              refine gcv0 (pc' := 72) cwX7_146 cf7 dX7_pass_69 rfl l7 (Nat.le_of_ble_eq_true rfl) (Nat.le_of_ble_eq_true rfl) (Nat.le_of_ble_eq_true rfl) (Nat.le_of_ble_eq_true rfl) (Nat.le_of_ble_eq_true rfl) (kX7_makeStep (x := y) (m := u) hDT hdT hmT (by omega) hsT hs6T hxT (by omega) ?_)
              refine g_iadd (pc' := 73) dX7_pass_72 rfl ?_
              refine gistore_n2 (pc' := 74) dX7_pass_73 rfl (Nat.le_of_ble_eq_true rfl) rfl ?_
              refine giinc3 (pc' := 77) (c := 1) dX7_pass_74 rfl rfl (Nat.le_of_ble_eq_true rfl) rfl ?_
              refine g_goto dX7_pass_77 (pc' := 62) (by decide) ?_
              rw [nI_1, nI_add]
              obtain ⟨y2, q1, q2⟩ := tStep_good hG (by omega) (by omega)
              have q3 := tStep_le (S := T) hs6T
              exact ih (i + 1) (s + (tStep T).1) (tStep T).2 y2 (u + 1) (by omega) q2 (by omega) (by omega) (by omega) hv
          exact L k 0 0 S x m (by omega) hG (by omega) (by omega) (by omega) rfl
        · refine g_aload_n (pc' := 47) dX7_pass_46 rfl rfl ?_
          refine g_dup (pc' := 48) dX7_pass_47 rfl rfl ?_
          refine ggX7_46 (pc' := 51) rfl dX7_pass_48 rfl l7 ?_
          refine g_iload_n (pc' := 52) dX7_pass_51 rfl rfl ?_
          refine g_iadd (pc' := 53) dX7_pass_52 rfl ?_
          rw [hm, nI_add]
          refine gpX7_46 (pc' := 56) rfl dX7_pass_53 rfl l7 ?_
          refine g_iconst (pc' := 57) (v := 0) dX7_pass_56 rfl rfl ?_
          refine g_iret dX7_pass_57 rfl rfl (Nat.le_of_ble_eq_true rfl) (Nat.le_of_ble_eq_true rfl) ?_
          exact hQ _ _ (Or.inr ⟨k, hk1, hk2, rfl, Or.inr (Or.inl ⟨hmk, h43, rfl, rfl⟩)⟩)
      · refine g_throw (thr3 rfl) rfl (Nat.le_of_ble_eq_true rfl) dX7_pass_31 dX7_pass_34 dX7_pass_35 dX7_pass_38 (Nat.le_of_ble_eq_true rfl) (Nat.le_of_ble_eq_true rfl) ?_
        refine hQ _ _ (Or.inr ⟨k, hk1, hk2, rfl, Or.inl ⟨?_, rfl, rfl⟩⟩)
        rw [show (20000000 : Int32) = nI 20000000 from rfl, nI_ltI (by omega) (by omega)] at h28
        omega
    · refine g_throw (thr1 rfl) rfl (Nat.le_of_ble_eq_true rfl) dX7_pass_12 dX7_pass_15 dX7_pass_16 dX7_pass_19 (Nat.le_of_ble_eq_true rfl) (Nat.le_of_ble_eq_true rfl) ?_
      refine hQ _ _ (Or.inl ⟨fun z => ?_, rfl, rfl⟩)
      first
        | exact Int32.not_lt.mpr z.1 h2
        | exact h9 z.2

