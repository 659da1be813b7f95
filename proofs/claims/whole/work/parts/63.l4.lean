/-! THE LAW (4): every call keeps what stands between two calls -/
theorem WIc.mk {S C1 : gS} {k : Nat} (h : WIc S k) (hD : DeskOk C1) (hT : TextOk C1) (hF : Fresh C1) (f : ∀ g, [0, 1, 2, 3, 97, 230, 231, 232, 233].contains g = true → fI C1 g 0 0 = fI S g 0 0) : WIc C1 (k + 1) := by
  obtain ⟨-, -, -, ⟨m, x, ⟨-, ⟨w, g2⟩, g3, g4, g5, g6⟩, a, b, b1, c1, c2⟩, h5⟩ := h
  have es : slN C1 = slN S := by unfold slN; rw [f 230 rfl]
  refine ⟨hD, hT, hF, ⟨m, x, ⟨hD, ⟨w, by unfold DayOk at *; rw [f 0 rfl, f 1 rfl, f 2 rfl, f 3 rfl]; exact g2⟩, by rw [f 231 rfl]; exact g3, by rw [es, f 230 rfl]; exact g4, by rw [es]; exact g5, by rw [f 97 rfl]; exact g6⟩, a, by omega, b1, by rw [f 233 rfl]; exact c1, c2⟩, by rw [f 232 rfl]; exact h5⟩
theorem W_same {S : gS} {k : Nat} (h : WIc S k) : WIc S (k + 1) ∧ mP S S := ⟨h.mono, mP.rf⟩
theorem W_holds {S C1 : gS} {k : Nat} {j m : Int32} {r : Option gV} (h : WIc S k) (hk : k ≤ 100) (ho : oHolds S j m r C1) : WIc C1 (k + 1) ∧ mP S C1 := by
  rcases ho with ⟨-, -, rfl⟩ | ⟨-, -, -, rfl⟩ | ⟨q, n, -, -, hn, -, -, rfl⟩
  · exact W_same h
  · exact W_same h
  · obtain ⟨_, _, _, ⟨_, _, ⟨_, hd, _⟩, _⟩, _⟩ := id h
    exact h.go tHS_go (by omega) hk (tHS_day hn hd)
theorem W_next {S C1 : gS} {k : Nat} {j m : Int32} {r : Option gV} (h : WIc S k) (hk : k ≤ 100) (ho : oNext S j m r C1) : WIc C1 (k + 1) ∧ mP S C1 := by
  rcases ho with ⟨-, -, rfl⟩ | ⟨-, -, -, rfl⟩ | ⟨q, n, -, -, hn, -, -, rfl | ⟨w, hw, rfl⟩⟩
  · exact W_same h
  · exact W_same h
  · exact W_same h
  · exact h.go tTurn_go (by omega) hk ⟨w, tTurn_ok hw⟩
theorem W_part {S C1 : gS} {k : Nat} {m p : Int32} {r : Option gV} (h : WIc S k) (hk : k ≤ 100) (ho : oPart S m p r C1) : WIc C1 (k + 1) ∧ mP S C1 := by
  rcases ho with ⟨-, -, rfl⟩ | ⟨n, q, hn, -, -, -, -, rfl⟩
  · exact W_same h
  · exact h.go tTurn_go (by omega) hk ⟨n / 1440, tTurn_ok (by omega)⟩
theorem W_entry {S C1 : gS} {k : Nat} {b p : Int32} {r : Option gV} (h : WIc S k) (ho : oEntry S b p r C1) : WIc C1 (k + 1) ∧ mP S C1 := by
  rcases ho with ⟨-, -, rfl⟩ | ⟨n, q, u, -, -, -, -, -, -, -, -, rfl⟩
  · exact W_same h
  · exact W_same h
theorem W_end {S C1 : gS} {k : Nat} {j t w : Int32} {r : Option gV} (h : WIc S k) (hk : k ≤ 100) (ho : oEnd S j t w r C1) : WIc C1 (k + 1) ∧ mP S C1 := by
  rcases ho with ⟨-, -, rfl⟩ | ⟨q, n, hq, -, -, -, ⟨-, -, rfl⟩ | ⟨-, -, rfl⟩⟩
  · exact W_same h
  · exact W_same h
  · obtain ⟨hD, _, _, ⟨_, _, ⟨_, ⟨v, hd⟩, _⟩, _⟩, _⟩ := id h
    have g := tEnd_go (S := S) (j := q) (t := n) (w := w) (hD.jc6 hq)
    exact h.go (g.up (Nat.le_refl _) (fun _ z => d01 z)) (by omega) hk ⟨v, hd.keep g⟩
theorem W_set {S C1 : gS} {k : Nat} {m : Int32} {r : Option gV} (h : WIc S k) (ho : oSet S m r C1) : WIc C1 (k + 1) ∧ mP S C1 := by
  rcases ho with ⟨-, -, rfl⟩ | ⟨-, ⟨-, -, rfl⟩ | ⟨⟨h1, h2⟩, -, rfl⟩⟩
  · exact W_same h
  · exact W_same h
  · obtain ⟨hD, hT, hF, ⟨m0, x, ⟨_, hd, g3, g4, g5, g6⟩, a, b, b1, c1, c2⟩, h5⟩ := id h
    have hm0 : 0 ≤ m := by
      rw [g3] at h1
      exact Int32.le_trans (show (0 : Int32) ≤ nI m0 from nI_le (Nat.zero_le _) (by omega)) (Int32.not_lt.mp h1)
    obtain ⟨n, hn, rfl⟩ := isM_nat ⟨hm0, h2⟩
    rw [g3, nI_ltI (by omega) (by omega)] at h1
    have kp : tKeep d2 S (sfI S 231 0 0 (nI n)) := tKeep_sfI rfl
    exact h.num kp (m := n) (x := x) (b := b1) ⟨hD.keep kp, hd, rfl, g4, g5, g6⟩ hn (by omega) c1 (by omega) h5
theorem W_slots {S : gS} {k : Nat} {n : Int32} (h : WIc S k) : WIc (oSlots S n).2 (k + 1) ∧ mP S (oSlots S n).2 := by
  unfold oSlots
  by_cases hn : 1 ≤ n ∧ n ≤ 6
  · rw [if_pos hn]
    obtain ⟨hD, hT, hF, ⟨m0, x, ⟨_, hd, g3, g4, g5, g6⟩, a, b, b1, c1, c2⟩, h5⟩ := id h
    obtain ⟨q, hq, rfl⟩ := isU_nat (m := n) (n := 7) (by decide) ⟨Int32.le_trans (by decide) hn.1, Int32.lt_of_le_of_lt hn.2 (by decide)⟩
    have kp : tKeep d2 S (sfI S 230 0 0 (nI q)) := tKeep_sfI rfl
    have es : slN (sfI S 230 0 0 (nI q)) = q := nI_clamp (by omega)
    exact h.num kp (m := m0) (x := x) (b := b1) ⟨hD.keep kp, hd, g3, by rw [es]; rfl, by rw [es]; omega, g6⟩ a (by omega) c1 c2 h5
  · rw [if_neg hn]
    exact W_same h
theorem mP_lt {S C1 : gS} (h1 : ∀ q ∈ gL S, q ∈ gL C1) (h2 : ∀ g, 256 ≤ g → g < 288 → fR C1 g 0 0 = fR S g 0 0) (h3 : ∀ g x y, 256 ≤ g → g < 288 → fI C1 g x y = fI S g x y) (h4 : ∀ k a i, 20 ≤ k → aI C1 k a i = aI S k a i) : mP S C1 := ⟨h1, h2, h3, h4⟩
theorem W_erase {S : gS} {k : Nat} (h : WIc S k) : WIc (sfI S 193 0 0 0) (k + 1) ∧ mP S (sfI S 193 0 0 0) := by
  refine ⟨h.mk (h.1.eqv rfl rfl rfl rfl (fun _ => rfl)) ?_ (h.2.2.1.of rfl rfl (fun _ => rfl)) (fun g hg => fI_ne (by rintro rfl; exact absurd hg (by decide))), mP_sfI (by decide)⟩
  have e : xl (sfI S 193 0 0 0) = 0 := rfl
  refine ⟨by rw [e]; rfl, by rw [e]; omega, fun i hi => ?_⟩
  rw [e] at hi
  omega
theorem W_type {S : gS} {k a : Nat} (h : WIc S k) : WIc (tType S a).2 (k + 1) ∧ mP S (tType S a).2 := by
  unfold tType
  cases hx : xAdd a 8 0 with
  | none => exact W_same h
  | some n =>
    show WIc (if 60 < xl S + n then (false, S) else (true, tApp S a n)).2 (k + 1) ∧ mP S (if 60 < xl S + n then (false, S) else (true, tApp S a n)).2
    by_cases hl : 60 < xl S + n
    · rw [if_pos hl]; exact W_same h
    · rw [if_neg hl]
      show WIc (tApp S a n) (k + 1) ∧ mP S (tApp S a n)
      obtain ⟨k1, k2, k3, k4, k5, k6, k7⟩ := tCpy_keep a (xl S) S n
      have f : ∀ g x y, g ≠ 193 → fI (tApp S a n) g x y = fI S g x y := fun g x y hg => by
        unfold tApp
        rw [fI_ne hg, k5]
      refine ⟨h.mk (h.1.eqv k1 k2 k3 (f _ _ _ (by decide)) (fun j => f _ _ _ (by decide))) (tApp_ok h.2.1 (by omega) (fun i hi => (xAdd_in a 8 0 n hx).2.2 i (Nat.zero_le _) hi)).1 (h.2.2.1.of k1 (f _ _ _ (by decide)) (fun j => f _ _ _ (by decide))) (fun g hg => f g 0 0 (by rintro rfl; exact absurd hg (by decide))), ⟨fun q hq => by show q ∈ gL (tCpy a (xl S) n S); rw [k1]; exact hq, fun g _ _ => congrFun (congrFun (congrFun k2 g) 0) 0, fun g x y h1 _ => f g x y (by omega), fun q b i hq => congrFun (congrFun (k6 q (by omega)) b) i⟩⟩
theorem tStep_n {S : gS} (h5 : slN S ≤ 6) {g : Nat} (hg : d1 g = false) (h9 : g ≠ 231) : fI (tStep S).2 g 0 0 = fI S g 0 0 := by
  have g1 := tSJ_go (m := (fI S 231 0 0).toNatClampNeg + 1) (jn S) (sfI S 231 0 0 (fI S 231 0 0 + 1))
  have hs1 : slN (tSJ ((fI S 231 0 0).toNatClampNeg + 1) (jn S) (sfI S 231 0 0 (fI S 231 0 0 + 1))) = slN S := (slN_keep (d := d1) g1.1 rfl).trans rfl
  have g2 := tStartS_go (S := tSJ ((fI S 231 0 0).toNatClampNeg + 1) (jn S) (sfI S 231 0 0 (fI S 231 0 0 + 1))) (by rw [hs1]; exact h5)
  rw [tStep, g2.1.2.2.2.2.1 g 0 0 (by cases q : d0 g with | false => rfl | true => rw [d01 q] at hg; cases hg), g1.1.2.2.2.2.1 g 0 0 hg, fI_ne h9]
theorem tPass_good {m0 : Nat} : ∀ (n s x m : Nat) (S : gS), GoodD S x m → m + n < 20000000 → x + 18 * n < 2 ^ 30 → ∃ y, y ≤ x + 18 * n ∧ GoodD (tPass n s S).2 y (m + n) ∧ tKeep d2 S (tPass n s S).2 ∧ ∀ g, d1 g = false → g ≠ 231 → fI (tPass n s S).2 g 0 0 = fI S g 0 0
  | 0, s, x, m, S, h, _, _ => ⟨x, Nat.le_refl _, h, tKeep.rf, fun _ _ _ => rfl⟩
  | n + 1, s, x, m, S, h, hm, hx => by
    obtain ⟨y, y1, y2⟩ := tStep_good h (by omega) (by omega)
    obtain ⟨z, z1, z2, z3, z4⟩ := tPass_good (m0 := m0) n (s + (tStep S).1) y (m + 1) (tStep S).2 y2 (by omega) (by omega)
    refine ⟨z, by omega, by rw [show m + (n + 1) = m + 1 + n by omega]; exact z2, (tStep_go h.1.2.2.1 h.2.2.2.2.1).1.tr z3, fun g hg h9 => (z4 g hg h9).trans (tStep_n h.2.2.2.2.1 hg h9)⟩
theorem W_pass {S C1 : gS} {k : Nat} {n : Int32} {m x : Nat} {r : Option gV} (h : WIc S k) (hk : k ≤ 100) (hG : GoodD S x m) (hx : x ≤ 100000 * k) (hm : m < 20000000) (ho : oPass S m n r C1) : WIc C1 (k + 1) ∧ mP S C1 := by
  obtain ⟨b, c1, c2⟩ : ∃ b, fI S 233 0 0 = nI b ∧ b ≤ m := by
    obtain ⟨_, _, _, ⟨m0, x0, g, a, _, b1, c1, c2⟩, _⟩ := id h
    have e : nI m0 = nI m := g.2.2.1.symm.trans hG.2.2.1
    have e2 := congrArg Int32.toNatClampNeg e
    rw [nI_clamp (by omega), nI_clamp (by omega)] at e2
    exact ⟨b1, c1, by omega⟩
  have h5 := h.2.2.2.2
  rcases ho with ⟨-, -, rfl⟩ | ⟨q, q1, q5, -, ⟨-, -, rfl⟩ | ⟨hq, -, -, rfl⟩ | ⟨hq, -, -, rfl⟩⟩
  · exact W_same h
  · exact W_same h
  · have kp : tKeep d2 S (sfI S 231 0 0 (nI (m + q))) := tKeep_sfI rfl
    exact h.num kp (m := m + q) (x := x) (b := b) ⟨hG.1.keep kp, hG.2.1, rfl, hG.2.2.2.1, hG.2.2.2.2.1, hG.2.2.2.2.2⟩ hq (by omega) c1 (by omega) h5
  · obtain ⟨y, y1, y2, y3, y4⟩ := tPass_good (m0 := 0) q 0 x m S hG hq (by omega)
    exact h.num y3 (m := m + q) (x := y) (b := b) y2 hq (by omega) (by rw [y4 233 rfl (by decide)]; exact c1) (by omega) (by rw [y4 232 rfl (by decide)]; exact h5)
theorem W_down {S C1 : gS} {k : Nat} {d : Int32} {b m x : Nat} {r : Option gV} (h : WIc S k) (hk : k ≤ 100) (hG : GoodD S x m) (hx : x ≤ 100000 * k) (hm : m < 20000000) (hd1 : d = 0 ∨ d = 1) (hb : fI S 233 0 0 = nI b) (hbm : b ≤ m) (ho : oDown S d b m r C1) : WIc C1 (k + 1) ∧ mP S C1 := by
  rcases ho with ⟨-, -, rfl⟩ | ⟨-, -, -, rfl⟩ | ⟨-, -, T, hT, -, rfl⟩
  · exact W_same h
  · have kp : tKeep d2 S (sfI (sfI S 232 0 0 d) 233 0 0 (fI S 231 0 0)) := (tKeep_sfI rfl).tr (tKeep_sfI rfl)
    exact h.num kp (m := m) (x := x) (b := m) ⟨hG.1.keep kp, hG.2.1, hG.2.2.1, hG.2.2.2.1, hG.2.2.2.2.1, hG.2.2.2.2.2⟩ hm (by omega) hG.2.2.1 (Nat.le_refl _) hd1
  · obtain ⟨hD, ⟨v, hv⟩, g3, g4, g5, g6⟩ := hG
    have kp : tGo d2 0 S (sfI S 232 0 0 d) := tGo_sfI rfl (by decide)
    have a1 := (tCJ_go (jn S) (sfI S 232 0 0 d) (fun j hj => hD.jc6 hj)).le (b := 288) (by have := hD.2.2.1; omega)
    have a2 := (tC2_go _ _ _ hT).le (b := 12) (by have := hD.2.2.1; omega)
    have k1 : tGo d1 288 (sfI S 232 0 0 d) _ := a1.up (Nat.le_refl _) (fun _ z => d01 z)
    have k2 := k1.tr a2
    have es : slN T = slN S := (slN_keep k2.1 rfl).trans rfl
    have a3 := tStartS_go (S := T) (by rw [es]; exact g5)
    have k3 := k2.tr (a3.up (Nat.le_refl _) (fun _ z => d01 z))
    have k4 := kp.tr (k3.up (Nat.le_refl _) (fun _ z => d12 z))
    obtain ⟨y, y1, y2, y3⟩ := k4.2 x g6 (by omega)
    obtain ⟨w, hw⟩ := tC2_day _ _ _ hT ⟨v, DayOk.keep (b := 288) (S := sfI S 232 0 0 d) (w := v) hv a1⟩
    have f : ∀ g, d1 g = false → g ≠ 232 → fI (tStartS T).2 g 0 0 = fI S g 0 0 := fun g hg h9 => by rw [k3.1.2.2.2.2.1 g 0 0 hg, fI_ne h9]
    have es2 : slN (tStartS T).2 = slN S := (slN_keep k3.1 rfl).trans rfl
    exact h.num k4.1 (m := m) (x := y) (b := b) ⟨hD.keep k4.1, ⟨w, hw.keep a3⟩, by rw [f 231 rfl (by decide)]; exact g3, by rw [es2, f 230 rfl (by decide)]; exact g4, by rw [es2]; exact g5, y1⟩ hm (by omega) (by rw [f 233 rfl (by decide)]; exact hb) hbm (by rw [k3.1.2.2.2.2.1 232 0 0 rfl, fI_at]; exact hd1)
