/-! THE LAW (3): its own calls; what stands between two calls of a script -/
section LC
variable {E : gE} {M : gM} {B : gB} {pc pc' : Nat} {ls : List (Option gV)} {rest : List gV} {S : gS} {cs sl : Nat}
def gCSW (own : String) (idx : Nat) (My : gM) (n : Nat) : Prop := Cond.methodLink own idx My.1 ∈ lwG ∧ Cond.static My.1 ∈ lwG ∧ Cond.initialized My.1.cls ∈ lwG ∧ Cond.codeWith My.1 My.2.1 My.2.2.1 My.2.2.2 (gTab My.1.name) ∈ lwG ∧ My.1.cls ≠ "java/lang/invoke/MethodHandle" ∧ My.1.cls ≠ "java/lang/invoke/VarHandle" ∧ (parseMethodDescriptor My.1.desc).map (fun d => d.parameters.length) = some n
theorem g_callW {My : gM} {d mc ms n idx : Nat} {as : List gV} {Nw : List gId} {st : List gV} (cw : gCSW M.1.cls idx My n) (hd : decode M.2.1 pc = .ok (.invokestatic idx, 3)) (e : pc + 3 = pc') (hst0 : st = as.reverse ++ rest) (hn : as.length = n) (hR : d + 1 ≤ (bR B).frames) (hR2 : 8 + (My.2.2.1 + 11) + (28 * d + 2) ≤ (bR B).locals) (hrest : (rest.map gcat).sum ≤ 8) (hls : ∀ v, some v ∈ ls → gNo Nw v) (hst : ∀ v ∈ rest, gNo Nw v) (hNw : ∀ q ∈ Nw, q ∈ bN B) (hc : cs + mc ≤ bC B) (hs : sl + ms ≤ bS B)
    (hrun : gRunW E My d mc ms as S Nw (fun r S' => gG E M B pc' ls (gpush r rest) S' (cs + mc) (sl + ms))) : gG E M B pc ls st S cs sl := by
  subst hst0
  refine g_back (My := My) (d := d) (mc := mc) (ms := ms) (as := as) e hls hst hNw (fun p e s m args below meth c hC H locs ad lsr hl hS hR0 => ?_)
  obtain ⟨w1, w2, w4, w5, w6, w7, w8⟩ := cw
  exact vx_runSW (As := as.map (gre ad)) (index := idx) (bytes := My.2.1) (maxL := My.2.2.1) (ret := My.2.2.2) (hh := gTab My.1.name) (n := n) ⟨hC.1, hC.2.1, hC.2.2.2.1, hC.2.2.2.2.1, hC.2.2.2.2.2.2.2.1⟩ (hrun ad)
    (vx_cwSW n hC.2.2.2.2.2.2.2.1 (gGood (fun w hw => by
      rcases List.mem_append.mp hw with hw | hw
      · simp only [List.mem_cons, List.not_mem_nil, or_false] at hw
        rcases hw with rfl | rfl | rfl
        · exact w1
        · exact w2
        · exact w4
      · rcases List.mem_cons.mp hw with rfl | hw
        · exact w5
        · exact hw)) rfl rfl rfl ⟨w6, w7, w8⟩ ⟨hR, hR2⟩)
    ⟨gPc_blind _ _ _ _, gPre hC hS hR0⟩ rfl (by rw [List.length_map]; exact hn) hl.1 (by show (as.reverse ++ rest).map (gre ad) = _; rw [List.map_append, List.map_reverse]) (by show 2 * 0 + _ ≤ 8; rw [gsum]; omega) hd ⟨Nat.le_trans hc hC.2.2.2.2.2.2.2.2.2.1, Nat.le_trans hs hC.2.2.2.2.2.2.2.2.2.2⟩
end LC
theorem cwL_65 : gCSW RL 65 mL_job 3 := ⟨mG 253 (by decide +kernel) (by decide +kernel), mG 254 (by decide +kernel) (by decide +kernel), mG 55 (by decide +kernel) (by decide +kernel), cdL_job, by decide +kernel, by decide +kernel, by decide +kernel⟩
theorem cwL_83 : gCSW RL 83 mL_task 6 := ⟨mG 436 (by decide +kernel) (by decide +kernel), mG 437 (by decide +kernel) (by decide +kernel), mG 55 (by decide +kernel) (by decide +kernel), cdL_task, by decide +kernel, by decide +kernel, by decide +kernel⟩
theorem cwL_92 : gCSW RL 92 mL_holds 4 := ⟨mG 495 (by decide +kernel) (by decide +kernel), mG 496 (by decide +kernel) (by decide +kernel), mG 55 (by decide +kernel) (by decide +kernel), cdL_holds, by decide +kernel, by decide +kernel, by decide +kernel⟩
theorem cwL_96 : gCSW RL 96 mL_next 4 := ⟨mG 552 (by decide +kernel) (by decide +kernel), mG 553 (by decide +kernel) (by decide +kernel), mG 55 (by decide +kernel) (by decide +kernel), cdL_next, by decide +kernel, by decide +kernel, by decide +kernel⟩
theorem cwL_99 : gCSW RL 99 mL_part 4 := ⟨mG 569 (by decide +kernel) (by decide +kernel), mG 570 (by decide +kernel) (by decide +kernel), mG 55 (by decide +kernel) (by decide +kernel), cdL_part, by decide +kernel, by decide +kernel, by decide +kernel⟩
theorem cwL_102 : gCSW RL 102 mL_pass 3 := ⟨mG 577 (by decide +kernel) (by decide +kernel), mG 578 (by decide +kernel) (by decide +kernel), mG 55 (by decide +kernel) (by decide +kernel), cdL_pass, by decide +kernel, by decide +kernel, by decide +kernel⟩
theorem cwL_105 : gCSW RL 105 mL_set 2 := ⟨mG 648 (by decide +kernel) (by decide +kernel), mG 649 (by decide +kernel) (by decide +kernel), mG 55 (by decide +kernel) (by decide +kernel), cdL_set, by decide +kernel, by decide +kernel, by decide +kernel⟩
theorem cwL_109 : gCSW RL 109 mL_end 5 := ⟨mG 659 (by decide +kernel) (by decide +kernel), mG 660 (by decide +kernel) (by decide +kernel), mG 55 (by decide +kernel) (by decide +kernel), cdL_end, by decide +kernel, by decide +kernel, by decide +kernel⟩
theorem cwL_113 : gCSW RL 113 mL_down 3 := ⟨mG 678 (by decide +kernel) (by decide +kernel), mG 679 (by decide +kernel) (by decide +kernel), mG 55 (by decide +kernel) (by decide +kernel), cdL_down, by decide +kernel, by decide +kernel, by decide +kernel⟩
theorem cwL_133 : gCSW RL 133 mL_entry 4 := ⟨mG 689 (by decide +kernel) (by decide +kernel), mG 690 (by decide +kernel) (by decide +kernel), mG 55 (by decide +kernel) (by decide +kernel), cdL_entry, by decide +kernel, by decide +kernel, by decide +kernel⟩
/-- the model's part, and what lives -/
def mP (S C1 : gS) : Prop := (∀ q ∈ gL S, q ∈ gL C1) ∧ (∀ g, 256 ≤ g → g < 288 → fR C1 g 0 0 = fR S g 0 0) ∧ (∀ g x y, 256 ≤ g → g < 288 → fI C1 g x y = fI S g x y) ∧ ∀ k a i, 20 ≤ k → aI C1 k a i = aI S k a i
theorem mP.rf {S : gS} : mP S S := ⟨fun _ h => h, fun _ _ _ => rfl, fun _ _ _ _ _ => rfl, fun _ _ _ _ => rfl⟩
theorem mP.tr {S S1 S2 : gS} (h : mP S S1) (h2 : mP S1 S2) : mP S S2 := ⟨fun q hq => h2.1 q (h.1 q hq), fun g a b => (h2.2.1 g a b).trans (h.2.1 g a b), fun g x y a b => (h2.2.2.1 g x y a b).trans (h.2.2.1 g x y a b), fun k a i b => (h2.2.2.2 k a i b).trans (h.2.2.2 k a i b)⟩
theorem mP_keep {S C1 : gS} (k : tKeep d2 S C1) : mP S C1 := ⟨fun q hq => by rw [k.1]; exact hq, fun g _ _ => by rw [k.2.1], fun g x y h1 h2 => k.2.2.2.2.1 g x y (by
  simp only [d2, List.contains_eq_mem, List.mem_cons, List.not_mem_nil, or_false, decide_eq_false_iff_not]
  omega), fun q a i hq => by rw [k.2.2.2.2.2 q (by omega)]⟩
theorem mP_sfI {S : gS} {g j t : Nat} {v : Int32} (hg : g < 256) : mP S (sfI S g j t v) := ⟨fun _ h => h, fun _ _ _ => rfl, fun g' x y h1 _ => fI_ne (by omega), fun _ _ _ _ => rfl⟩
theorem mP_saL {S : gS} {k j i : Nat} {v : Int64} : mP S (saL S k j i v) := ⟨fun _ h => h, fun _ _ _ => rfl, fun _ _ _ _ _ => rfl, fun _ _ _ _ => rfl⟩
theorem ModS.mp {S C1 : gS} (h : ModS S) (k : mP S C1) : ModS C1 := by
  unfold ModS lv at *
  rw [k.2.1 262 (by decide) (by decide), k.2.1 265 (by decide) (by decide), k.2.1 266 (by decide) (by decide), k.2.1 267 (by decide) (by decide), k.2.1 268 (by decide) (by decide), k.2.1 269 (by decide) (by decide), k.2.1 270 (by decide) (by decide), k.2.1 271 (by decide) (by decide), k.2.1 272 (by decide) (by decide), k.2.1 273 (by decide) (by decide), k.2.1 274 (by decide) (by decide), k.2.1 275 (by decide) (by decide), k.2.1 276 (by decide) (by decide), k.2.1 277 (by decide) (by decide), k.2.1 278 (by decide) (by decide), k.2.1 280 (by decide) (by decide)]
  obtain ⟨a0, a1, a2, a3, a4, a5, a6, a7, a8, a9, a10, a11, a12, a13, a14, a15, a16, r⟩ := h
  exact ⟨k.1 _ a0, k.1 _ a1, k.1 _ a2, k.1 _ a3, k.1 _ a4, k.1 _ a5, k.1 _ a6, k.1 _ a7, k.1 _ a8, k.1 _ a9, k.1 _ a10, k.1 _ a11, k.1 _ a12, k.1 _ a13, k.1 _ a14, k.1 _ a15, k.1 _ a16, r⟩
theorem Rel.r {C S S' : gS} (h : Rel C S) (k : mP S S') : Rel C S' := by
  obtain ⟨⟨hn, hl, ⟨hj, hz, ho⟩, hb⟩, hX, hT⟩ := h
  have f : ∀ g x y, 256 ≤ g → g < 288 → fI S' g x y = fI S g x y := k.2.2.1
  have a : ∀ q b i, 20 ≤ q → aI S' q b i = aI S q b i := k.2.2.2
  refine ⟨⟨?_, ?_, ⟨fun j hjj => ⟨(hj j hjj).1.of (fun _ _ _ => rfl) (fun q _ _ => a q 0 j (by omega)), fun t ht => ((hj j hjj).2 t ht).of (fun _ _ _ => rfl) (fun q _ _ => a q 0 _ (by omega))⟩, fun j t h1 h2 h3 => ?_, fun j h1 h2 => ?_⟩, hb⟩, fun j hjj => (hX j hjj).of rfl rfl (fun i => a 21 0 i (by decide)) (fun i => a 22 0 i (by decide)), ?_, fun i hi => ?_⟩
  · unfold RN at *
    rw [f 264 0 0 (by decide) (by decide), f 257 0 0 (by decide) (by decide), f 258 0 0 (by decide) (by decide), f 259 0 0 (by decide) (by decide), f 260 0 0 (by decide) (by decide), f 263 0 0 (by decide) (by decide)]
    exact hn
  · exact ⟨hl.1, by rw [f 279 0 0 (by decide) (by decide)]; exact hl.2.1, fun i hi => by rw [a 35 0 i (by decide)]; exact hl.2.2 i hi⟩
  · rw [a 32 0 _ (by decide), a 33 0 _ (by decide)]; exact hz j t h1 h2 h3
  · rw [a 24 0 j (by decide), a 25 0 j (by decide), a 26 0 j (by decide), a 27 0 j (by decide)]; exact ho j h1 h2
  · rw [f 261 0 0 (by decide) (by decide)]; exact hT.1
  · rw [a 20 0 i (by decide)]; exact hT.2 i hi
/-- the class's part stays -/
def cP (S C1 : gS) : Prop := gL C1 = gL S ∧ fR C1 = fR S ∧ aR C1 = aR S ∧ (∀ g x y, g < 256 → fI C1 g x y = fI S g x y) ∧ (∀ k, k < 20 → aI C1 k = aI S k) ∧ ∀ k, k < 16 → aL C1 k = aL S k
theorem cP.tr {S S1 S2 : gS} (h : cP S S1) (h2 : cP S1 S2) : cP S S2 := ⟨h2.1.trans h.1, h2.2.1.trans h.2.1, h2.2.2.1.trans h.2.2.1, fun g x y a => (h2.2.2.2.1 g x y a).trans (h.2.2.2.1 g x y a), fun k a => (h2.2.2.2.2.1 k a).trans (h.2.2.2.2.1 k a), fun k a => (h2.2.2.2.2.2 k a).trans (h.2.2.2.2.2 k a)⟩
theorem pK.cp {S C1 : gS} (h : pK S C1) : cP S C1 := ⟨h.1, h.2.1, h.2.2.1, h.2.2.2.2.1, h.2.2.2.2.2, fun k _ => by rw [h.2.2.2.1]⟩
theorem cP_saL {S : gS} {j i : Nat} {v : Int64} : cP S (saL S 16 j i v) := ⟨rfl, rfl, rfl, fun _ _ _ _ => rfl, fun _ _ => rfl, fun k hk => by
  funext a b
  exact if_neg (fun z => by omega)⟩
theorem cP.rf {S : gS} : cP S S := ⟨rfl, rfl, rfl, fun _ _ _ _ => rfl, fun _ _ => rfl, fun _ _ => rfl⟩
theorem Rel.l {C C' S : gS} (h : Rel C S) (k : cP C C') : Rel C' S := by
  have f := k.2.2.2.1
  have ej : jn C' = jn C := by unfold jn; rw [f 228 0 0 (by decide)]
  have ec : ∀ j, jc C' j = jc C j := fun j => by unfold jc; rw [f 67 j 0 (by decide)]
  have ex : xl C' = xl C := by unfold xl; rw [f 193 0 0 (by decide)]
  have hR0 : R0 C' S := by
    have et : tl C' = tl C := by unfold tl; rw [f 97 0 0 (by decide)]
    have h0 := h.1
    unfold R0 RN LG RJ RB JK TK at *
    simp (disch := first | decide | omega) only [ej, ec, et, f, k.2.2.2.2.1 13 (by decide)]
    exact h0
  refine ⟨hR0, fun j hj => (h.2.1 j (by rw [ej] at hj; exact hj)).of (by rw [k.2.2.2.2.2 12 (by decide)]) (f 33 j 0 (by decide)) (fun _ => rfl) (fun _ => rfl), ?_, fun i hi => ?_⟩
  · rw [f 193 0 0 (by decide)]; exact h.2.2.1
  · rw [ex] at hi
    rw [k.2.2.2.2.1 10 (by decide)]
    exact h.2.2.2 i hi
theorem TextOk.of2 {S S' : gS} (h : TextOk S) (h1 : fI S' 193 0 0 = fI S 193 0 0) (h2 : aI S' 10 = aI S 10) : TextOk S' := by
  unfold TextOk xc xl at *
  rw [h1, h2]
  exact h
theorem Fresh.of {S S' : gS} (h : Fresh S) (k1 : gL S' = gL S) (k2 : fI S' 228 0 0 = fI S 228 0 0) (k3 : ∀ j, fI S' 67 j 0 = fI S 67 j 0) : Fresh S' := by
  unfold Fresh jn jc at *
  simp only [k1, k2, k3]
  exact h
/-- what stands between two calls, on the class's side -/
def WIc (S : gS) (k : Nat) : Prop := DeskOk S ∧ TextOk S ∧ Fresh S ∧ (∃ m x, GoodD S x m ∧ m < 20000000 ∧ x ≤ 100000 * k ∧ ∃ b, fI S 233 0 0 = nI b ∧ b ≤ m) ∧ (fI S 232 0 0 = 0 ∨ fI S 232 0 0 = 1)
theorem WIc.mono {S : gS} {k : Nat} (h : WIc S k) : WIc S (k + 1) := by
  obtain ⟨h1, h2, h3, ⟨m, x, g, a, b, c⟩, h5⟩ := h
  exact ⟨h1, h2, h3, ⟨m, x, g, a, by omega, c⟩, h5⟩
theorem WIc.cp {S S' : gS} {k : Nat} (h : WIc S k) (c : cP S S') : WIc S' k := by
  obtain ⟨h1, h2, h3, ⟨m, x, ⟨g1, ⟨w, g2⟩, g3, g4, g5, g6⟩, a, b, b1, c1, c2⟩, h5⟩ := h
  have f := c.2.2.2.1
  have hD := h1.eqv c.1 c.2.1 c.2.2.1 (f 228 0 0 (by decide)) (fun j => f 67 j 0 (by decide))
  have es : slN S' = slN S := by unfold slN; rw [f 230 0 0 (by decide)]
  exact ⟨hD, h2.of2 (f 193 0 0 (by decide)) (c.2.2.2.2.1 10 (by decide)), h3.of c.1 (f 228 0 0 (by decide)) (fun j => f 67 j 0 (by decide)), ⟨m, x, ⟨hD, ⟨w, by unfold DayOk at *; rw [f 0 0 0 (by decide), f 1 0 0 (by decide), f 2 0 0 (by decide), f 3 0 0 (by decide)]; exact g2⟩, by rw [f 231 0 0 (by decide)]; exact g3, by rw [es, f 230 0 0 (by decide)]; exact g4, by rw [es]; exact g5, by rw [f 97 0 0 (by decide)]; exact g6⟩, a, b, b1, by rw [f 233 0 0 (by decide)]; exact c1, c2⟩, by rw [f 232 0 0 (by decide)]; exact h5⟩
/-- an outcome that keeps the desk's own numbers -/
theorem WIc.go {S C1 : gS} {k b : Nat} (h : WIc S k) (g : tGo d1 b S C1) (hb : b ≤ 100000) (hk : k ≤ 100) (hd : ∃ w, DayOk C1 w) : WIc C1 (k + 1) ∧ mP S C1 := by
  obtain ⟨h1, h2, h3, ⟨m, x, ⟨g1, -, g3, g4, g5, g6⟩, a, bb, b1, c1, c2⟩, h5⟩ := h
  have k2 : tKeep d2 S C1 := g.1.up (fun _ z => d12 z)
  have f := g.1.2.2.2.2.1
  obtain ⟨y, y1, y2, y3⟩ := g.2 x g6 (by omega)
  have es : slN C1 = slN S := slN_keep g.1 rfl
  exact ⟨⟨h1.go1 g, h2.of2 (f 193 0 0 rfl) (g.1.2.2.2.2.2 10 (by decide)), h3.of g.1.1 (f 228 0 0 rfl) (fun j => f 67 j 0 rfl), ⟨m, y, ⟨h1.go1 g, hd, by rw [f 231 0 0 rfl]; exact g3, by rw [es, f 230 0 0 rfl]; exact g4, by rw [es]; exact g5, y1⟩, a, by omega, b1, by rw [f 233 0 0 rfl]; exact c1, c2⟩, by rw [f 232 0 0 rfl]; exact h5⟩, mP_keep k2⟩
/-- the desk's own numbers change -/
theorem WIc.num {S C1 : gS} {k m x b : Nat} (h : WIc S k) (kp : tKeep d2 S C1) (hG : GoodD C1 x m) (hm : m < 20000000) (hx : x ≤ 100000 * (k + 1)) (hb : fI C1 233 0 0 = nI b) (hbm : b ≤ m) (h2 : fI C1 232 0 0 = 0 ∨ fI C1 232 0 0 = 1) : WIc C1 (k + 1) ∧ mP S C1 := by
  obtain ⟨h1, ht, h3, -, -⟩ := h
  have f := kp.2.2.2.2.1
  exact ⟨⟨hG.1, ht.of2 (f 193 0 0 rfl) (kp.2.2.2.2.2 10 (by decide)), h3.of kp.1 (f 228 0 0 rfl) (fun j => f 67 j 0 rfl), ⟨m, x, hG, hm, hx, b, hb, hbm⟩, h2⟩, mP_keep kp⟩
