/-! THE LAW (1): handlers, the script -/
/-- where a throw of exception n at pc goes on -/
def gHd (E : gE) (M : gM) (B : gB) (pc : Nat) (ls : List (Option gV)) (cs sl n : Nat) (S : gS) : Prop :=
  ∃ (pre : List ExceptionTableEntry) (x : ExceptionTableEntry) (suf : List ExceptionTableEntry), tableOf (gTab M.1.name) = pre ++ x :: suf ∧ (∀ z ∈ pre, z.catchType ≠ 0 ∧ ∃ nm : String, Cond.classLink M.1.cls z.catchType nm ∈ lwG ∧ (exN n, nm) ∈ exP) ∧ covers x pc = true ∧ x.catchType ≠ 0 ∧ Cond.classLink M.1.cls x.catchType (exN n) ∈ lwG ∧ Cond.castable (exN n) (exN n) ∈ lwN ∧ ∀ a : Nat, gG E M B x.handlerPc ls [.inl (.ref a)] S cs sl
section LW
variable {E : gE} {M : gM} {B : gB} {pc pc' : Nat} {ls : List (Option gV)} {rest : List gV} {S : gS} {cs sl : Nat}
theorem g_callT {My : gM} {d mc ms n idx : Nat} {as : List gV} {q : gId} {Nw : List gId} {st : List gV} {T : u_T} {N : Nat} {ty : Nat → FieldType} (cw : gCV M.1.cls idx My n) (cf : gCF q.1 My.1.cls T N ty) (hd : decode M.2.1 pc = .ok (.invokevirtual idx, 3)) (e : pc + 3 = pc') (hst0 : st = as.reverse ++ .inr q :: rest) (hn : as.length = n) (hlv : q ∈ gL S) (hR : d + 1 ≤ (bR B).frames) (hR2 : 8 + (My.2.2.1 + 11) + (28 * d + 1) ≤ (bR B).locals) (hrest : (rest.map gcat).sum ≤ 8) (hls : ∀ v, some v ∈ ls → gNo Nw v) (hst : ∀ v ∈ rest, gNo Nw v) (hNw : ∀ q ∈ Nw, q ∈ bN B) (hc : cs + mc ≤ bC B) (hs : sl + ms ≤ bS B) (hfl : (bR B).locals = 28 * (bR B).frames + 2)
    (hrun : gRunT E My d mc ms (.inr q :: as) S Nw (fun r S' => (∀ n : Nat, r = some (vR 100 n 0) → gHd E M B pc ls (cs + mc) (sl + ms) n S') ∧ ((∀ n : Nat, r ≠ some (vR 100 n 0)) → gG E M B pc' ls (gpush r rest) S' (cs + mc) (sl + ms)))) : gG E M B pc ls st S cs sl := by
  subst hst0
  subst e
  intro p e s m args below meth c QS hC hE H locs ad lsr hl hS hR0 hA T hT X
  obtain ⟨w1, w2, w3, w4, w5, w6, w7, w8⟩ := cw
  obtain ⟨i0, h1, h2⟩ := gws_at (cy := eC E) (ad := ad) hlv
  obtain ⟨c0, c1, -⟩ := cf
  have h2 : (gws (eC E) S ad)[i0]? = some (gad ad q, .inr (q.1, gcO S ad q.1 q.2.1 q.2.2)) := by rw [h2]; exact congrArg (fun z => some (gad ad q, z)) (gcell_O c0)
  rcases vx_runV (As := as.map (gre ad)) (b := gad ad q) (C := My.1.cls) (index := idx) (bytes := My.2.1) (maxL := My.2.2.1) (ret := My.2.2.2) (n := n) (g := F0 m pc lsr (((as.reverse ++ .inr q :: rest)).map (gre ad))) (rest := rest.map (gre ad)) (cells := cs) (slots := sl) ⟨hC.1, hC.2.1, hC.2.2.2.1, hC.2.2.2.2.1, hC.2.2.2.2.2.2.2.1⟩ (hrun ad)
    (cwV n hC.2.2.2.2.2.2.2.1 (gGood (fun w hw => by
      rcases List.mem_append.mp hw with hw | hw
      · simp only [List.mem_cons, List.not_mem_nil, or_false] at hw
        rcases hw with rfl | rfl | rfl | rfl
        · exact w1
        · exact w2
        · exact w3
        · exact w4
      · rcases List.mem_cons.mp hw with rfl | hw
        · exact w5
        · exact hw)) rfl rfl rfl ⟨rfl, w6, w7, w8⟩ ⟨hR, hR2⟩)
    ⟨gPc_blind _ _ _ _, va_recv (D := eD E) hC.2.2.2.2.2.2.2.2.1.1 hR0.1 c1 h2, gPre hC hS hR0⟩ rfl (by rw [List.length_map]; exact hn) hl.1 (by show (as.reverse ++ .inr q :: rest).map (gre ad) = _; rw [List.map_append, List.map_reverse]; rfl) (by show 2 * 0 + _ ≤ 8; rw [gsum]; omega) hd ⟨Nat.le_trans hc hC.2.2.2.2.2.2.2.2.2.1, Nat.le_trans hs hC.2.2.2.2.2.2.2.2.2.2⟩ T hT X with ⟨v, st₀, t, T', L, h0, X', hL, e1, e2, ⟨⟨r, S', ad', hv, hq, hrep, hag⟩, hz, hk⟩, stp⟩ | ⟨q9, st₀, t, T', L, En, ce, h0, X', hL, e1, e2, ⟨⟨S', ad', ⟨nx, hen, hq⟩, hrep, hag⟩, hz, hk⟩, hce, hcv, hcl, stp⟩
  · have hv : v = r.map (gre ad') := Outcome.returned.inj hv
    subst hv
    rw [h0] at hz hk
    have hS' : va_S (eF E) s.heap T'.heap (locs ++ L) := ⟨Nat.le_trans hS.1 (by rw [e1]; exact hz), fun q h1 h2 => by rw [e1, hk q (Nat.lt_of_lt_of_le h1 hS.1) h2]; exact hS.2.1 q h1 h2, fun q hq => by
      rcases List.mem_append.mp hq with h | h
      · exact hS.2.2 q h
      · exact hL q h⟩
    obtain ⟨t2, a1, b1⟩ := (hq.1.2 hq.2) p e s m args below meth c QS hC hE T'.heap (locs ++ L) ad' lsr (by rw [hag.ls 0 hls]; exact hl) hS' (by rw [e1]; exact hrep) (hA.tr (hag.mono hNw)) T' rfl X'
    refine ⟨t2, stp t2 ?_, b1⟩
    have ep : (gpush r rest).map (gre ad') = (r.map (gre ad')).toList ++ rest.map (gre ad) := by
      cases r with
      | none => exact hag.st hst
      | some v => exact congrArg (gre ad' v :: ·) (hag.st hst)
    rw [ep] at a1
    exact a1
  · obtain ⟨pre, x, suf, g1, g2, g3, g4, g5, g6, g7⟩ := hq.1 nx rfl
    subst hen
    rw [h0] at hz hk
    have hS' : va_S (eF E) s.heap T'.heap (locs ++ L) := ⟨Nat.le_trans hS.1 (by rw [e1]; exact hz), fun q h1 h2 => by rw [e1, hk q (Nat.lt_of_lt_of_le h1 hS.1) h2]; exact hS.2.1 q h1 h2, fun q hq => by
      rcases List.mem_append.mp hq with h | h
      · exact hS.2.2 q h
      · exact hL q h⟩
    have hts := hC.2.2.2.2.2.2.2.1
    have hK := hC.2.2.2.2.2.2.2.2.1
    have key := vx_catch (p := p) (l := E.1) (e := e) (R := bR B) (s := s) (m := m) (args := args) (below := below) (meth := meth) (c := c) (H := T'.heap) (locs := locs ++ L) (cells := cs + mc) (slots := sl + ms) (Q := QS) (pc := pc) (ls := lsr) (rest := rest.map (gre ad)) (own := M.1.cls) (name := exN nx) (E := exN nx) (ce := ce) (q := q9) hC.2.2.2.2.1 pre x suf ((hC.2.2.2.2.2.2.1.2 hfl).trans g1) (fun z hz => Or.inr ⟨(g2 z hz).1, by
      obtain ⟨-, nm, k1, k2⟩ := g2 z hz
      exact ⟨nm, hts _ k1, hK.2.2.2.2.2.1.2.2.2 _ k2⟩⟩) g3 g4 (hts _ g5) (va_Nw.use (lwN_tab (List.mem_filter.mp g6).2) (hK.2.2.2.2.1 _ g6)) (by rw [e1]; exact hce) hcv hcl
      (g7 q9 p e s m args below meth c QS hC hE T'.heap (locs ++ L) ad' lsr (by rw [hag.ls 0 hls]; exact hl) hS' (by rw [e1]; exact hrep) (hA.tr (hag.mono hNw)))
    obtain ⟨t2, a1, b1⟩ := key T' rfl X'
    exact ⟨t2, stp.trans a1, b1⟩
/-- the script -/
theorem g_slen {st : List gV} (d : decode M.2.1 pc = .ok (.arraylength, 1)) (e : pc + 1 = pc') (h : gG E M B pc' ls (vI (nI (eA E 11)) :: st) S cs sl) : gG E M B pc ls (.inl (.ref (eA E 10)) :: st) S cs sl := by
  subst e
  intro p e s m args below meth c QS hC hE H locs ad lsr hl hS hR hA
  have hX := hC.2.2.2.2.2.2.2.2.1.2.2.2.2.2.1.2
  exact va_slen hC.1 hC.2.1 hX.1 hX.2.1.2 (Nat.not_le.mpr hX.2.1.1) hS d (h p e s m args below meth c QS hC hE H locs ad lsr hl hS hR hA)
theorem g_sld {n : Nat} {i : Int32} {st : List gV} (d : decode M.2.1 pc = .ok (.iaload, 1)) (e : pc + 1 = pc') (hi : i = nI n) (hn : n < eA E 11) (hL : eA E 11 < 2 ^ 31) (h : gG E M B pc' ls (vI (nI (eA E (100 + n))) :: st) S cs sl) : gG E M B pc ls (vI i :: .inl (.ref (eA E 10)) :: st) S cs sl := by
  subst e
  subst hi
  intro p e s m args below meth c QS hC hE H locs ad lsr hl hS hR hA
  have hX := hC.2.2.2.2.2.2.2.2.1.2.2.2.2.2.1.2
  have key := h p e s m args below meth c QS hC hE H locs ad lsr hl hS hR hA
  refine va_sld hC.1 hC.2.1 hX.1 hX.2.1.2 (Nat.not_le.mpr hX.2.1.1) hS (i := nI n) (nI_in hn hL) d ?_
  rw [nI_clamp (by omega)]
  exact key
theorem g_astoreV_n {k : Fin 4} {a : Nat} {st : List gV} (d : decode M.2.1 pc = .ok (.astore_n k, 1)) (e : pc + 1 = pc') (hn : (k : Nat) < M.2.2.1) (hk : gsok ls (k : Nat) = true) (h : gG E M B pc' (ls.set (k : Nat) (some (.inl (.ref a)))) st S cs sl) : gG E M B pc ls (.inl (.ref a) :: st) S cs sl := by
  subst e
  intro p e s m args below meth c QS hC hE H locs ad lsr hl hS hR hA
  exact lv_astore_n hC.1 hC.2.1 d rfl hl hn rfl (fun ls' hl' => h p e s m args below meth c QS hC hE H locs ad ls' (glo_st (v := .inl (.ref a)) hk hl') hS hR hA)
theorem g_astoreV {k : Nat} {a : Nat} {st : List gV} (d : decode M.2.1 pc = .ok (.astore k, 2)) (e : pc + 2 = pc') (hn : k < M.2.2.1) (hk : gsok ls k = true) (h : gG E M B pc' (ls.set k (some (.inl (.ref a)))) st S cs sl) : gG E M B pc ls (.inl (.ref a) :: st) S cs sl := by
  subst e
  intro p e s m args below meth c QS hC hE H locs ad lsr hl hS hR hA
  exact lv_astore hC.1 hC.2.1 d hl hn rfl (fun ls' hl' => h p e s m args below meth c QS hC hE H locs ad ls' (glo_st (v := .inl (.ref a)) hk hl') hS hR hA)
end LW
/-! a method of the law with handlers -/
def gMwW (M : gM) : List Cond := .codeWith M.1 M.2.1 M.2.2.1 M.2.2.2 (gTab M.1.name) :: lwG
def gRmW (d mc ms : Nat) : Room := { frames := d, cells := mc, slots := ms, locals := 28 * d + 2 }
def gBoW (d mc ms : Nat) (ad : gAd) (Nw : List gId) (Q : Option gV → gS → Prop) : gB := (gRmW d mc ms, mc, ms, ad, Nw, Q)
def gRunW (E : gE) (M : gM) (d mc ms : Nat) (as : List gV) (S : gS) (Nw : List gId) (Q : Option gV → gS → Prop) : Prop :=
  ∀ ad : gAd, Met E.1 M.1 (gMwW M) (gRmW d mc ms) (gPc E as S ad) (gQc E ad Nw Q) mc ms (eF E)
theorem gEnd_ofW {E : gE} {M : gM} {B : gB} {p : Program} {e : Env} {s : State} {m : MethodId} {args : Array Value} {below : List Frame} {meth : Method} {c : Code} (hC : gCx E M B p s m args meth c) (hnx : (bR B).locals = 28 * (bR B).frames + 2) : gEnd E M B p e s m args below meth c (vx_MQ below (gQc E (bA B) (bN B) (bQ B)) (fun _ _ _ => False) args s (bC B) (bS B) (eF E)) := by
  obtain ⟨hx, hb, hr, hml, hown, hlocks, hin, hts, hK, hcc, hss⟩ := hC
  intro pc ls H locs ad S cs sl h1 h2 hS hR hA
  refine ⟨fun x hd hn hq => vx_ret ?_, fun hd hn hq => vx_ret ?_, fun q hd hn hq => vx_ret ?_, fun n ik ic h9 => absurd (h9.symm.trans hnx) (fun z => by omega)⟩
  · obtain ⟨ty, e1, e2⟩ := hn
    refine W.widen (k := bC B) (n := bS B) h1 h2 ?_
    exact W.zret (ty := ty) hx hb (hr.trans e1) e2 (fun t ht hW => ⟨⟨some (vI x), S, ad, rfl, hq, by rw [ht]; exact hR, hA⟩, hS.F ht⟩) hS.2.2 hd hlocks
  · refine W.widen (k := bC B) (n := bS B) h1 h2 ?_
    exact W.vret hx hb (hr.trans hn) (fun t ht hW => ⟨⟨none, S, ad, rfl, hq, by rw [ht]; exact hR, hA⟩, hS.F ht⟩) hS.2.2 hd hlocks
  · obtain ⟨n, e1⟩ := hn
    refine W.widen (k := bC B) (n := bS B) h1 h2 ?_
    exact W.aret (rt := .object n) hx hb (hr.trans e1) (Or.inl ⟨n, rfl⟩) (Or.inr ⟨_, rfl⟩) (fun t ht hW => ⟨⟨some (.inr q), S, ad, rfl, hq, by rw [ht]; exact hR, hA⟩, hS.F ht⟩) hS.2.2 hd hlocks
theorem gRunW_of {E : gE} {M : gM} {d mc ms : Nat} {as : List gV} {S : gS} {Nw : List gId} {Q : Option gV → gS → Prop} {ls : List (Option gV)} (hy : plainName M.1.cls = true) (hn : (gargs as).length ≤ M.2.2.1) (hls : gargs as ++ List.replicate (M.2.2.1 - (gargs as).length) none = ls)
    (h : ∀ ad : gAd, gG E M (gBoW d mc ms ad Nw Q) 0 ls [] S 0 0) : gRunW E M d mc ms as S Nw Q := by
  intro ad
  have key : vx_Met E.1 M.1 (gMwW M) (gRmW d mc ms) (gPc E as S ad) (gQc E ad Nw Q) (fun _ _ _ => False) mc ms (eF E) := by
    refine vx_ofWH (cc := M.2.1) (maxL := M.2.2.1) (ret := M.2.2.2) (hh := gTab M.1.name) hy rfl ?_
    intro p e s m args below meth c s₁ B hml hv
    obtain ⟨rfl, hR, hK⟩ := hv
    have hts := atoms_spec (ws := gMwW M) B.pre
    have hCx : gCx E M (gBoW d mc ms ad Nw Q) p s m (as.map (gre ad)).toArray meth c := ⟨B.exec, B.bytes, B.returns, hml, findClass_of_methodNamed B.named, B.notSynchronized, ⟨fun z => (name_of_methodNamed B.named B.method).1.trans z, fun _ => vx_table (x := M.1) B (hts _ List.mem_cons_self)⟩, fun w hw => hts w (List.mem_cons_of_mem _ hw), hK, Nat.le_refl _, Nat.le_refl _⟩
    have hl := lv_entry (as.map (gre ad)) (n := M.2.2.1) (by rw [gargs_len as ad]; exact hn)
    rw [lg_entry_eq]
    refine h ad p e s m _ below meth c _ hCx (gEnd_ofW hCx rfl) s.heap [] ad _ ?_ va_S.rf hR gAg.rf
    rw [← hls, glo_pad, ← glo_args]
    exact hl
  intro p e ha hc hk s m args below hf happ hpc ht
  obtain ⟨t, o, h1, h2, h3, h4⟩ := key p e ha hc hk s m args below hf happ hpc ht
  rcases h4 with h4 | ⟨q, -, E', ce, L, hX, -⟩
  · exact ⟨t, o, h1, h2, h3, h4⟩
  · exact hX.elim
