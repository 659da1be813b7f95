/-! OUR OWN FRAME (2): methods, contracts, the judgement gG -/
/-- a method: name, bytes, locals, answer -/
abbrev gM : Type := MethodName × ByteArray × Nat × Option FieldType
def gMws (M : gM) : List Cond := .code M.1 M.2.1 M.2.2.1 M.2.2.2 :: lwG
def gRm (d mc ms : Nat) : Room := { frames := d, cells := mc, slots := ms, locals := 28 * d }
/-- ids that a call may make: Nw; off them the addresses stay -/
def gAg (ad ad' : gAd) (Nw : List gId) : Prop := ∀ q : gId, q ∉ Nw → gad ad' q = gad ad q
theorem gAg.rf {ad : gAd} {Nw : List gId} : gAg ad ad Nw := fun _ _ => rfl
theorem gAg.tr {ad ad' ad2 : gAd} {Nw : List gId} (h : gAg ad ad' Nw) (h2 : gAg ad' ad2 Nw) : gAg ad ad2 Nw := fun q hq => (h2 q hq).trans (h q hq)
theorem gAg.mono {ad ad' : gAd} {N1 N2 : List gId} (h : gAg ad ad' N1) (hs : ∀ q ∈ N1, q ∈ N2) : gAg ad ad' N2 := fun q hq => h q (fun z => hq (hs q z))
/-- values that no new id stands in -/
def gNo (Nw : List gId) (v : gV) : Prop := match v with
  | .inl _ => True
  | .inr q => q ∉ Nw
theorem gAg.re {ad ad' : gAd} {Nw : List gId} (h : gAg ad ad' Nw) {v : gV} (hv : gNo Nw v) : gre ad' v = gre ad v := by
  rcases v with w | q
  · rfl
  · exact congrArg Value.ref (h q hv)
theorem gAg.st {ad ad' : gAd} {Nw : List gId} (h : gAg ad ad' Nw) {st : List gV} (hv : ∀ v ∈ st, gNo Nw v) : st.map (gre ad') = st.map (gre ad) := List.map_congr_left fun v hm => h.re (hv v hm)
theorem gAg.ls {ad ad' : gAd} {Nw : List gId} (h : gAg ad ad' Nw) : ∀ {ls : List (Option gV)} (i : Nat), (∀ v, some v ∈ ls → gNo Nw v) → glo ad' i ls = glo ad i ls
  | [], _, _ => rfl
  | none :: r, i, hv => by rw [glo, glo, h.ls (ls := r) (i + 1) (fun v hm => hv v (List.mem_cons_of_mem _ hm))]
  | some v :: r, i, hv => by rw [glo, glo, h.re (hv v List.mem_cons_self), h.ls (ls := r) (i + 1) (fun v hm => hv v (List.mem_cons_of_mem _ hm))]
def gPc (E : gE) (as : List gV) (S : gS) (ad : gAd) : Array Value → State → Prop := fun a U => a = (as.map (gre ad)).toArray ∧ gRep E S ad U.heap ∧ gKS E U U.heap
def gQc (E : gE) (ad : gAd) (Nw : List gId) (Q : Option gV → gS → Prop) : Array Value → State → Outcome → State → Prop := fun _ st o t =>
  (∃ (r : Option gV) (S' : gS) (ad' : gAd), o = .returned (r.map (gre ad')) ∧ Q r S' ∧ gRep E S' ad' t.heap ∧ gAg ad ad' Nw) ∧ va_F (eF E) st t
theorem gPc_blind (E : gE) (as : List gV) (S : gS) (ad : gAd) : FrameBlind (gPc E as S ad) := fun a U g mk h => ⟨h.1, h.2.1, h.2.2.calling g mk a⟩
/-- CONTRACT: the method, called with as at S, returns with Q of its answer and its state; depth d, at most mc cells of ms slots are new, of the ids Nw -/
def gRun (E : gE) (M : gM) (d mc ms : Nat) (as : List gV) (S : gS) (Nw : List gId) (Q : Option gV → gS → Prop) : Prop :=
  ∀ ad : gAd, Met E.1 M.1 (gMws M) (gRm d mc ms) (gPc E as S ad) (gQc E ad Nw Q) mc ms (eF E)
/-- what a throwing method says of its throws: the class, the state -/
def gXc (E : gE) (ad : gAd) (Nw : List gId) (X : String → gS → Prop) : String → State → State → Prop := fun En st t =>
  (∃ (S' : gS) (ad' : gAd), X En S' ∧ gRep E S' ad' t.heap ∧ gAg ad ad' Nw) ∧ va_F (eF E) st t
def gRunX (E : gE) (M : gM) (d mc ms : Nat) (as : List gV) (S : gS) (Nw : List gId) (Q : Option gV → gS → Prop) (X : String → gS → Prop) : Prop :=
  ∀ ad : gAd, vx_Met E.1 M.1 (gMws M) (gRm d mc ms) (gPc E as S ad) (gQc E ad Nw Q) (gXc E ad Nw X) mc ms (eF E)
/-- a body's frame: its room, its cells and slots, the addresses at its entry, its new ids, what it owes -/
abbrev gB : Type := Room × Nat × Nat × gAd × List gId × (Option gV → gS → Prop)
def bR (B : gB) : Room := B.1
def bC (B : gB) : Nat := B.2.1
def bS (B : gB) : Nat := B.2.2.1
def bA (B : gB) : gAd := B.2.2.2.1
def bN (B : gB) : List gId := B.2.2.2.2.1
def bQ (B : gB) : Option gV → gS → Prop := B.2.2.2.2.2
/-- the tables of handlers of the law's methods -/
def gTab (n : String) : List (Nat × Nat × Nat × Nat) := match ([("job", [(0, 9, 12, 13), (0, 9, 15, 15)]), ("task", [(0, 14, 17, 21), (0, 14, 21, 13), (0, 14, 25, 15)]), ("holds", [(0, 17, 20, 21), (0, 17, 24, 15)]), ("next", [(0, 10, 13, 21), (0, 10, 17, 15)]), ("part", [(0, 10, 13, 15)]), ("pass", [(0, 9, 12, 15), (0, 9, 15, 37)]), ("set", [(0, 5, 8, 37), (0, 5, 11, 15)]), ("end", [(0, 12, 15, 21), (0, 12, 19, 37)]), ("down", [(0, 9, 12, 37)]), ("entry", [(0, 10, 13, 21)])] : List (String × List (Nat × Nat × Nat × Nat))).find? (fun q => q.1 == n) with
  | some q => q.2
  | none => []
/-- the method's frame: the machine, the bytes, the tables -/
def gCx (E : gE) (M : gM) (B : gB) (p : Program) (s : State) (m : MethodId) (args : Array Value) (meth : Method) (c : Code) : Prop :=
  p.tables.exec = Jvm.exec ∧ c.code = M.2.1 ∧ meth.sig.returnType = M.2.2.2 ∧ c.maxLocals = M.2.2.1 ∧ s.vm.findClass M.1.cls = some m.cls ∧ meth.locks = false ∧ ((M.1.name = "<init>" → meth.name = "<init>") ∧ ((bR B).locals = 28 * (bR B).frames + 2 → c.exceptionTable.toList = tableOf (gTab M.1.name))) ∧ (∀ w ∈ lwG, w.before args s = true) ∧ gKS E s s.heap ∧ bC B ≤ (bR B).cells ∧ bS B ≤ (bR B).slots
/-- the exceptions, and the words that a throw of one reads -/
def exN (n : Nat) : String := ["java/lang/UnsupportedOperationException", "java/lang/IllegalArgumentException", "java/lang/IndexOutOfBoundsException", "java/lang/IllegalStateException"].getD n ""
def exS : List String := ["java/lang/RuntimeException", "java/lang/Exception"]
def gThr (M : gM) (n ik ic : Nat) : Prop := Bundle.fit (exN n) = true ∧ Cond.classLink M.1.cls ik (exN n) ∈ lwG ∧ Cond.initialized (exN n) ∈ lwG ∧ ∀ w ∈ vx_at0 M.1.cls ic (exN n) exS, w ∈ lwG ∨ w ∈ lwN
/-- what the end of the body gives -/
def gEnd (E : gE) (M : gM) (B : gB) (p : Program) (e : Env) (s : State) (m : MethodId) (args : Array Value) (below : List Frame) (meth : Method) (c : Code) (QS : State → Prop) : Prop :=
  ∀ (pc : Nat) (ls : Array Slot) (H : Heap) (locs : List Loc) (ad : gAd) (S : gS) (cs sl : Nat), cs ≤ bC B → sl ≤ bS B → va_S (eF E) s.heap H locs → gRep E S ad H → gAg (bA B) ad (bN B) →
  (∀ x : Int32, decode M.2.1 pc = .ok (.ireturn, 1) → (∃ ty, M.2.2.2 = some ty ∧ narrow ty (.int x) = .int x) → bQ B (some (vI x)) S → W p E.1 e (bR B) s m args below meth c H locs cs sl QS (F0 m pc ls [.int x])) ∧
  (decode M.2.1 pc = .ok (.return_, 1) → M.2.2.2 = none → bQ B none S → W p E.1 e (bR B) s m args below meth c H locs cs sl QS (F0 m pc ls [])) ∧
  (∀ q : gId, decode M.2.1 pc = .ok (.areturn, 1) → (∃ n, M.2.2.2 = some (.object n)) → bQ B (some (.inr q)) S → W p E.1 e (bR B) s m args below meth c H locs cs sl QS (F0 m pc ls [.ref (gad ad q)])) ∧
  (∀ n ik ic : Nat, (bR B).locals = 28 * (bR B).frames + 1 → 7 ≤ (bR B).frames → gThr M n ik ic → decode M.2.1 pc = .ok (.new ik, 3) → decode M.2.1 (pc + 3) = .ok (.dup, 1) → decode M.2.1 (pc + 4) = .ok (.invokespecial ic, 3) → decode M.2.1 (pc + 7) = .ok (.athrow, 1) → ls.size = c.maxLocals → cs + 1 ≤ bC B → sl + 6 ≤ bS B → bQ B (some (vR 100 n 0)) S → W p E.1 e (bR B) s m args below meth c H locs cs sl QS (F0 m pc ls []))
/-- THE JUDGEMENT: from pc, with these locals, this stack, this state, the body comes to its end -/
def gG (E : gE) (M : gM) (B : gB) (pc : Nat) (ls : List (Option gV)) (st : List gV) (S : gS) (cs sl : Nat) : Prop :=
  ∀ (p : Program) (e : Env) (s : State) (m : MethodId) (args : Array Value) (below : List Frame) (meth : Method) (c : Code) (QS : State → Prop), gCx E M B p s m args meth c → gEnd E M B p e s m args below meth c QS →
  ∀ (H : Heap) (locs : List Loc) (ad : gAd) (lsr : Array Slot), lv_has lsr M.2.2.1 (glo ad 0 ls) → va_S (eF E) s.heap H locs → gRep E S ad H → gAg (bA B) ad (bN B) → W p E.1 e (bR B) s m args below meth c H locs cs sl QS (F0 m pc lsr (st.map (gre ad)))
def gBof (d mc ms : Nat) (ad : gAd) (Nw : List gId) (Q : Option gV → gS → Prop) : gB := (gRm d mc ms, mc, ms, ad, Nw, Q)
theorem gEnd_of {E : gE} {M : gM} {B : gB} {p : Program} {e : Env} {s : State} {m : MethodId} {args : Array Value} {below : List Frame} {meth : Method} {c : Code} (hC : gCx E M B p s m args meth c) (hnx : (bR B).locals = 28 * (bR B).frames) : gEnd E M B p e s m args below meth c (MQ below (gQc E (bA B) (bN B) (bQ B)) args s (bC B) (bS B) (eF E)) := by
  obtain ⟨hx, hb, hr, hml, hown, hlocks, hin, hts, hK, hcc, hss⟩ := hC
  intro pc ls H locs ad S cs sl h1 h2 hS hR hA
  refine ⟨fun x hd hn hq => ?_, fun hd hn hq => ?_, fun q hd hn hq => ?_, fun n ik ic h9 => absurd (h9.symm.trans hnx) (Nat.succ_ne_self _)⟩
  · obtain ⟨ty, e1, e2⟩ := hn
    refine W.widen (k := bC B) (n := bS B) h1 h2 ?_
    exact W.zret (ty := ty) hx hb (hr.trans e1) e2 (fun t ht hW => ⟨⟨some (vI x), S, ad, rfl, hq, by rw [ht]; exact hR, hA⟩, hS.F ht⟩) hS.2.2 hd hlocks
  · refine W.widen (k := bC B) (n := bS B) h1 h2 ?_
    exact W.vret hx hb (hr.trans hn) (fun t ht hW => ⟨⟨none, S, ad, rfl, hq, by rw [ht]; exact hR, hA⟩, hS.F ht⟩) hS.2.2 hd hlocks
  · obtain ⟨n, e1⟩ := hn
    refine W.widen (k := bC B) (n := bS B) h1 h2 ?_
    exact W.aret (rt := .object n) hx hb (hr.trans e1) (Or.inl ⟨n, rfl⟩) (Or.inr ⟨_, rfl⟩) (fun t ht hW => ⟨⟨some (.inr q), S, ad, rfl, hq, by rw [ht]; exact hR, hA⟩, hS.F ht⟩) hS.2.2 hd hlocks
/-- a contract out of the body's judgement -/
theorem gRun_of {E : gE} {M : gM} {d mc ms : Nat} {as : List gV} {S : gS} {Nw : List gId} {Q : Option gV → gS → Prop} {ls : List (Option gV)} (hy : plainName M.1.cls = true) (hn : (gargs as).length ≤ M.2.2.1) (hls : gargs as ++ List.replicate (M.2.2.1 - (gargs as).length) none = ls)
    (h : ∀ ad : gAd, gG E M (gBof d mc ms ad Nw Q) 0 ls [] S 0 0) : gRun E M d mc ms as S Nw Q := by
  intro ad
  refine Met.ofW (cc := M.2.1) (maxL := M.2.2.1) (ret := M.2.2.2) hy rfl ?_
  intro p e s m args below meth c s₁ B hml hv
  obtain ⟨rfl, hR, hK⟩ := hv
  have hts := atoms_spec (ws := gMws M) B.pre
  have hCx : gCx E M (gBof d mc ms ad Nw Q) p s m (as.map (gre ad)).toArray meth c := ⟨B.exec, B.bytes, B.returns, hml, findClass_of_methodNamed B.named, B.notSynchronized, ⟨fun z => (name_of_methodNamed B.named B.method).1.trans z, fun h9 => absurd h9.symm (show ¬ 28 * d + 2 = 28 * d by omega)⟩, fun w hw => hts w (List.mem_cons_of_mem _ hw), hK, Nat.le_refl _, Nat.le_refl _⟩
  have hl := lv_entry (as.map (gre ad)) (n := M.2.2.1) (by rw [gargs_len as ad]; exact hn)
  rw [lg_entry_eq]
  refine h ad p e s m _ below meth c _ hCx (gEnd_of hCx rfl) s.heap [] ad _ ?_ va_S.rf hR gAg.rf
  rw [← hls, glo_pad, ← glo_args]
  exact hl
/-! a method that may throw -/
def gNoRef (r : Option FieldType) : Bool := match r with
  | some (.object _) => false
  | _ => true
/-- an answer that is none of the marks of a throw -/
def gNr (Q : Option gV → gS → Prop) : Option gV → gS → Prop := fun r S' => Q r S' ∧ ∀ n : Nat, r ≠ some (vR 100 n 0)
def gRmX (d mc ms : Nat) : Room := { frames := d, cells := mc, slots := ms, locals := 28 * d + 1 }
def gBoT (d mc ms : Nat) (ad : gAd) (Nw : List gId) (Q : Option gV → gS → Prop) : gB := (gRmX d mc ms, mc, ms, ad, Nw, Q)
def gXof (Q : Option gV → gS → Prop) : String → gS → Prop := fun En S' => ∃ n, exN n = En ∧ Q (some (vR 100 n 0)) S'
/-- CONTRACT of a throwing method: a throw is the answer vR 100 n 0, n the exception's place in exN -/
def gRunT (E : gE) (M : gM) (d mc ms : Nat) (as : List gV) (S : gS) (Nw : List gId) (Q : Option gV → gS → Prop) : Prop :=
  ∀ ad : gAd, vx_Met E.1 M.1 (gMws M) (gRmX d mc ms) (gPc E as S ad) (gQc E ad Nw (gNr Q)) (gXc E ad Nw (gXof Q)) mc ms (eF E)
theorem gRep_more {E : gE} {S : gS} {ad : gAd} {H H1 : Heap} (h : gRep E S ad H) (hk : ∀ q : Nat, q < H.size → H1[q]? = H[q]?) : gRep E S ad H1 :=
  ⟨h.1.kept (fun k q hq => hk _ (vx_lt h.1 hq)), h.2⟩
theorem gEnd_ofX {E : gE} {M : gM} {B : gB} {p : Program} {e : Env} {s : State} {m : MethodId} {args : Array Value} {below : List Frame} {meth : Method} {c : Code} (hC : gCx E M B p s m args meth c) (hnt : ∀ x ∈ c.exceptionTable.toList, False) (hret : gNoRef M.2.2.2 = true) : gEnd E M B p e s m args below meth c (vx_MQ below (gQc E (bA B) (bN B) (gNr (bQ B))) (gXc E (bA B) (bN B) (gXof (bQ B))) args s (bC B) (bS B) (eF E)) := by
  obtain ⟨hx, hb, hr, hml, hown, hlocks, hin, hts, hK, hcc, hss⟩ := hC
  intro pc ls H locs ad S cs sl h1 h2 hS hR hA
  refine ⟨fun x hd hn hq => vx_ret ?_, fun hd hn hq => vx_ret ?_, fun q hd hn hq => vx_ret ?_, fun n ik ic hl hf ht d0 d3 d4 d7 hls hc1 hs1 hq => ?_⟩
  · obtain ⟨ty, e1, e2⟩ := hn
    refine W.widen (k := bC B) (n := bS B) h1 h2 ?_
    exact W.zret (ty := ty) hx hb (hr.trans e1) e2 (fun t ht hW => ⟨⟨some (vI x), S, ad, rfl, ⟨hq, fun n h9 => by injection h9 with h9; cases h9⟩, by rw [ht]; exact hR, hA⟩, hS.F ht⟩) hS.2.2 hd hlocks
  · refine W.widen (k := bC B) (n := bS B) h1 h2 ?_
    exact W.vret hx hb (hr.trans hn) (fun t ht hW => ⟨⟨none, S, ad, rfl, ⟨hq, fun n h9 => by cases h9⟩, by rw [ht]; exact hR, hA⟩, hS.F ht⟩) hS.2.2 hd hlocks
  · obtain ⟨n, e1⟩ := hn
    rw [e1] at hret
    cases hret
  · obtain ⟨t1, t2, t3, t4⟩ := ht
    have hN := hK.2.2.2.2.1
    have hw : ∀ w, w ∈ lwG ∨ w ∈ lwN → w.before args s = true := fun w h => by
      rcases h with h | h
      · exact hts w h
      · exact va_Nw.use (lwN_tab (List.mem_filter.mp h).2) (hN w h)
    have ho : ∀ w, w ∈ lwG ∨ w ∈ lwN → vx_ot w = true := fun w h => by
      rcases h with h | h
      · have h9 : goodWord w = true := (List.mem_filter.mp h).2
        unfold vx_ot; rw [h9, Bool.or_true]
      · have h9 := lwN_tab (List.mem_filter.mp h).2
        unfold vx_ot; rw [h9, Bool.true_or]
    refine vx_throw0 (cc := M.2.1) (own := M.1.cls) (cls := exN n) (names := exS) (ik := ik) (ic := ic) (A := eF E) hx hb hK.2.2.2.2.2.1.1 hown t1 (by decide +kernel) (hts _ t2) (hts _ t3) (fun w h => hw w (t4 w h)) ?_ hK.2.2.1.1 hK.2.2.1.2 hS hls d0 d3 d4 d7 (fun x hx => (hnt x hx).elim) ?_ ?_ (Nat.le_trans hc1 hcc) (Nat.le_trans hs1 hss) hlocks ?_ hS.2.2 hc1 hs1
    · intro w hw9
      rcases List.mem_cons.mp hw9 with rfl | hw9
      · exact ho _ (Or.inl t2)
      · rcases List.mem_cons.mp hw9 with rfl | hw9
        · exact ho _ (Or.inl t3)
        · exact ho w (t4 w hw9)
    · show 2 + 3 < _
      omega
    · show 0 + (13 * (2 + 1) + 42) ≤ _
      rw [hl]; omega
    · intro t hW hz hk
      refine ⟨⟨S, ad, ⟨n, rfl, hq⟩, gRep_more hR hk, hA⟩, Nat.le_trans hS.1 hz, fun q hq1 hq2 => ?_⟩
      rw [hk q (Nat.lt_of_lt_of_le hq1 hS.1)]
      exact hS.2.1 q hq1 hq2
theorem gRunT_of {E : gE} {M : gM} {d mc ms : Nat} {as : List gV} {S : gS} {Nw : List gId} {Q : Option gV → gS → Prop} {ls : List (Option gV)} (hy : plainName M.1.cls = true) (hn : (gargs as).length ≤ M.2.2.1) (hls : gargs as ++ List.replicate (M.2.2.1 - (gargs as).length) none = ls)
    (h : ∀ ad : gAd, gG E M (gBoT d mc ms ad Nw Q) 0 ls [] S 0 0) (hret : gNoRef M.2.2.2 = true := by rfl) : gRunT E M d mc ms as S Nw Q := by
  intro ad
  refine vx_ofW (cc := M.2.1) (maxL := M.2.2.1) (ret := M.2.2.2) hy rfl ?_
  intro p e s m args below meth c s₁ B hml hnt hv
  obtain ⟨rfl, hR, hK⟩ := hv
  have hts := atoms_spec (ws := gMws M) B.pre
  have hCx : gCx E M (gBoT d mc ms ad Nw Q) p s m (as.map (gre ad)).toArray meth c := ⟨B.exec, B.bytes, B.returns, hml, findClass_of_methodNamed B.named, B.notSynchronized, ⟨fun z => (name_of_methodNamed B.named B.method).1.trans z, fun h9 => absurd h9.symm (show ¬ 28 * d + 2 = 28 * d + 1 by omega)⟩, fun w hw => hts w (List.mem_cons_of_mem _ hw), hK, Nat.le_refl _, Nat.le_refl _⟩
  have hl := lv_entry (as.map (gre ad)) (n := M.2.2.1) (by rw [gargs_len as ad]; exact hn)
  rw [lg_entry_eq]
  refine h ad p e s m _ below meth c _ hCx (gEnd_ofX hCx hnt hret) s.heap [] ad _ ?_ va_S.rf hR gAg.rf
  rw [← hls, glo_pad, ← glo_args]
  exact hl
theorem gRun.mono {E : gE} {M : gM} {d mc ms : Nat} {as : List gV} {S : gS} {Nw : List gId} {Q Q' : Option gV → gS → Prop} (h : gRun E M d mc ms as S Nw Q) (hq : ∀ r S', Q r S' → Q' r S') : gRun E M d mc ms as S Nw Q' := by
  intro ad p e ha hc hk s m args below hf happ hpc ht
  obtain ⟨t, o, h1, h2, h3, h4, h5⟩ := h ad p e ha hc hk s m args below hf happ hpc ht
  obtain ⟨⟨r, S', ad', e1, e2, e3, e4⟩, e5⟩ := h4
  exact ⟨t, o, h1, h2, h3, ⟨⟨r, S', ad', e1, hq r S' e2, e3, e4⟩, e5⟩, h5⟩
section GR
variable {E : gE} {M : gM} {B : gB} {pc pc' : Nat} {ls : List (Option gV)} {st : List gV} {S : gS} {cs sl : Nat}
theorem gG.eqS {S' : gS} (e : S = S') (h : gG E M B pc ls st S' cs sl) : gG E M B pc ls st S cs sl := e ▸ h
theorem g_iconst {n : Int} {v : Int32} (d : decode M.2.1 pc = .ok (.iconst n, 1)) (e : pc + 1 = pc') (hv : Int32.ofInt n = v) (h : gG E M B pc' ls (vI v :: st) S cs sl) : gG E M B pc ls st S cs sl := by
  subst e
  intro p e s m args below meth c QS hC hE H locs ad lsr hl hS hR hA
  exact lv_iconst hC.1 hC.2.1 d hv (h p e s m args below meth c QS hC hE H locs ad lsr hl hS hR hA)
theorem g_bipush {n : Int} {v : Int32} (d : decode M.2.1 pc = .ok (.bipush n, 2)) (e : pc + 2 = pc') (hv : (Int8.ofInt n).toInt32 = v) (h : gG E M B pc' ls (vI v :: st) S cs sl) : gG E M B pc ls st S cs sl := by
  subst e
  intro p e s m args below meth c QS hC hE H locs ad lsr hl hS hR hA
  exact lv_bipush hC.1 hC.2.1 d hv (h p e s m args below meth c QS hC hE H locs ad lsr hl hS hR hA)
theorem g_sipush {n : Int} {v : Int32} (d : decode M.2.1 pc = .ok (.sipush n, 3)) (e : pc + 3 = pc') (hv : (Int16.ofInt n).toInt32 = v) (h : gG E M B pc' ls (vI v :: st) S cs sl) : gG E M B pc ls st S cs sl := by
  subst e
  intro p e s m args below meth c QS hC hE H locs ad lsr hl hS hR hA
  exact lv_sipush hC.1 hC.2.1 d hv (h p e s m args below meth c QS hC hE H locs ad lsr hl hS hR hA)
theorem g_lconst {n : Fin 2} {v : Int64} (d : decode M.2.1 pc = .ok (.lconst n, 1)) (e : pc + 1 = pc') (hv : Int64.ofNat (n : Nat) = v) (h : gG E M B pc' ls (vL v :: st) S cs sl) : gG E M B pc ls st S cs sl := by
  subst e
  intro p e s m args below meth c QS hC hE H locs ad lsr hl hS hR hA
  exact lv_lconst hC.1 hC.2.1 d hv (h p e s m args below meth c QS hC hE H locs ad lsr hl hS hR hA)
theorem g_ldc {i : Nat} {v : Int32} (d : decode M.2.1 pc = .ok (.ldc i, 2)) (e : pc + 2 = pc') (hw : Cond.constant M.1.cls i v ∈ lwG) (h : gG E M B pc' ls (vI v :: st) S cs sl) : gG E M B pc ls st S cs sl := by
  subst e
  intro p e s m args below meth c QS hC hE H locs ad lsr hl hS hR hA
  exact lv_ldc hC.1 hC.2.1 hC.2.2.2.2.1 (hC.2.2.2.2.2.2.2.1 _ hw) d (h p e s m args below meth c QS hC hE H locs ad lsr hl hS hR hA)
theorem g_ldc2 {i : Nat} {v : Int64} (d : decode M.2.1 pc = .ok (.ldc2_w i, 3)) (e : pc + 3 = pc') (hw : Cond.constantLong M.1.cls i v ∈ lwG) (h : gG E M B pc' ls (vL v :: st) S cs sl) : gG E M B pc ls st S cs sl := by
  subst e
  intro p e s m args below meth c QS hC hE H locs ad lsr hl hS hR hA
  exact lv_ldc2 hC.1 hC.2.1 hC.2.2.2.2.1 (hC.2.2.2.2.2.2.2.1 _ hw) d (h p e s m args below meth c QS hC hE H locs ad lsr hl hS hR hA)
theorem g_iadd {x y : Int32} (d : decode M.2.1 pc = .ok (.iadd, 1)) (e : pc + 1 = pc') (h : gG E M B pc' ls (vI (x + y) :: st) S cs sl) : gG E M B pc ls (vI y :: vI x :: st) S cs sl := by
  subst e
  intro p e s m args below meth c QS hC hE H locs ad lsr hl hS hR hA
  exact lv_iadd hC.1 hC.2.1 d (h p e s m args below meth c QS hC hE H locs ad lsr hl hS hR hA)
theorem g_isub {x y : Int32} (d : decode M.2.1 pc = .ok (.isub, 1)) (e : pc + 1 = pc') (h : gG E M B pc' ls (vI (x - y) :: st) S cs sl) : gG E M B pc ls (vI y :: vI x :: st) S cs sl := by
  subst e
  intro p e s m args below meth c QS hC hE H locs ad lsr hl hS hR hA
  exact lv_isub hC.1 hC.2.1 d (h p e s m args below meth c QS hC hE H locs ad lsr hl hS hR hA)
theorem g_imul {x y : Int32} (d : decode M.2.1 pc = .ok (.imul, 1)) (e : pc + 1 = pc') (h : gG E M B pc' ls (vI (x * y) :: st) S cs sl) : gG E M B pc ls (vI y :: vI x :: st) S cs sl := by
  subst e
  intro p e s m args below meth c QS hC hE H locs ad lsr hl hS hR hA
  exact lv_imul hC.1 hC.2.1 d (h p e s m args below meth c QS hC hE H locs ad lsr hl hS hR hA)
theorem g_iand {x y : Int32} (d : decode M.2.1 pc = .ok (.iand, 1)) (e : pc + 1 = pc') (h : gG E M B pc' ls (vI (x &&& y) :: st) S cs sl) : gG E M B pc ls (vI y :: vI x :: st) S cs sl := by
  subst e
  intro p e s m args below meth c QS hC hE H locs ad lsr hl hS hR hA
  exact lv_iand hC.1 hC.2.1 d (h p e s m args below meth c QS hC hE H locs ad lsr hl hS hR hA)
theorem g_ior {x y : Int32} (d : decode M.2.1 pc = .ok (.ior, 1)) (e : pc + 1 = pc') (h : gG E M B pc' ls (vI (x ||| y) :: st) S cs sl) : gG E M B pc ls (vI y :: vI x :: st) S cs sl := by
  subst e
  intro p e s m args below meth c QS hC hE H locs ad lsr hl hS hR hA
  exact lv_ior hC.1 hC.2.1 d (h p e s m args below meth c QS hC hE H locs ad lsr hl hS hR hA)
theorem g_ixor {x y : Int32} (d : decode M.2.1 pc = .ok (.ixor, 1)) (e : pc + 1 = pc') (h : gG E M B pc' ls (vI (x ^^^ y) :: st) S cs sl) : gG E M B pc ls (vI y :: vI x :: st) S cs sl := by
  subst e
  intro p e s m args below meth c QS hC hE H locs ad lsr hl hS hR hA
  exact lv_ixor hC.1 hC.2.1 d (h p e s m args below meth c QS hC hE H locs ad lsr hl hS hR hA)
theorem g_ishl {x y : Int32} (d : decode M.2.1 pc = .ok (.ishl, 1)) (e : pc + 1 = pc') (h : gG E M B pc' ls (vI (x <<< (y &&& 31)) :: st) S cs sl) : gG E M B pc ls (vI y :: vI x :: st) S cs sl := by
  subst e
  intro p e s m args below meth c QS hC hE H locs ad lsr hl hS hR hA
  exact lv_ishl hC.1 hC.2.1 d (h p e s m args below meth c QS hC hE H locs ad lsr hl hS hR hA)
theorem g_ishr {x y : Int32} (d : decode M.2.1 pc = .ok (.ishr, 1)) (e : pc + 1 = pc') (h : gG E M B pc' ls (vI (x >>> (y &&& 31)) :: st) S cs sl) : gG E M B pc ls (vI y :: vI x :: st) S cs sl := by
  subst e
  intro p e s m args below meth c QS hC hE H locs ad lsr hl hS hR hA
  exact lv_ishr hC.1 hC.2.1 d (h p e s m args below meth c QS hC hE H locs ad lsr hl hS hR hA)
theorem g_idiv {x y : Int32} (d : decode M.2.1 pc = .ok (.idiv, 1)) (e : pc + 1 = pc') (hy : ¬ y = 0) (h : gG E M B pc' ls (vI (x / y) :: st) S cs sl) : gG E M B pc ls (vI y :: vI x :: st) S cs sl := by
  subst e
  intro p e s m args below meth c QS hC hE H locs ad lsr hl hS hR hA
  exact lv_idiv hC.1 hC.2.1 d hy (h p e s m args below meth c QS hC hE H locs ad lsr hl hS hR hA)
theorem g_irem {x y : Int32} (d : decode M.2.1 pc = .ok (.irem, 1)) (e : pc + 1 = pc') (hy : ¬ y = 0) (h : gG E M B pc' ls (vI (x % y) :: st) S cs sl) : gG E M B pc ls (vI y :: vI x :: st) S cs sl := by
  subst e
  intro p e s m args below meth c QS hC hE H locs ad lsr hl hS hR hA
  refine lv_irem hC.1 hC.2.1 d hy ?_
  rw [irem_eq_mod]
  exact h p e s m args below meth c QS hC hE H locs ad lsr hl hS hR hA
theorem g_land {x y : Int64} (d : decode M.2.1 pc = .ok (.land, 1)) (e : pc + 1 = pc') (h : gG E M B pc' ls (vL (x &&& y) :: st) S cs sl) : gG E M B pc ls (vL y :: vL x :: st) S cs sl := by
  subst e
  intro p e s m args below meth c QS hC hE H locs ad lsr hl hS hR hA
  exact lv_land hC.1 hC.2.1 d (h p e s m args below meth c QS hC hE H locs ad lsr hl hS hR hA)
theorem g_lor {x y : Int64} (d : decode M.2.1 pc = .ok (.lor, 1)) (e : pc + 1 = pc') (h : gG E M B pc' ls (vL (x ||| y) :: st) S cs sl) : gG E M B pc ls (vL y :: vL x :: st) S cs sl := by
  subst e
  intro p e s m args below meth c QS hC hE H locs ad lsr hl hS hR hA
  exact lv_lor hC.1 hC.2.1 d (h p e s m args below meth c QS hC hE H locs ad lsr hl hS hR hA)
theorem g_lcmp {x y : Int64} (d : decode M.2.1 pc = .ok (.lcmp, 1)) (e : pc + 1 = pc') (h : gG E M B pc' ls (vI (lg_cmp x y) :: st) S cs sl) : gG E M B pc ls (vL y :: vL x :: st) S cs sl := by
  subst e
  intro p e s m args below meth c QS hC hE H locs ad lsr hl hS hR hA
  exact W.lcmp hC.1 hC.2.1 d (h p e s m args below meth c QS hC hE H locs ad lsr hl hS hR hA)
theorem g_i2l {x : Int32} (d : decode M.2.1 pc = .ok (.i2l, 1)) (e : pc + 1 = pc') (h : gG E M B pc' ls (vL (x.toInt64) :: st) S cs sl) : gG E M B pc ls (vI x :: st) S cs sl := by
  subst e
  intro p e s m args below meth c QS hC hE H locs ad lsr hl hS hR hA
  exact lv_i2l hC.1 hC.2.1 d rfl (h p e s m args below meth c QS hC hE H locs ad lsr hl hS hR hA)
theorem g_l2i {x : Int64} (d : decode M.2.1 pc = .ok (.l2i, 1)) (e : pc + 1 = pc') (h : gG E M B pc' ls (vI (x.toInt32) :: st) S cs sl) : gG E M B pc ls (vL x :: st) S cs sl := by
  subst e
  intro p e s m args below meth c QS hC hE H locs ad lsr hl hS hR hA
  exact lv_l2i hC.1 hC.2.1 d rfl (h p e s m args below meth c QS hC hE H locs ad lsr hl hS hR hA)
theorem g_i2c {x : Int32} (d : decode M.2.1 pc = .ok (.i2c, 1)) (e : pc + 1 = pc') (h : gG E M B pc' ls (vI ((x.toUInt32 % 65536).toInt32) :: st) S cs sl) : gG E M B pc ls (vI x :: st) S cs sl := by
  subst e
  intro p e s m args below meth c QS hC hE H locs ad lsr hl hS hR hA
  exact lv_i2c hC.1 hC.2.1 d rfl (h p e s m args below meth c QS hC hE H locs ad lsr hl hS hR hA)
theorem g_lshl {x : Int64} {y : Int32} (d : decode M.2.1 pc = .ok (.lshl, 1)) (e : pc + 1 = pc') (h : gG E M B pc' ls (vL (x <<< (y.toInt64 &&& 63)) :: st) S cs sl) : gG E M B pc ls (vI y :: vL x :: st) S cs sl := by
  subst e
  intro p e s m args below meth c QS hC hE H locs ad lsr hl hS hR hA
  exact lv_lshl hC.1 hC.2.1 d rfl (h p e s m args below meth c QS hC hE H locs ad lsr hl hS hR hA)
theorem g_lshr {x : Int64} {y : Int32} (d : decode M.2.1 pc = .ok (.lshr, 1)) (e : pc + 1 = pc') (h : gG E M B pc' ls (vL (x >>> (y.toInt64 &&& 63)) :: st) S cs sl) : gG E M B pc ls (vI y :: vL x :: st) S cs sl := by
  subst e
  intro p e s m args below meth c QS hC hE H locs ad lsr hl hS hR hA
  exact lv_lshr hC.1 hC.2.1 d rfl (h p e s m args below meth c QS hC hE H locs ad lsr hl hS hR hA)
theorem g_lushr {x : Int64} {y : Int32} (d : decode M.2.1 pc = .ok (.lushr, 1)) (e : pc + 1 = pc') (h : gG E M B pc' ls (vL ((x.toUInt64 >>> (y.toInt64.toUInt64 &&& Int64.toUInt64 63)).toInt64) :: st) S cs sl) : gG E M B pc ls (vI y :: vL x :: st) S cs sl := by
  subst e
  intro p e s m args below meth c QS hC hE H locs ad lsr hl hS hR hA
  exact lv_lushr hC.1 hC.2.1 d rfl (h p e s m args below meth c QS hC hE H locs ad lsr hl hS hR hA)
theorem g_iload_n {k : Fin 4} {x : Int32} (d : decode M.2.1 pc = .ok (.iload_n k, 1)) (e : pc + 1 = pc') (hx : ls[(k : Nat)]? = some (some (vI x))) (h : gG E M B pc' ls (vI x :: st) S cs sl) : gG E M B pc ls st S cs sl := by
  subst e
  intro p e s m args below meth c QS hC hE H locs ad lsr hl hS hR hA
  exact lv_iload_n hC.1 hC.2.1 d rfl (glo_ld hl hx) (h p e s m args below meth c QS hC hE H locs ad lsr hl hS hR hA)
theorem g_iload {k : Nat} {x : Int32} (d : decode M.2.1 pc = .ok (.iload k, 2)) (e : pc + 2 = pc') (hx : ls[k]? = some (some (vI x))) (h : gG E M B pc' ls (vI x :: st) S cs sl) : gG E M B pc ls st S cs sl := by
  subst e
  intro p e s m args below meth c QS hC hE H locs ad lsr hl hS hR hA
  exact lv_iload hC.1 hC.2.1 d (glo_ld hl hx) (h p e s m args below meth c QS hC hE H locs ad lsr hl hS hR hA)
theorem g_lload_n {k : Fin 4} {x : Int64} (d : decode M.2.1 pc = .ok (.lload_n k, 1)) (e : pc + 1 = pc') (hx : ls[(k : Nat)]? = some (some (vL x))) (h : gG E M B pc' ls (vL x :: st) S cs sl) : gG E M B pc ls st S cs sl := by
  subst e
  intro p e s m args below meth c QS hC hE H locs ad lsr hl hS hR hA
  exact lv_lload_n hC.1 hC.2.1 d rfl (glo_ld hl hx) (h p e s m args below meth c QS hC hE H locs ad lsr hl hS hR hA)
theorem g_aload_n {k : Fin 4} {q : gId} (d : decode M.2.1 pc = .ok (.aload_n k, 1)) (e : pc + 1 = pc') (hx : ls[(k : Nat)]? = some (some (.inr q))) (h : gG E M B pc' ls (.inr q :: st) S cs sl) : gG E M B pc ls st S cs sl := by
  subst e
  intro p e s m args below meth c QS hC hE H locs ad lsr hl hS hR hA
  exact lv_aload_n hC.1 hC.2.1 d rfl (glo_ld hl hx) (h p e s m args below meth c QS hC hE H locs ad lsr hl hS hR hA)
theorem g_aload {k : Nat} {q : gId} (d : decode M.2.1 pc = .ok (.aload k, 2)) (e : pc + 2 = pc') (hx : ls[k]? = some (some (.inr q))) (h : gG E M B pc' ls (.inr q :: st) S cs sl) : gG E M B pc ls st S cs sl := by
  subst e
  intro p e s m args below meth c QS hC hE H locs ad lsr hl hS hR hA
  exact lv_aload hC.1 hC.2.1 d (glo_ld hl hx) (h p e s m args below meth c QS hC hE H locs ad lsr hl hS hR hA)
theorem g_aload_raw {k : Fin 4} {x : Nat} (d : decode M.2.1 pc = .ok (.aload_n k, 1)) (e : pc + 1 = pc') (hx : ls[(k : Nat)]? = some (some (.inl (.ref x)))) (h : gG E M B pc' ls (.inl (.ref x) :: st) S cs sl) : gG E M B pc ls st S cs sl := by
  subst e
  intro p e s m args below meth c QS hC hE H locs ad lsr hl hS hR hA
  exact lv_aload_n hC.1 hC.2.1 d rfl (glo_ld hl hx) (h p e s m args below meth c QS hC hE H locs ad lsr hl hS hR hA)
theorem g_istore_n {k : Fin 4} {x : Int32} (d : decode M.2.1 pc = .ok (.istore_n k, 1)) (e : pc + 1 = pc') (hn : (k : Nat) < M.2.2.1) (hk : gsok ls (k : Nat) = true) (h : gG E M B pc' (ls.set (k : Nat) (some (vI x))) st S cs sl) : gG E M B pc ls (vI x :: st) S cs sl := by
  subst e
  intro p e s m args below meth c QS hC hE H locs ad lsr hl hS hR hA
  exact lv_istore_n hC.1 hC.2.1 d rfl hl hn rfl (fun ls' hl' => h p e s m args below meth c QS hC hE H locs ad ls' (glo_st hk hl') hS hR hA)
theorem g_istore {k : Nat} {x : Int32} (d : decode M.2.1 pc = .ok (.istore k, 2)) (e : pc + 2 = pc') (hn : k < M.2.2.1) (hk : gsok ls k = true) (h : gG E M B pc' (ls.set k (some (vI x))) st S cs sl) : gG E M B pc ls (vI x :: st) S cs sl := by
  subst e
  intro p e s m args below meth c QS hC hE H locs ad lsr hl hS hR hA
  exact lv_istore hC.1 hC.2.1 d hl hn rfl (fun ls' hl' => h p e s m args below meth c QS hC hE H locs ad ls' (glo_st hk hl') hS hR hA)
theorem g_astore_n {k : Fin 4} {q : gId} (d : decode M.2.1 pc = .ok (.astore_n k, 1)) (e : pc + 1 = pc') (hn : (k : Nat) < M.2.2.1) (hk : gsok ls (k : Nat) = true) (h : gG E M B pc' (ls.set (k : Nat) (some (.inr q))) st S cs sl) : gG E M B pc ls (.inr q :: st) S cs sl := by
  subst e
  intro p e s m args below meth c QS hC hE H locs ad lsr hl hS hR hA
  exact lv_astore_n hC.1 hC.2.1 d rfl hl hn rfl (fun ls' hl' => h p e s m args below meth c QS hC hE H locs ad ls' (glo_st (v := .inr q) hk hl') hS hR hA)
theorem g_astore {k : Nat} {q : gId} (d : decode M.2.1 pc = .ok (.astore k, 2)) (e : pc + 2 = pc') (hn : k < M.2.2.1) (hk : gsok ls k = true) (h : gG E M B pc' (ls.set k (some (.inr q))) st S cs sl) : gG E M B pc ls (.inr q :: st) S cs sl := by
  subst e
  intro p e s m args below meth c QS hC hE H locs ad lsr hl hS hR hA
  exact lv_astore hC.1 hC.2.1 d hl hn rfl (fun ls' hl' => h p e s m args below meth c QS hC hE H locs ad ls' (glo_st (v := .inr q) hk hl') hS hR hA)
theorem g_iinc {k : Nat} {n : Int} {x v : Int32} (d : decode M.2.1 pc = .ok (.iinc k n, 3)) (e : pc + 3 = pc') (hx : ls[k]? = some (some (vI x))) (hv : x + Int32.ofInt n = v) (hn : k < M.2.2.1) (hk : gsok ls k = true) (h : gG E M B pc' (ls.set k (some (vI v))) st S cs sl) : gG E M B pc ls st S cs sl := by
  subst e
  intro p e s m args below meth c QS hC hE H locs ad lsr hl hS hR hA
  obtain ⟨i, hi⟩ := List.getElem?_of_mem ((glo_mem (ad := ad) ls 0 (k, .int x)).mpr ⟨k, vI x, hx, by rw [Nat.zero_add]; rfl⟩)
  exact lv_iinc hC.1 hC.2.1 d hl hi hv hn rfl (fun ls' hl' => h p e s m args below meth c QS hC hE H locs ad ls' (glo_st hk hl') hS hR hA)
theorem g_dup {v : gV} (d : decode M.2.1 pc = .ok (.dup, 1)) (e : pc + 1 = pc') (hv : gcat v = 1) (h : gG E M B pc' ls (v :: v :: st) S cs sl) : gG E M B pc ls (v :: st) S cs sl := by
  subst e
  intro p e s m args below meth c QS hC hE H locs ad lsr hl hS hR hA
  exact lv_dup hC.1 hC.2.1 d ((gre_cat ad v).trans hv) (h p e s m args below meth c QS hC hE H locs ad lsr hl hS hR hA)
theorem g_dup_x1 {v w : gV} (d : decode M.2.1 pc = .ok (.dup_x1, 1)) (e : pc + 1 = pc') (hv : gcat v = 1) (hw : gcat w = 1) (h : gG E M B pc' ls (v :: w :: v :: st) S cs sl) : gG E M B pc ls (v :: w :: st) S cs sl := by
  subst e
  intro p e s m args below meth c QS hC hE H locs ad lsr hl hS hR hA
  exact lv_dup_x1 hC.1 hC.2.1 d ((gre_cat ad v).trans hv) ((gre_cat ad w).trans hw) (h p e s m args below meth c QS hC hE H locs ad lsr hl hS hR hA)
theorem g_dup2 {v w : gV} (d : decode M.2.1 pc = .ok (.dup2, 1)) (e : pc + 1 = pc') (hv : gcat v = 1) (hw : gcat w = 1) (h : gG E M B pc' ls (v :: w :: v :: w :: st) S cs sl) : gG E M B pc ls (v :: w :: st) S cs sl := by
  subst e
  intro p e s m args below meth c QS hC hE H locs ad lsr hl hS hR hA
  exact lv_dup2_11 hC.1 hC.2.1 d ((gre_cat ad v).trans hv) ((gre_cat ad w).trans hw) (h p e s m args below meth c QS hC hE H locs ad lsr hl hS hR hA)
theorem g_goto {off : Int} (d : decode M.2.1 pc = .ok (.goto off, 3)) (e : (pc : Int) + off = (pc' : Int)) (h : gG E M B pc' ls st S cs sl) : gG E M B pc ls st S cs sl := by
  intro p e' s m args below meth c QS hC hE H locs ad lsr hl hS hR hA
  exact lv_goto hC.1 hC.2.1 d e (h p e' s m args below meth c QS hC hE H locs ad lsr hl hS hR hA)
theorem g_if_eq {x : Int32} {off : Int} {tg : Nat} (d : decode M.2.1 pc = .ok (.ifCond .eq off, 3)) (e : (pc : Int) + off = (tg : Int)) (e2 : pc + 3 = pc') (ht : x = 0 → gG E M B tg ls st S cs sl) (hf : ¬ (x = 0) → gG E M B pc' ls st S cs sl) : gG E M B pc ls (vI x :: st) S cs sl := by
  subst e2
  intro p e' s m args below meth c QS hC hE H locs ad lsr hl hS hR hA
  exact lv_if_eq hC.1 hC.2.1 d e (fun z => ht z p e' s m args below meth c QS hC hE H locs ad lsr hl hS hR hA) (fun z => hf z p e' s m args below meth c QS hC hE H locs ad lsr hl hS hR hA)
theorem g_icmp_eq {x y : Int32} {off : Int} {tg : Nat} (d : decode M.2.1 pc = .ok (.if_icmp .eq off, 3)) (e : (pc : Int) + off = (tg : Int)) (e2 : pc + 3 = pc') (ht : x = y → gG E M B tg ls st S cs sl) (hf : ¬ (x = y) → gG E M B pc' ls st S cs sl) : gG E M B pc ls (vI y :: vI x :: st) S cs sl := by
  subst e2
  intro p e' s m args below meth c QS hC hE H locs ad lsr hl hS hR hA
  exact lv_icmp_eq hC.1 hC.2.1 d e (fun z => ht z p e' s m args below meth c QS hC hE H locs ad lsr hl hS hR hA) (fun z => hf z p e' s m args below meth c QS hC hE H locs ad lsr hl hS hR hA)
theorem g_if_ne {x : Int32} {off : Int} {tg : Nat} (d : decode M.2.1 pc = .ok (.ifCond .ne off, 3)) (e : (pc : Int) + off = (tg : Int)) (e2 : pc + 3 = pc') (ht : ¬ x = 0 → gG E M B tg ls st S cs sl) (hf : x = 0 → gG E M B pc' ls st S cs sl) : gG E M B pc ls (vI x :: st) S cs sl := by
  subst e2
  intro p e' s m args below meth c QS hC hE H locs ad lsr hl hS hR hA
  exact lv_if_ne hC.1 hC.2.1 d e (fun z => ht z p e' s m args below meth c QS hC hE H locs ad lsr hl hS hR hA) (fun z => hf z p e' s m args below meth c QS hC hE H locs ad lsr hl hS hR hA)
theorem g_icmp_ne {x y : Int32} {off : Int} {tg : Nat} (d : decode M.2.1 pc = .ok (.if_icmp .ne off, 3)) (e : (pc : Int) + off = (tg : Int)) (e2 : pc + 3 = pc') (ht : ¬ x = y → gG E M B tg ls st S cs sl) (hf : x = y → gG E M B pc' ls st S cs sl) : gG E M B pc ls (vI y :: vI x :: st) S cs sl := by
  subst e2
  intro p e' s m args below meth c QS hC hE H locs ad lsr hl hS hR hA
  exact lv_icmp_ne hC.1 hC.2.1 d e (fun z => ht z p e' s m args below meth c QS hC hE H locs ad lsr hl hS hR hA) (fun z => hf z p e' s m args below meth c QS hC hE H locs ad lsr hl hS hR hA)
theorem g_if_lt {x : Int32} {off : Int} {tg : Nat} (d : decode M.2.1 pc = .ok (.ifCond .lt off, 3)) (e : (pc : Int) + off = (tg : Int)) (e2 : pc + 3 = pc') (ht : x < 0 → gG E M B tg ls st S cs sl) (hf : ¬ (x < 0) → gG E M B pc' ls st S cs sl) : gG E M B pc ls (vI x :: st) S cs sl := by
  subst e2
  intro p e' s m args below meth c QS hC hE H locs ad lsr hl hS hR hA
  exact lv_if_lt hC.1 hC.2.1 d e (fun z => ht z p e' s m args below meth c QS hC hE H locs ad lsr hl hS hR hA) (fun z => hf z p e' s m args below meth c QS hC hE H locs ad lsr hl hS hR hA)
theorem g_icmp_lt {x y : Int32} {off : Int} {tg : Nat} (d : decode M.2.1 pc = .ok (.if_icmp .lt off, 3)) (e : (pc : Int) + off = (tg : Int)) (e2 : pc + 3 = pc') (ht : x < y → gG E M B tg ls st S cs sl) (hf : ¬ (x < y) → gG E M B pc' ls st S cs sl) : gG E M B pc ls (vI y :: vI x :: st) S cs sl := by
  subst e2
  intro p e' s m args below meth c QS hC hE H locs ad lsr hl hS hR hA
  exact lv_icmp_lt hC.1 hC.2.1 d e (fun z => ht z p e' s m args below meth c QS hC hE H locs ad lsr hl hS hR hA) (fun z => hf z p e' s m args below meth c QS hC hE H locs ad lsr hl hS hR hA)
theorem g_if_ge {x : Int32} {off : Int} {tg : Nat} (d : decode M.2.1 pc = .ok (.ifCond .ge off, 3)) (e : (pc : Int) + off = (tg : Int)) (e2 : pc + 3 = pc') (ht : 0 ≤ x → gG E M B tg ls st S cs sl) (hf : ¬ (0 ≤ x) → gG E M B pc' ls st S cs sl) : gG E M B pc ls (vI x :: st) S cs sl := by
  subst e2
  intro p e' s m args below meth c QS hC hE H locs ad lsr hl hS hR hA
  exact lv_if_ge hC.1 hC.2.1 d e (fun z => ht z p e' s m args below meth c QS hC hE H locs ad lsr hl hS hR hA) (fun z => hf z p e' s m args below meth c QS hC hE H locs ad lsr hl hS hR hA)
theorem g_icmp_ge {x y : Int32} {off : Int} {tg : Nat} (d : decode M.2.1 pc = .ok (.if_icmp .ge off, 3)) (e : (pc : Int) + off = (tg : Int)) (e2 : pc + 3 = pc') (ht : y ≤ x → gG E M B tg ls st S cs sl) (hf : ¬ (y ≤ x) → gG E M B pc' ls st S cs sl) : gG E M B pc ls (vI y :: vI x :: st) S cs sl := by
  subst e2
  intro p e' s m args below meth c QS hC hE H locs ad lsr hl hS hR hA
  exact lv_icmp_ge hC.1 hC.2.1 d e (fun z => ht z p e' s m args below meth c QS hC hE H locs ad lsr hl hS hR hA) (fun z => hf z p e' s m args below meth c QS hC hE H locs ad lsr hl hS hR hA)
theorem g_if_gt {x : Int32} {off : Int} {tg : Nat} (d : decode M.2.1 pc = .ok (.ifCond .gt off, 3)) (e : (pc : Int) + off = (tg : Int)) (e2 : pc + 3 = pc') (ht : 0 < x → gG E M B tg ls st S cs sl) (hf : ¬ (0 < x) → gG E M B pc' ls st S cs sl) : gG E M B pc ls (vI x :: st) S cs sl := by
  subst e2
  intro p e' s m args below meth c QS hC hE H locs ad lsr hl hS hR hA
  exact lv_if_gt hC.1 hC.2.1 d e (fun z => ht z p e' s m args below meth c QS hC hE H locs ad lsr hl hS hR hA) (fun z => hf z p e' s m args below meth c QS hC hE H locs ad lsr hl hS hR hA)
theorem g_icmp_gt {x y : Int32} {off : Int} {tg : Nat} (d : decode M.2.1 pc = .ok (.if_icmp .gt off, 3)) (e : (pc : Int) + off = (tg : Int)) (e2 : pc + 3 = pc') (ht : y < x → gG E M B tg ls st S cs sl) (hf : ¬ (y < x) → gG E M B pc' ls st S cs sl) : gG E M B pc ls (vI y :: vI x :: st) S cs sl := by
  subst e2
  intro p e' s m args below meth c QS hC hE H locs ad lsr hl hS hR hA
  exact lv_icmp_gt hC.1 hC.2.1 d e (fun z => ht z p e' s m args below meth c QS hC hE H locs ad lsr hl hS hR hA) (fun z => hf z p e' s m args below meth c QS hC hE H locs ad lsr hl hS hR hA)
theorem g_if_le {x : Int32} {off : Int} {tg : Nat} (d : decode M.2.1 pc = .ok (.ifCond .le off, 3)) (e : (pc : Int) + off = (tg : Int)) (e2 : pc + 3 = pc') (ht : x ≤ 0 → gG E M B tg ls st S cs sl) (hf : ¬ (x ≤ 0) → gG E M B pc' ls st S cs sl) : gG E M B pc ls (vI x :: st) S cs sl := by
  subst e2
  intro p e' s m args below meth c QS hC hE H locs ad lsr hl hS hR hA
  exact lv_if_le hC.1 hC.2.1 d e (fun z => ht z p e' s m args below meth c QS hC hE H locs ad lsr hl hS hR hA) (fun z => hf z p e' s m args below meth c QS hC hE H locs ad lsr hl hS hR hA)
theorem g_icmp_le {x y : Int32} {off : Int} {tg : Nat} (d : decode M.2.1 pc = .ok (.if_icmp .le off, 3)) (e : (pc : Int) + off = (tg : Int)) (e2 : pc + 3 = pc') (ht : x ≤ y → gG E M B tg ls st S cs sl) (hf : ¬ (x ≤ y) → gG E M B pc' ls st S cs sl) : gG E M B pc ls (vI y :: vI x :: st) S cs sl := by
  subst e2
  intro p e' s m args below meth c QS hC hE H locs ad lsr hl hS hR hA
  exact lv_icmp_le hC.1 hC.2.1 d e (fun z => ht z p e' s m args below meth c QS hC hE H locs ad lsr hl hS hR hA) (fun z => hf z p e' s m args below meth c QS hC hE H locs ad lsr hl hS hR hA)
theorem g_iret {x : Int32} {ty : FieldType} (d : decode M.2.1 pc = .ok (.ireturn, 1)) (hr : M.2.2.2 = some ty) (hn : narrow ty (.int x) = .int x) (h1 : cs ≤ bC B) (h2 : sl ≤ bS B) (h : bQ B (some (vI x)) S) : gG E M B pc ls [vI x] S cs sl := by
  intro p e s m args below meth c QS hC hE H locs ad lsr hl hS hR hA
  exact (hE pc lsr H locs ad S cs sl h1 h2 hS hR hA).1 x d ⟨ty, hr, hn⟩ h
theorem g_vret (d : decode M.2.1 pc = .ok (.return_, 1)) (hr : M.2.2.2 = none) (h1 : cs ≤ bC B) (h2 : sl ≤ bS B) (h : bQ B none S) : gG E M B pc ls [] S cs sl := by
  intro p e s m args below meth c QS hC hE H locs ad lsr hl hS hR hA
  exact (hE pc lsr H locs ad S cs sl h1 h2 hS hR hA).2.1 d hr h
theorem g_aret {q : gId} {n : String} (d : decode M.2.1 pc = .ok (.areturn, 1)) (hr : M.2.2.2 = some (.object n)) (h1 : cs ≤ bC B) (h2 : sl ≤ bS B) (h : bQ B (some (.inr q)) S) : gG E M B pc ls [.inr q] S cs sl := by
  intro p e s m args below meth c QS hC hE H locs ad lsr hl hS hR hA
  exact (hE pc lsr H locs ad S cs sl h1 h2 hS hR hA).2.2.1 q d ⟨n, hr⟩ h
theorem g_throw {n ik ic : Nat} (ht : gThr M n ik ic) (hl : (bR B).locals = 28 * (bR B).frames + 1) (hf : 7 ≤ (bR B).frames) (d0 : decode M.2.1 pc = .ok (.new ik, 3)) (d3 : decode M.2.1 (pc + 3) = .ok (.dup, 1)) (d4 : decode M.2.1 (pc + 4) = .ok (.invokespecial ic, 3)) (d7 : decode M.2.1 (pc + 7) = .ok (.athrow, 1)) (h1 : cs + 1 ≤ bC B) (h2 : sl + 6 ≤ bS B) (h : bQ B (some (vR 100 n 0)) S) : gG E M B pc ls [] S cs sl := by
  intro p e s m args below meth c QS hC hE H locs ad lsr hlo hS hR hA
  exact (hE pc lsr H locs ad S cs sl (Nat.le_of_succ_le h1) (Nat.le_trans (Nat.le_add_right _ _) h2) hS hR hA).2.2.2 n ik ic hl hf ht d0 d3 d4 d7 (hlo.1.trans hC.2.2.2.1.symm) h1 h2 h
theorem g_tabOut {dflt lo hi : Int} {offs : Array Int} {len tg : Nat} {x : Int32} (d : decode M.2.1 pc = .ok (.tableswitch dflt lo hi offs, len)) (hx : x.toInt < lo ∨ hi < x.toInt) (e : (pc : Int) + dflt = (tg : Int)) (h : gG E M B tg ls st S cs sl) : gG E M B pc ls (vI x :: st) S cs sl := by
  intro p e' s m args below meth c QS hC hE H locs ad lsr hl hS hR hA
  exact lv_tableOut hC.1 hC.2.1 d hx e (h p e' s m args below meth c QS hC hE H locs ad lsr hl hS hR hA)
theorem g_tabIn {dflt lo hi : Int} {offs : Array Int} {len tg : Nat} {x : Int32} {off : Int} (d : decode M.2.1 pc = .ok (.tableswitch dflt lo hi offs, len)) (h1 : ¬ x.toInt < lo) (h2 : ¬ hi < x.toInt) (ho : offs[(x.toInt - lo).toNat]? = some off) (e : (pc : Int) + off = (tg : Int)) (h : gG E M B tg ls st S cs sl) : gG E M B pc ls (vI x :: st) S cs sl := by
  intro p e' s m args below meth c QS hC hE H locs ad lsr hl hS hR hA
  exact lv_tableIn hC.1 hC.2.1 d h1 h2 ho e (h p e' s m args below meth c QS hC hE H locs ad lsr hl hS hR hA)
end GR
