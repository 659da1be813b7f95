/-- what the tables give of the classes -/
theorem st_cls {s : State} {args : Array Value} (hts : ∀ w ∈ lw_tbl, w.before args s = true) : ∃ D : va_G, ∀ (c : Nat) (q : vw_C), vwCl[c]? = some q → u_Kn s q.1 q.2.1 q.2.2 (D.1 c) (D.2 c) := by
  have hG : ∀ w ∈ lwG, w.before args s = true := fun w hw => hts w (List.mem_filter.mp hw).1
  have h : ∀ c : Nat, ∃ y : ClassId × (Nat → Nat), ∀ q : vw_C, vwCl[c]? = some q → u_Kn s q.1 q.2.1 q.2.2 y.1 y.2 := by
    intro c
    match c with
    | 0 =>
      obtain ⟨a, b, h⟩ := u_known hG cf0.2.2.1 (hG _ ia0)
      exact ⟨(a, b), fun q hq => by cases hq; exact h⟩
    | 1 =>
      obtain ⟨a, b, h⟩ := u_known hG cf1.2.2.1 (hG _ ia1)
      exact ⟨(a, b), fun q hq => by cases hq; exact h⟩
    | 2 =>
      obtain ⟨a, b, h⟩ := u_known hG cf2.2.2.1 (hG _ ia2)
      exact ⟨(a, b), fun q hq => by cases hq; exact h⟩
    | 3 =>
      obtain ⟨a, b, h⟩ := u_known hG cf3.2.2.1 (hG _ ia3)
      exact ⟨(a, b), fun q hq => by cases hq; exact h⟩
    | 4 =>
      obtain ⟨a, b, h⟩ := u_known hG cf4.2.2.1 (hG _ ia4)
      exact ⟨(a, b), fun q hq => by cases hq; exact h⟩
    | 5 =>
      obtain ⟨a, b, h⟩ := u_known hG cf5.2.2.1 (hG _ ia5)
      exact ⟨(a, b), fun q hq => by cases hq; exact h⟩
    | 6 =>
      obtain ⟨a, b, h⟩ := u_known hG cf6.2.2.1 (hG _ ia6)
      exact ⟨(a, b), fun q hq => by cases hq; exact h⟩
    | 7 =>
      obtain ⟨a, b, h⟩ := u_known hG cf7.2.2.1 (hG _ ia7)
      exact ⟨(a, b), fun q hq => by cases hq; exact h⟩
    | 8 =>
      obtain ⟨a, b, h⟩ := u_known hG cf8.2.2.1 (hG _ ia8)
      exact ⟨(a, b), fun q hq => by cases hq; exact h⟩
    | n + 9 =>
      obtain ⟨a, b, h⟩ := u_known hG cf0.2.2.1 (hG _ ia0)
      exact ⟨(a, b), fun q hq => by
        have h9 : vwCl[n + 9]? = none := List.getElem?_eq_none (Nat.le_add_left 9 n)
        rw [h9] at hq
        cases hq⟩
  have hf := Classical.axiomOfChoice h
  obtain ⟨f, hf⟩ := hf
  exact ⟨(fun c => (f c).1, fun c => (f c).2), hf⟩
theorem st_prim {s : State} {args : Array Value} {t : FieldType} (hto : ∀ C, t ≠ .object C) (h : (Cond.arrayClass t).before args s = true) : ∃ cA : ClassId, ArrOfT s cA t ∧ va_RA s cA t := by
  obtain ⟨cA, kA, comp, h1, h2, h3⟩ := Cond.arrayClass_spec h
  refine ⟨cA, fun n z => ⟨fun k h => (by cases h), kA, h2, comp, h3⟩, ?_⟩
  cases t with
  | object C => exact absurd rfl (hto C)
  | _ => exact h1
theorem st_obj {s : State} {args : Array Value} {C : String} (h : (Cond.arrayOver (.object C)).before args s = true) : ∃ cA : ClassId, ArrOfT s cA (.object C) ∧ va_RA s cA (.object C) := by
  obtain ⟨comp, c, k, h1, h2, h3, h4, h5⟩ := Cond.arrayOver_spec h
  exact ⟨c, fun n z => ⟨fun k h => (by cases h), k, h3, comp, h4⟩, k, comp, h3, h4, h1, h5⟩
theorem st_arr {s : State} {args : Array Value} (hts : ∀ w ∈ lw_tbl, w.before args s = true) : ∃ cy : Nat → ClassId, ∀ (k : Nat) (q : ClassId × FieldType), [(cy 1, FieldType.int), (cy 2, FieldType.char), (cy 3, FieldType.boolean), (cy 4, FieldType.long), (cy 5, FieldType.object RX2), (cy 6, FieldType.object RX5)][k]? = some q → ArrOfT s q.1 q.2 ∧ va_RA s q.1 q.2 := by
  have hG : ∀ w ∈ lwG, w.before args s = true := fun w hw => hts w (List.mem_filter.mp hw).1
  obtain ⟨c1, h1⟩ := st_prim (fun C => by intro z; cases z) (hG _ ac_int)
  obtain ⟨c2, h2⟩ := st_prim (fun C => by intro z; cases z) (hG _ ac_char)
  obtain ⟨c3, h3⟩ := st_prim (fun C => by intro z; cases z) (hG _ ac_boolean)
  obtain ⟨c4, h4⟩ := st_prim (fun C => by intro z; cases z) (hG _ ac_long)
  obtain ⟨c5, h5⟩ := st_obj (hts (.arrayOver (.object RX2)) (by decide +kernel))
  obtain ⟨c6, h6⟩ := st_obj (hts (.arrayOver (.object RX5)) (by decide +kernel))
  refine ⟨fun i => if i = 1 then c1 else if i = 2 then c2 else if i = 3 then c3 else if i = 4 then c4 else if i = 5 then c5 else c6, fun k q hq => ?_⟩
  match k, hq with
  | 0, hq => cases hq; exact h1
  | 1, hq => cases hq; exact h2
  | 2, hq => cases hq; exact h3
  | 3, hq => cases hq; exact h4
  | 4, hq => cases hq; exact h5
  | 5, hq => cases hq; exact h6
  | n + 6, hq => cases hq
theorem st_Z0 {s : State} {b : Nat} {A : Nat → Prop} (hts : ∀ w ∈ lw_tbl, w.before #[Value.ref b] s = true) (hn : (Jvm.Cond.and given_1 narrow_1).before #[Value.ref b] s = true) (hA : ∀ a : Nat, a < s.heap.size → ¬ A a) : ∃ t : Nat, va_Z RX7 "FIELD_LOWEST" "[I" (.ref t) A s s.heap ∧ va_T .int t (gtab 0).length (fun j => .int ((gtab 0).getD j 0)) A s s.heap := by
  have hs := flat_of_before _ hn
  obtain ⟨t, h1, h2⟩ := va_Tof (tm := .static RX7 "FIELD_LOWEST" "[I") (ty := .int) (N := 5) (f := fun j => .int ((gtab 0).getD j 0)) (A := A) (by decide) (hs _ (by decide +kernel)) (va_eqt (hs _ (by decide +kernel))) (fun j hj => by
    match j, hj with
    | 0, _ => exact va_eqt (hs _ (by decide +kernel))
    | 1, _ => exact va_eqt (hs _ (by decide +kernel))
    | 2, _ => exact va_eqt (hs _ (by decide +kernel))
    | 3, _ => exact va_eqt (hs _ (by decide +kernel))
    | 4, _ => exact va_eqt (hs _ (by decide +kernel))
    | k + 5, hj => exact absurd hj (by omega)) hA
  exact ⟨t, va_Zof (hts _ (by decide +kernel)) (hts _ (by decide +kernel)) h1 hA, h2⟩
theorem st_Z1 {s : State} {b : Nat} {A : Nat → Prop} (hts : ∀ w ∈ lw_tbl, w.before #[Value.ref b] s = true) (hn : (Jvm.Cond.and given_1 narrow_1).before #[Value.ref b] s = true) (hA : ∀ a : Nat, a < s.heap.size → ¬ A a) : ∃ t : Nat, va_Z RX7 "FIELD_HIGHEST" "[I" (.ref t) A s s.heap ∧ va_T .int t (gtab 1).length (fun j => .int ((gtab 1).getD j 0)) A s s.heap := by
  have hs := flat_of_before _ hn
  obtain ⟨t, h1, h2⟩ := va_Tof (tm := .static RX7 "FIELD_HIGHEST" "[I") (ty := .int) (N := 5) (f := fun j => .int ((gtab 1).getD j 0)) (A := A) (by decide) (hs _ (by decide +kernel)) (va_eqt (hs _ (by decide +kernel))) (fun j hj => by
    match j, hj with
    | 0, _ => exact va_eqt (hs _ (by decide +kernel))
    | 1, _ => exact va_eqt (hs _ (by decide +kernel))
    | 2, _ => exact va_eqt (hs _ (by decide +kernel))
    | 3, _ => exact va_eqt (hs _ (by decide +kernel))
    | 4, _ => exact va_eqt (hs _ (by decide +kernel))
    | k + 5, hj => exact absurd hj (by omega)) hA
  exact ⟨t, va_Zof (hts _ (by decide +kernel)) (hts _ (by decide +kernel)) h1 hA, h2⟩
theorem st_Z2 {s : State} {b : Nat} {A : Nat → Prop} (hts : ∀ w ∈ lw_tbl, w.before #[Value.ref b] s = true) (hn : (Jvm.Cond.and given_1 narrow_1).before #[Value.ref b] s = true) (hA : ∀ a : Nat, a < s.heap.size → ¬ A a) : ∃ t : Nat, va_Z RX0 "MONTH_DAYS" "[I" (.ref t) A s s.heap ∧ va_T .int t (gtab 2).length (fun j => .int ((gtab 2).getD j 0)) A s s.heap := by
  have hs := flat_of_before _ hn
  obtain ⟨t, h1, h2⟩ := va_Tof (tm := .static RX0 "MONTH_DAYS" "[I") (ty := .int) (N := 12) (f := fun j => .int ((gtab 2).getD j 0)) (A := A) (by decide) (hs _ (by decide +kernel)) (va_eqt (hs _ (by decide +kernel))) (fun j hj => by
    match j, hj with
    | 0, _ => exact va_eqt (hs _ (by decide +kernel))
    | 1, _ => exact va_eqt (hs _ (by decide +kernel))
    | 2, _ => exact va_eqt (hs _ (by decide +kernel))
    | 3, _ => exact va_eqt (hs _ (by decide +kernel))
    | 4, _ => exact va_eqt (hs _ (by decide +kernel))
    | 5, _ => exact va_eqt (hs _ (by decide +kernel))
    | 6, _ => exact va_eqt (hs _ (by decide +kernel))
    | 7, _ => exact va_eqt (hs _ (by decide +kernel))
    | 8, _ => exact va_eqt (hs _ (by decide +kernel))
    | 9, _ => exact va_eqt (hs _ (by decide +kernel))
    | 10, _ => exact va_eqt (hs _ (by decide +kernel))
    | 11, _ => exact va_eqt (hs _ (by decide +kernel))
    | k + 12, hj => exact absurd hj (by omega)) hA
  exact ⟨t, va_Zof (hts _ (by decide +kernel)) (hts _ (by decide +kernel)) h1 hA, h2⟩
def st_A (t0 t1 t2 b L : Nat) (xs : Nat → Int32) : Nat → Nat := fun i => if i = 0 then t0 else if i = 1 then t1 else if i = 2 then t2 else if i = 10 then b else if i = 11 then L else (xs (i - 100)).toBitVec.toNat
theorem st_A_x {t0 t1 t2 b L : Nat} {xs : Nat → Int32} : (fun j => nI (st_A t0 t1 t2 b L xs (100 + j))) = xs := by
  funext j
  unfold st_A
  rw [if_neg (by omega), if_neg (by omega), if_neg (by omega), if_neg (by omega), if_neg (by omega), Nat.add_sub_cancel_left]
  exact Int32.toBitVec_inj.mp (by show BitVec.ofNat 32 _ = _; simp)
theorem st_Nc {s : State} {b : Nat} (hn : (Jvm.Cond.and given_1 narrow_1).before #[Value.ref b] s = true) : ∀ q ∈ exP, va_Nc q.1 q.2 s := by
  have hs := flat_of_before _ hn
  intro q hq
  unfold exP at hq
  simp only [List.mem_cons, List.not_mem_nil, or_false] at hq
  rcases hq with rfl | rfl | rfl | rfl | rfl | rfl | rfl | rfl | rfl | rfl | rfl | rfl
  all_goals exact va_Nc.of (hs _ (by decide +kernel))
theorem st_KS {l : Launch} (hflags : l.flags = flags0) {s : State} {b L : Nat} {xs : Nat → Int32} {D : va_G} {cy : Nat → ClassId} {t0 t1 t2 : Nat} (hts : ∀ w ∈ lw_tbl, w.before #[Value.ref b] s = true) (hn : (Jvm.Cond.and given_1 narrow_1).before #[Value.ref b] s = true) (hX : va_X b L xs s s.heap) (hb : b < s.heap.size) (hD : ∀ (c : Nat) (q : vw_C), vwCl[c]? = some q → u_Kn s q.1 q.2.1 q.2.2 (D.1 c) (D.2 c)) (hcy : ∀ (k : Nat) (q : ClassId × FieldType), [(cy 1, FieldType.int), (cy 2, FieldType.char), (cy 3, FieldType.boolean), (cy 4, FieldType.long), (cy 5, FieldType.object RX2), (cy 6, FieldType.object RX5)][k]? = some q → ArrOfT s q.1 q.2 ∧ va_RA s q.1 q.2)
    (h0 : va_Z RX7 "FIELD_LOWEST" "[I" (.ref t0) (fun q => s.heap.size ≤ q) s s.heap ∧ va_T .int t0 (gtab 0).length (fun j => .int ((gtab 0).getD j 0)) (fun q => s.heap.size ≤ q) s s.heap) (h1 : va_Z RX7 "FIELD_HIGHEST" "[I" (.ref t1) (fun q => s.heap.size ≤ q) s s.heap ∧ va_T .int t1 (gtab 1).length (fun j => .int ((gtab 1).getD j 0)) (fun q => s.heap.size ≤ q) s s.heap) (h2 : va_Z RX0 "MONTH_DAYS" "[I" (.ref t2) (fun q => s.heap.size ≤ q) s s.heap ∧ va_T .int t2 (gtab 2).length (fun j => .int ((gtab 2).getD j 0)) (fun q => s.heap.size ≤ q) s s.heap) : gKS (l, D.1, D.2, cy, st_A t0 t1 t2 b L xs, s.heap.size) s s.heap := by
  have hs := flat_of_before _ hn
  have hA : ∀ a : Nat, a < s.heap.size → ¬ (s.heap.size ≤ a) := fun a h => Nat.not_le.mpr h
  refine ⟨⟨hD, hcy⟩, ⟨h0, h1, h2⟩, ⟨vx_Zqof (hts _ (by decide +kernel)) (hts _ (by decide +kernel)) (hs _ (by decide +kernel)) hA, vx_Zqof (hts _ (by decide +kernel)) (hts _ (by decide +kernel)) (hs _ (by decide +kernel)) hA⟩, ⟨va_AO.of (hts _ (by decide +kernel)), va_AO.of (hts _ (by decide +kernel))⟩, fun w hw => va_Nw.of (lwN_tab (List.mem_filter.mp hw).2) (hts w (List.mem_filter.mp hw).1), ⟨?_, ?_, ⟨hb, hb⟩, st_Nc hn⟩, Nat.le_refl _⟩
  · show (!l.flags.contains noTraceFlag) = false
    rw [hflags]
    decide +kernel
  · show va_X b L (fun j => nI (st_A t0 t1 t2 b L xs (100 + j))) s s.heap
    rw [st_A_x]
    exact hX
