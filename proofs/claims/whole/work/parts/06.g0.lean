/-! OUR OWN FRAME (1): abstract values, abstract states, the picture of a heap, the judgement gG, rows for stack, locals, numbers, branches, ends.
An object has an id (kind, j, t); a state keeps what each id holds; ad gives the addresses. -/
abbrev gId : Type := Nat × Nat × Nat
abbrev gV : Type := Value ⊕ gId
abbrev gAd : Type := Nat → Nat → Nat → Nat
def gre (ad : gAd) (v : gV) : Value := match v with
  | .inl w => w
  | .inr q => .ref (ad q.1 q.2.1 q.2.2)
def gro (ad : gAd) (r : Option gId) : Option Nat := r.map (fun q => ad q.1 q.2.1 q.2.2)
def gcat (v : gV) : Nat := match v with
  | .inl w => w.category
  | .inr _ => 1
theorem gre_cat (ad : gAd) (v : gV) : (gre ad v).category = gcat v := by
  rcases v with w | q <;> rfl
abbrev vI (x : Int32) : gV := .inl (.int x)
abbrev vL (x : Int64) : gV := .inl (.long x)
abbrev vR (k j t : Nat) : gV := .inr (k, j, t)
abbrev vN : gV := .inl .null
/-- fields of numbers (field, j, t); fields of references; rows of ints (kind, j, place), of longs, of references; the ids that live -/
abbrev gS : Type := (Nat → Nat → Nat → Int32) × (Nat → Nat → Nat → Option gId) × (Nat → Nat → Nat → Int32) × (Nat → Nat → Nat → Int64) × (Nat → Nat → Nat → Option gId) × List gId
def fI (S : gS) : Nat → Nat → Nat → Int32 := S.1
def fR (S : gS) : Nat → Nat → Nat → Option gId := S.2.1
def aI (S : gS) : Nat → Nat → Nat → Int32 := S.2.2.1
def aL (S : gS) : Nat → Nat → Nat → Int64 := S.2.2.2.1
def aR (S : gS) : Nat → Nat → Nat → Option gId := S.2.2.2.2.1
def gL (S : gS) : List gId := S.2.2.2.2.2
def lv (S : gS) (k j t : Nat) : Prop := (k, j, t) ∈ gL S
def up3 {α : Type} (f : Nat → Nat → Nat → α) (k j t : Nat) (v : α) : Nat → Nat → Nat → α := fun k' j' t' => if k' = k ∧ j' = j ∧ t' = t then v else f k' j' t'
def sfI (S : gS) (g j t : Nat) (v : Int32) : gS := (up3 (fI S) g j t v, S.2)
def sfR (S : gS) (g j t : Nat) (v : Option gId) : gS := (S.1, up3 (fR S) g j t v, S.2.2)
def saI (S : gS) (k j i : Nat) (v : Int32) : gS := (S.1, S.2.1, up3 (aI S) k j i v, S.2.2.2)
def saL (S : gS) (k j i : Nat) (v : Int64) : gS := (S.1, S.2.1, S.2.2.1, up3 (aL S) k j i v, S.2.2.2.2)
def saR (S : gS) (k j i : Nat) (v : Option gId) : gS := (S.1, S.2.1, S.2.2.1, S.2.2.2.1, up3 (aR S) k j i v, S.2.2.2.2.2)
/-- a new id: its fields and rows hold zero and null -/
def snew (S : gS) (k j t : Nat) : gS := (fun g' j' t' => if g' / 32 = k ∧ j' = j ∧ t' = t then 0 else fI S g' j' t', fun g' j' t' => if g' / 32 = k ∧ j' = j ∧ t' = t then none else fR S g' j' t', fun k' j' i' => if k' = k ∧ j' = j then 0 else aI S k' j' i', fun k' j' i' => if k' = k ∧ j' = j then 0 else aL S k' j' i', fun k' j' i' => if k' = k ∧ j' = j then none else aR S k' j' i', gL S ++ [(k, j, t)])
/-- how many fields an object of a kind has -/
def gnF (k : Nat) : Nat := [4, 2, 7, 2, 6, 6, 2, 10, 28].getD k 0
/-- which fields hold references: number 32 * kind + place -/
def gisR (g : Nat) : Bool := [32, 65, 66, 96, 128, 129, 192, 224, 225, 226, 227, 262, 265, 266, 267, 268, 269, 270, 271, 272, 273, 274, 275, 276, 277, 278, 280].contains g
/-- the element type of the rows of a kind: 1 int, 2 char, 3 boolean, 4 long, 5 Job, 6 Task -/
def gaT (k : Nat) : Nat := [0, 0, 0, 0, 0, 0, 0, 0, 0, 0, 2, 4, 4, 1, 5, 6, 4, 0, 0, 0, 1, 1, 1, 1, 1, 3, 1, 1, 3, 1, 1, 1, 1, 1, 1, 1].getD k 0
def gaN (k : Nat) : Nat := [0, 0, 0, 0, 0, 0, 0, 0, 0, 0, 60, 5, 5, 256, 6, 6, 1, 0, 0, 0, 60, 366, 30, 6, 6, 6, 6, 6, 6, 36, 36, 36, 36, 36, 36, 256].getD k 0
def gfv (S : gS) (ad : gAd) (g j t : Nat) : Value := if gisR g = true then va_rf (gro ad (fR S g j t)) else .int (fI S g j t)
def gcO (S : gS) (ad : gAd) (k j t : Nat) : List Value := (List.range (gnF k)).map (fun i => gfv S ad (32 * k + i) j t)
def gcA (cy : Nat → ClassId) (S : gS) (ad : gAd) (k j : Nat) : va_E :=
  if gaT k = 4 then .inl (cy 4, gaN k, .inr (.inl (aL S k j)))
  else if 5 ≤ gaT k then .inl (cy (gaT k), gaN k, .inr (.inr (.inr (.inr (fun i => gro ad (aR S k j i))))))
  else .inl (cy (gaT k), gaN k, .inl (aI S k j))
def gcell (cy : Nat → ClassId) (S : gS) (ad : gAd) (q : gId) : va_E := if q.1 < 9 then .inr (q.1, gcO S ad q.1 q.2.1 q.2.2) else gcA cy S ad q.1 q.2.1
def gad (ad : gAd) (q : gId) : Nat := ad q.1 q.2.1 q.2.2
def gws (cy : Nat → ClassId) (S : gS) (ad : gAd) : va_W := (gL S).map (fun q => (gad ad q, gcell cy S ad q))
/-- the launch, the classes' numbers, their fields' places, the array classes, the static arrays' addresses, the first address that is ours -/
abbrev gE : Type := Launch × (Nat → ClassId) × (Nat → Nat → Nat) × (Nat → ClassId) × (Nat → Nat) × Nat
def eD (E : gE) : va_G := (E.2.1, E.2.2.1)
def eC (E : gE) : Nat → ClassId := E.2.2.2.1
def eA (E : gE) : Nat → Nat := E.2.2.2.2.1
def eF (E : gE) : Nat → Prop := fun q => E.2.2.2.2.2 ≤ q
def eT (E : gE) : List (ClassId × FieldType) := [(eC E 1, .int), (eC E 2, .char), (eC E 3, .boolean), (eC E 4, .long), (eC E 5, .object RX2), (eC E 6, .object RX5)]
/-- an id of the kinds of arrays has a third number 0 (so that a row has one id); references of living things live -/
def gOk (S : gS) : Prop := (∀ q ∈ gL S, 9 ≤ q.1 → q.2.2 = 0) ∧ (∀ q ∈ gL S, ∀ (i : Nat) (r : gId), i < 32 → fR S (32 * q.1 + i) q.2.1 q.2.2 = some r → r ∈ gL S) ∧ ∀ q ∈ gL S, ∀ (i : Nat) (r : gId), aR S q.1 q.2.1 i = some r → r ∈ gL S
def gRep (E : gE) (S : gS) (ad : gAd) (H : Heap) : Prop := va_P (eD E) vwCl (gws (eC E) S ad) H ∧ va_D (eF E) (gws (eC E) S ad) ∧ gOk S
theorem gws_at {cy : Nat → ClassId} {S : gS} {ad : gAd} {q : gId} (h : q ∈ gL S) : ∃ i : Nat, (gL S)[i]? = some q ∧ (gws cy S ad)[i]? = some (gad ad q, gcell cy S ad q) := by
  obtain ⟨i, hi⟩ := List.getElem?_of_mem h
  exact ⟨i, hi, by rw [gws, List.getElem?_map, hi]; rfl⟩
theorem gws_inj {cy : Nat → ClassId} {S : gS} {ad : gAd} {A : Nat → Prop} (hD : va_D A (gws cy S ad)) {q r : gId} (hq : q ∈ gL S) (hr : r ∈ gL S) (e : gad ad q = gad ad r) : q = r := by
  obtain ⟨i, h1, h2⟩ := gws_at (cy := cy) (ad := ad) hq
  obtain ⟨j, h3, h4⟩ := gws_at (cy := cy) (ad := ad) hr
  have := hD.1 i j _ _ h2 h4 e
  subst this
  exact Option.some.inj (h1.symm.trans h3)
/-- one id's cell changed -/
theorem gws_set {cy : Nat → ClassId} {S S' : gS} {ad : gAd} {A : Nat → Prop} (hD : va_D A (gws cy S ad)) {q : gId} {i : Nat} (hi : (gL S)[i]? = some q) {e : va_E} (hL : gL S' = gL S) (he : gcell cy S' ad q = e) (ho : ∀ r ∈ gL S, r ≠ q → gcell cy S' ad r = gcell cy S ad r) : (gws cy S ad).set i (gad ad q, e) = gws cy S' ad := by
  apply List.ext_getElem?
  intro k
  have hlen : i < (gws cy S ad).length := by rw [gws, List.length_map]; exact (List.getElem?_eq_some_iff.mp hi).1
  by_cases hk : k = i
  · subst hk
    rw [List.getElem?_set_self hlen, gws, List.getElem?_map, hL, hi]
    simp [he]
  · rw [List.getElem?_set_ne (Ne.symm hk)]
    simp only [gws, List.getElem?_map, hL]
    cases hr : (gL S)[k]? with
    | none => rfl
    | some r =>
      have hne : r ≠ q := by
        intro z
        subst z
        have h1 : (gws cy S ad)[k]? = some (gad ad r, gcell cy S ad r) := by rw [gws, List.getElem?_map, hr]; rfl
        have h2 : (gws cy S ad)[i]? = some (gad ad r, gcell cy S ad r) := by rw [gws, List.getElem?_map, hi]; rfl
        exact hk (hD.1 k i _ _ h1 h2 rfl)
      simp [ho r (List.mem_of_getElem? hr) hne]
/-! locals -/
def glo (ad : gAd) : Nat → List (Option gV) → List (Nat × Value)
  | _, [] => []
  | i, none :: r => glo ad (i + 1) r
  | i, some v :: r => (i, gre ad v) :: glo ad (i + 1) r
theorem glo_mem {ad : gAd} : ∀ (ls : List (Option gV)) (i : Nat) (q : Nat × Value), q ∈ glo ad i ls ↔ ∃ (k : Nat) (v : gV), ls[k]? = some (some v) ∧ q = (i + k, gre ad v)
  | [], i, q => by simp [glo]
  | none :: r, i, q => by
    rw [glo, glo_mem r (i + 1) q]
    constructor
    · rintro ⟨k, v, h1, h2⟩
      exact ⟨k + 1, v, by simpa using h1, by rw [h2]; congr 1; omega⟩
    · rintro ⟨k, v, h1, h2⟩
      cases k with
      | zero => simp at h1
      | succ k => exact ⟨k, v, by simpa using h1, by rw [h2]; congr 1; omega⟩
  | some v :: r, i, q => by
    rw [glo, List.mem_cons, glo_mem r (i + 1) q]
    constructor
    · rintro (h | ⟨k, w, h1, h2⟩)
      · exact ⟨0, v, rfl, h⟩
      · exact ⟨k + 1, w, by simpa using h1, by rw [h2]; congr 1; omega⟩
    · rintro ⟨k, w, h1, h2⟩
      cases k with
      | zero =>
        simp at h1
        subst h1
        exact Or.inl h2
      | succ k => exact Or.inr ⟨k, w, by simpa using h1, by rw [h2]; congr 1; omega⟩
theorem glo_ld {ad : gAd} {lsr : Array Slot} {n : Nat} {ls : List (Option gV)} (h : lv_has lsr n (glo ad 0 ls)) {k : Nat} {v : gV} (hk : ls[k]? = some (some v)) : lsr[k]? = some (.val (gre ad v)) :=
  h.2.2 (k, gre ad v) ((glo_mem ls 0 _).mpr ⟨k, v, hk, by rw [Nat.zero_add]⟩)
/-- a store at k doesn't cut a long in two -/
def gsok (ls : List (Option gV)) : Nat → Bool
  | 0 => true
  | k + 1 => match ls[k]? with
    | some (some v) => gcat v != 2
    | _ => true
theorem glo_st {ad : gAd} {lsr : Array Slot} {n : Nat} {ls : List (Option gV)} {k : Nat} {v : gV} (hk : gsok ls k = true) (h : lv_has lsr n ((k, gre ad v) :: (glo ad 0 ls).filter (fun q => !(q.1 == k) && !(q.1 + 1 == k && q.2.category == 2)))) : lv_has lsr n (glo ad 0 (ls.set k (some v))) := by
  refine ⟨h.1, h.2.1, fun q hq => ?_⟩
  obtain ⟨i, w, h1, h2⟩ := (glo_mem _ 0 q).mp hq
  rw [Nat.zero_add] at h2
  subst h2
  refine h.2.2 _ ?_
  by_cases hi : i = k
  · subst hi
    have hl : i < (ls.set i (some v)).length := (List.getElem?_eq_some_iff.mp h1).1
    rw [List.length_set] at hl
    rw [List.getElem?_set_self hl] at h1
    cases h1
    exact List.mem_cons_self
  · rw [List.getElem?_set_ne (Ne.symm hi)] at h1
    refine List.mem_cons_of_mem _ (List.mem_filter.mpr ⟨(glo_mem ls 0 _).mpr ⟨i, w, h1, by rw [Nat.zero_add]⟩, ?_⟩)
    simp only [Bool.and_eq_true, Bool.not_eq_true', beq_eq_false_iff_ne, ne_eq, Bool.and_eq_false_iff]
    refine ⟨hi, ?_⟩
    by_cases hj : i + 1 = k
    · subst hj
      right
      simp only [gsok, h1] at hk
      rw [gre_cat]
      simpa using hk
    · exact Or.inl hj
/-- what a method's locals are at its entry -/
def gargs : List gV → List (Option gV)
  | [] => []
  | v :: r => if gcat v = 2 then some v :: none :: gargs r else some v :: gargs r
theorem glo_args {ad : gAd} : ∀ (vs : List gV) (i : Nat), lv_args i (vs.map (gre ad)) = glo ad i (gargs vs)
  | [], i => rfl
  | v :: r, i => by
    rw [List.map_cons, lv_args, glo_args r, gargs, gre_cat]
    by_cases h : gcat v = 2
    · rw [if_pos h, if_pos h]; rfl
    · rw [if_neg h, if_neg h]; rfl
theorem glo_pad {ad : gAd} : ∀ (ls : List (Option gV)) (i n : Nat), glo ad i (ls ++ List.replicate n none) = glo ad i ls
  | [], i, 0 => rfl
  | [], i, n + 1 => by
    have := glo_pad (ad := ad) [] (i + 1) n
    simpa [List.replicate_succ, glo] using this
  | none :: r, i, n => by simpa [glo] using glo_pad (ad := ad) r (i + 1) n
  | some v :: r, i, n => by simpa [glo] using glo_pad (ad := ad) r (i + 1) n
theorem gargs_len : ∀ (vs : List gV) (ad : gAd), (lg_sl (vs.map (gre ad))).length = (gargs vs).length
  | [], _ => rfl
  | v :: r, ad => by
    have h := gargs_len r ad
    simp only [lg_sl, List.map_cons, List.flatMap_cons, List.length_append] at h ⊢
    rw [gre_cat, gargs]
    by_cases hc : gcat v = 2
    · rw [if_pos hc, if_pos hc]; simp [h]; omega
    · rw [if_neg hc, if_neg hc]; simp [h]; omega
/-! what the tables give -/
def lwG : List Cond := lw_tbl.filter goodWord
def gnw (w : Cond) : Bool := match w with
  | .fieldLinkNest .. => true
  | .methodLinkNest .. => true
  | .castable .. => true
  | .declares _ => true
  | _ => false
def lwN : List Cond := lw_tbl.filter gnw
theorem lwN_warm {s U : State} (hW : s.WarmedH U.vm) {w : Cond} (hg : gnw w = true) (h : va_Nw w s) : va_Nw w U := by
  cases w <;> first | exact va_Nw.warmF hW h | exact va_Nw.warmM hW h | exact va_Nw.warmC hW h | exact va_Nw.warmD hW h | (simp [gnw] at hg)
theorem lwN_tab {w : Cond} (hg : gnw w = true) : w.onTables = true := by
  cases w <;> first | rfl | (simp [gnw] at hg)
def gtab (i : Nat) : List Int32 := [[0, 0, 1, 1, 0], [59, 23, 31, 12, 7], [31, 28, 31, 30, 31, 30, 31, 31, 30, 31, 30, 31]].getD i []
def gZT (E : gE) (i : Nat) (C n : String) (U : State) (H : Heap) : Prop := va_Z C n "[I" (.ref (eA E i)) (eF E) U H ∧ va_T .int (eA E i) (gtab i).length (fun j => .int ((gtab i).getD j 0)) (eF E) U H
/-- the script's cell, and which exceptions no handler of another takes -/
def exP : List (String × String) := [("java/lang/IllegalArgumentException", "java/lang/UnsupportedOperationException"), ("java/lang/IndexOutOfBoundsException", "java/lang/UnsupportedOperationException"), ("java/lang/IllegalStateException", "java/lang/UnsupportedOperationException"), ("java/lang/UnsupportedOperationException", "java/lang/IllegalArgumentException"), ("java/lang/IndexOutOfBoundsException", "java/lang/IllegalArgumentException"), ("java/lang/IllegalStateException", "java/lang/IllegalArgumentException"), ("java/lang/UnsupportedOperationException", "java/lang/IndexOutOfBoundsException"), ("java/lang/IllegalArgumentException", "java/lang/IndexOutOfBoundsException"), ("java/lang/IllegalStateException", "java/lang/IndexOutOfBoundsException"), ("java/lang/UnsupportedOperationException", "java/lang/IllegalStateException"), ("java/lang/IllegalArgumentException", "java/lang/IllegalStateException"), ("java/lang/IndexOutOfBoundsException", "java/lang/IllegalStateException")]
def gSX (E : gE) (U : State) (H : Heap) : Prop := va_X (eA E 10) (eA E 11) (fun j => nI (eA E (100 + j))) U H ∧ (eA E 10 < E.2.2.2.2.2 ∧ eA E 10 < H.size) ∧ ∀ q ∈ exP, va_Nc q.1 q.2 U
theorem gSX.go {E : gE} {s U : State} {H H1 : Heap} (h : gSX E s H) (hW : s.vm.Alike U.vm) (hz : H.size ≤ H1.size) (hk : ∀ a : Nat, a < H.size → ¬ eF E a → H1[a]? = H[a]?) : gSX E U H1 :=
  ⟨(h.1.kept (hk _ h.2.1.2 (Nat.not_le.mpr h.2.1.1))).moved hW, ⟨h.2.1.1, Nat.lt_of_lt_of_le h.2.1.2 hz⟩, fun q hq => (h.2.2 q hq).moved hW⟩
/-- what stands at every state -/
def gKS (E : gE) (U : State) (H : Heap) : Prop := va_K (eD E) vwCl (eT E) U ∧ (gZT E 0 RX7 "FIELD_LOWEST" U H ∧ gZT E 1 RX7 "FIELD_HIGHEST" U H ∧ gZT E 2 RX0 "MONTH_DAYS" U H) ∧ (vx_Zq Bundle.tN "UNASSIGNED_STACK" Bundle.steD (eF E) U H ∧ vx_Zq Bundle.tN "SUPPRESSED_SENTINEL" Bundle.listD (eF E) U H) ∧ (va_AO RX2 U ∧ va_AO RX5 U) ∧ (∀ w ∈ lwN, va_Nw w U) ∧ (E.1.stackTraces = false ∧ gSX E U H) ∧ E.2.2.2.2.2 ≤ H.size
theorem gZT.go {E : gE} {i : Nat} {C n : String} {s U : State} {H H1 : Heap} (h : gZT E i C n s H) (hW : s.vm.Alike U.vm) (hk : ∀ a : Nat, a < H.size → ¬ eF E a → H1[a]? = H[a]?) : gZT E i C n U H1 := ⟨(h.1.kept hk).moved hW, (h.2.kept hk).moved hW⟩
theorem gKS.go {E : gE} {s U : State} {H H1 : Heap} (h : gKS E s H) (hW : s.WarmedH U.vm) (hz : H.size ≤ H1.size) (hk : ∀ a : Nat, a < H.size → ¬ eF E a → H1[a]? = H[a]?) : gKS E U H1 := by
  obtain ⟨h1, ⟨h2, h3, h4⟩, ⟨h5, h6⟩, ⟨h7, h8⟩, h9, h10, h11⟩ := h
  exact ⟨h1.moved hW.alike, ⟨h2.go hW.alike hk, h3.go hW.alike hk, h4.go hW.alike hk⟩, ⟨(h5.kept hk).moved hW.alike, (h6.kept hk).moved hW.alike⟩, ⟨h7.moved hW.alike, h8.moved hW.alike⟩, fun w hw => lwN_warm hW (List.mem_filter.mp hw).2 (h9 w hw), ⟨h10.1, h10.2.go hW.alike hz hk⟩, Nat.le_trans h11 hz⟩
theorem gKS.calling {E : gE} {U : State} {H : Heap} (h : gKS E U H) (g : JFrame) (mk : MethodId) (a : Array Value) : gKS E (U.calling g mk a) H := by
  obtain ⟨h1, ⟨h2, h3, h4⟩, ⟨h5, h6⟩, ⟨h7, h8⟩, h9, h10, h11⟩ := h
  have hA : U.vm.Alike (U.calling g mk a).vm := Vm.Alike.refl U.vm
  have hk : ∀ q : Nat, q < H.size → ¬ eF E q → H[q]? = H[q]? := fun _ _ _ => rfl
  exact ⟨h1.moved hA, ⟨h2.go hA hk, h3.go hA hk, h4.go hA hk⟩, ⟨h5.moved hA, h6.moved hA⟩, ⟨h7.moved hA, h8.moved hA⟩, fun w hw => va_Nw.same (u := U) (U := U.calling g mk a) (lwN_tab (List.mem_filter.mp hw).2) rfl (h9 w hw), ⟨h10.1, h10.2.go hA (Nat.le_refl _) hk⟩, h11⟩
