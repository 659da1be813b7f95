/-! OUR OWN FRAME (3): fields, rows, new things -/
theorem gaN_lt (k : Nat) : gaN k < 2 ^ 31 := by
  unfold gaN
  rcases Nat.lt_or_ge k 36 with h | h
  · exact (by decide : ∀ k, k < 36 → ([0, 0, 0, 0, 0, 0, 0, 0, 0, 0, 60, 5, 5, 256, 6, 6, 1, 0, 0, 0, 60, 366, 30, 6, 6, 6, 6, 6, 6, 36, 36, 36, 36, 36, 36, 256] : List Nat).getD k 0 < 2 ^ 31) k h
  · rw [List.getD_eq_getElem?_getD, List.getElem?_eq_none (by simpa using h)]
    exact (by decide : (none : Option Nat).getD 0 < 2 ^ 31)
theorem gnF_le (k : Nat) : gnF k ≤ 28 := by
  unfold gnF
  rcases Nat.lt_or_ge k 9 with h | h
  · exact (by decide : ∀ k, k < 9 → ([4, 2, 7, 2, 6, 6, 2, 10, 28] : List Nat).getD k 0 ≤ 28) k h
  · rw [List.getD_eq_getElem?_getD, List.getElem?_eq_none (by simpa using h)]
    exact (by decide : (none : Option Nat).getD 0 ≤ 28)
/-- what the tables say of a class of ours: its kind, name, fields -/
def gCF (k : Nat) (C : String) (T : u_T) (N : Nat) (ty : Nat → FieldType) : Prop := k < 9 ∧ vwCl[k]? = some (C, T, N) ∧ (∀ w ∈ u_ws C T N, w ∈ lwG) ∧ (∀ x, x < N → parseFieldDescriptor (T x).2.2.1 = some (ty x)) ∧ (∀ a, a < N → ∀ b, b < N → a ≠ b → (T a).2.1 ≠ (T b).2.1) ∧ gnF k = N ∧ (∀ x, x < N → defaultValue (ty x) = if gisR (32 * k + x) = true then .null else .int 0) ∧ (∀ x, x < N → (T x).1 = C)
theorem gcO_at {S : gS} {ad : gAd} {k j t i : Nat} (hi : i < gnF k) : (gcO S ad k j t)[i]? = some (gfv S ad (32 * k + i) j t) := by
  simp [gcO, hi]
theorem gcO_len {S : gS} {ad : gAd} {k j t : Nat} : (gcO S ad k j t).length = gnF k := by simp [gcO]
theorem gcell_O {cy : Nat → ClassId} {S : gS} {ad : gAd} {k j t : Nat} (h : k < 9) : gcell cy S ad (k, j, t) = .inr (k, gcO S ad k j t) := by
  show (if k < 9 then _ else _) = _
  rw [if_pos h]
theorem gcell_A {cy : Nat → ClassId} {S : gS} {ad : gAd} {k j t : Nat} (h : ¬ k < 9) : gcell cy S ad (k, j, t) = gcA cy S ad k j := by
  show (if k < 9 then _ else _) = _
  rw [if_neg h]
theorem gcell_I {cy : Nat → ClassId} {S : gS} {ad : gAd} {k j t : Nat} (h : ¬ k < 9) (ht : gaT k ≠ 4) (h5 : ¬ 5 ≤ gaT k) : gcell cy S ad (k, j, t) = .inl (cy (gaT k), gaN k, .inl (aI S k j)) := by
  rw [gcell_A h, gcA, if_neg ht, if_neg h5]
theorem gcell_L {cy : Nat → ClassId} {S : gS} {ad : gAd} {k j t : Nat} (h : ¬ k < 9) (ht : gaT k = 4) : gcell cy S ad (k, j, t) = .inl (cy 4, gaN k, .inr (.inl (aL S k j))) := by
  rw [gcell_A h, gcA, if_pos ht]
theorem gcell_Q {cy : Nat → ClassId} {S : gS} {ad : gAd} {k j t : Nat} (h : ¬ k < 9) (h5 : 5 ≤ gaT k) : gcell cy S ad (k, j, t) = .inl (cy (gaT k), gaN k, .inr (.inr (.inr (.inr (fun i => gro ad (aR S k j i)))))) := by
  rw [gcell_A h, gcA, if_neg (by omega), if_pos h5]
/-- a changed field -/
theorem gcO_set {S S' : gS} {ad : gAd} {k j t i : Nat} {v : Value} (h1 : gfv S' ad (32 * k + i) j t = v) (h2 : ∀ x, x < gnF k → x ≠ i → gfv S' ad (32 * k + x) j t = gfv S ad (32 * k + x) j t) : gcO S' ad k j t = (gcO S ad k j t).set i v := by
  apply List.ext_getElem?
  intro x
  rcases Nat.lt_or_ge x (gnF k) with hx | hx
  · by_cases hxi : x = i
    · subst hxi
      rw [List.getElem?_set_self (by rw [gcO_len]; exact hx), gcO_at hx, h1]
    · rw [List.getElem?_set_ne (Ne.symm hxi), gcO_at hx, gcO_at hx, h2 x hx hxi]
  · rw [List.getElem?_eq_none (by rw [gcO_len]; exact hx), List.getElem?_eq_none (by rw [List.length_set, gcO_len]; exact hx)]
theorem gfv_sfI {S : gS} {ad : gAd} {g j t g' j' t' : Nat} {x : Int32} (h : ¬ (g' = g ∧ j' = j ∧ t' = t)) : gfv (sfI S g j t x) ad g' j' t' = gfv S ad g' j' t' := by
  unfold gfv
  by_cases hr : gisR g' = true
  · rw [if_pos hr, if_pos hr]; rfl
  · rw [if_neg hr, if_neg hr]
    show Value.int (up3 (fI S) g j t x g' j' t') = _
    rw [up3, if_neg h]
theorem gfv_sfI_eq {S : gS} {ad : gAd} {g j t : Nat} {x : Int32} (hr : gisR g = false) : gfv (sfI S g j t x) ad g j t = .int x := by
  unfold gfv
  rw [if_neg (by rw [hr]; decide)]
  show Value.int (up3 (fI S) g j t x g j t) = _
  rw [up3, if_pos ⟨rfl, rfl, rfl⟩]
theorem gfv_sfR {S : gS} {ad : gAd} {g j t g' j' t' : Nat} {x : Option gId} (h : ¬ (g' = g ∧ j' = j ∧ t' = t)) : gfv (sfR S g j t x) ad g' j' t' = gfv S ad g' j' t' := by
  unfold gfv
  by_cases hr : gisR g' = true
  · rw [if_pos hr, if_pos hr]
    show va_rf (gro ad (up3 (fR S) g j t x g' j' t')) = _
    rw [up3, if_neg h]
  · rw [if_neg hr, if_neg hr]; rfl
theorem gfv_sfR_eq {S : gS} {ad : gAd} {g j t : Nat} {x : Option gId} (hr : gisR g = true) : gfv (sfR S g j t x) ad g j t = va_rf (gro ad x) := by
  unfold gfv
  rw [if_pos hr]
  show va_rf (gro ad (up3 (fR S) g j t x g j t)) = _
  rw [up3, if_pos ⟨rfl, rfl, rfl⟩]
theorem gcA_eq {cy : Nat → ClassId} {S S' : gS} {ad : gAd} {k j : Nat} (h1 : aI S' k j = aI S k j) (h2 : aL S' k j = aL S k j) (h3 : aR S' k j = aR S k j) : gcA cy S' ad k j = gcA cy S ad k j := by
  unfold gcA
  rw [h1, h2, h3]
theorem gcell_f {cy : Nat → ClassId} {S S' : gS} {ad : gAd} {k i j t : Nat} {q : gId} (hq : q ≠ (k, j, t)) (hi : i < 32) (h : ∀ g' j' t', ¬ (g' = 32 * k + i ∧ j' = j ∧ t' = t) → gfv S' ad g' j' t' = gfv S ad g' j' t') (h1 : aI S' = aI S) (h2 : aL S' = aL S) (h3 : aR S' = aR S) : gcell cy S' ad q = gcell cy S ad q := by
  obtain ⟨k', j', t'⟩ := q
  by_cases h9 : k' < 9
  · rw [gcell_O h9, gcell_O h9]
    congr 2
    refine List.map_congr_left fun x hx => h _ _ _ ?_
    rintro ⟨e1, e2, e3⟩
    have hx2 : x < gnF k' := List.mem_range.mp hx
    have hx3 := gnF_le k'
    have : k' = k := by omega
    exact hq (by rw [this, e2, e3])
  · rw [gcell_A h9, gcell_A h9]
    exact gcA_eq (by rw [h1]) (by rw [h2]) (by rw [h3])
theorem gcell_a {cy : Nat → ClassId} {S S' : gS} {ad : gAd} {k j : Nat} {q : gId} (hq : 9 ≤ q.1 → ¬ (q.1 = k ∧ q.2.1 = j)) (h0 : ∀ g' j' t', gfv S' ad g' j' t' = gfv S ad g' j' t') (h1 : ∀ k' j', ¬ (k' = k ∧ j' = j) → aI S' k' j' = aI S k' j' ∧ aL S' k' j' = aL S k' j' ∧ aR S' k' j' = aR S k' j') : gcell cy S' ad q = gcell cy S ad q := by
  obtain ⟨k', j', t'⟩ := q
  by_cases h9 : k' < 9
  · rw [gcell_O h9, gcell_O h9]
    congr 2
    exact List.map_congr_left fun x hx => h0 _ _ _
  · obtain ⟨e1, e2, e3⟩ := h1 k' j' (hq (Nat.not_lt.mp h9))
    rw [gcell_A h9, gcell_A h9]
    exact gcA_eq e1 e2 e3
theorem up3_row {α : Type} {f : Nat → Nat → Nat → α} {k j i k' j' : Nat} {v : α} (h : ¬ (k' = k ∧ j' = j)) : up3 f k j i v k' j' = f k' j' := by
  funext x
  rw [up3, if_neg (fun z => h ⟨z.1, z.2.1⟩)]
theorem up3_upd {f : Nat → Nat → Nat → Int32} {k j n : Nat} {x i : Int32} (hn : n < 2 ^ 31) (hi : i = nI n) : upd (f k j) i.toNatClampNeg x = up3 f k j n x k j := by
  funext z
  rw [hi, nI_clamp hn]
  simp [upd, up3]
theorem up3_updL {f : Nat → Nat → Nat → Int64} {k j n : Nat} {x : Int64} {i : Int32} (hn : n < 2 ^ 31) (hi : i = nI n) : vp_updL (f k j) i.toNatClampNeg x = up3 f k j n x k j := by
  funext z
  rw [hi, nI_clamp hn]
  simp [vp_updL, up3]
section GH
variable {E : gE} {M : gM} {B : gB} {pc pc' : Nat} {ls : List (Option gV)} {st : List gV} {S : gS} {cs sl : Nat}
theorem g_getI {k j t i idx : Nat} {C : String} {T : u_T} {N : Nat} {ty : Nat → FieldType} (cf : gCF k C T N ty) (hi : i < N) (hw : Cond.fieldLink M.1.cls idx C (T i).2.1 (T i).2.2.1 ∈ lwG) (hr : gisR (32 * k + i) = false) (d : decode M.2.1 pc = .ok (.getfield idx, 3)) (e : pc + 3 = pc') (hlv : lv S k j t) (h : gG E M B pc' ls (vI (fI S (32 * k + i) j t) :: st) S cs sl) : gG E M B pc ls (vR k j t :: st) S cs sl := by
  subst e
  intro p e s m args below meth c QS hC hE H locs ad lsr hl hS hR hA
  obtain ⟨c0, c1, c2, c3, c4, c5, c6, c7⟩ := cf
  obtain ⟨i0, h1, h2⟩ := gws_at (cy := eC E) (ad := ad) hlv
  rw [gcell_O c0] at h2
  exact va_get (D := eD E) (ci := k) (v := .int (fI S (32 * k + i) j t)) hC.1 hC.2.1 hC.2.2.2.2.2.2.2.1 c2 hC.2.2.2.2.1 hC.2.2.2.2.2.2.2.2.1.1 hR.1 i0 h2 c1 i hi (hC.2.2.2.2.2.2.2.1 _ hw) (fun x hx => by rw [c7 i hi] at hx; exact hx) (by rw [gcO_at (by rw [c5]; exact hi), gfv, if_neg (by rw [hr]; decide)]) d (h p e s m args below meth c QS hC hE H locs ad lsr hl hS hR hA)
theorem g_getR {k j t i idx : Nat} {q : gId} {C : String} {T : u_T} {N : Nat} {ty : Nat → FieldType} (cf : gCF k C T N ty) (hi : i < N) (hw : Cond.fieldLink M.1.cls idx C (T i).2.1 (T i).2.2.1 ∈ lwG) (hr : gisR (32 * k + i) = true) (d : decode M.2.1 pc = .ok (.getfield idx, 3)) (e : pc + 3 = pc') (hlv : lv S k j t) (hq : fR S (32 * k + i) j t = some q) (h : gG E M B pc' ls (.inr q :: st) S cs sl) : gG E M B pc ls (vR k j t :: st) S cs sl := by
  subst e
  intro p e s m args below meth c QS hC hE H locs ad lsr hl hS hR hA
  obtain ⟨c0, c1, c2, c3, c4, c5, c6, c7⟩ := cf
  obtain ⟨i0, h1, h2⟩ := gws_at (cy := eC E) (ad := ad) hlv
  rw [gcell_O c0] at h2
  exact va_get (D := eD E) (ci := k) (v := .ref (gad ad q)) hC.1 hC.2.1 hC.2.2.2.2.2.2.2.1 c2 hC.2.2.2.2.1 hC.2.2.2.2.2.2.2.2.1.1 hR.1 i0 h2 c1 i hi (hC.2.2.2.2.2.2.2.1 _ hw) (fun x hx => by rw [c7 i hi] at hx; exact hx) (by rw [gcO_at (by rw [c5]; exact hi), gfv, if_pos hr, hq]; rfl) d (h p e s m args below meth c QS hC hE H locs ad lsr hl hS hR hA)
theorem g_getIN {k j t i idx : Nat} {C host : String} {T : u_T} {N : Nat} {ty : Nat → FieldType} (cf : gCF k C T N ty) (hi : i < N) (hw : Cond.fieldLinkNest M.1.cls idx C (T i).2.1 (T i).2.2.1 host ∈ lwN) (hr : gisR (32 * k + i) = false) (d : decode M.2.1 pc = .ok (.getfield idx, 3)) (e : pc + 3 = pc') (hlv : lv S k j t) (h : gG E M B pc' ls (vI (fI S (32 * k + i) j t) :: st) S cs sl) : gG E M B pc ls (vR k j t :: st) S cs sl := by
  subst e
  intro p e s m args below meth c QS hC hE H locs ad lsr hl hS hR hA
  obtain ⟨c0, c1, c2, c3, c4, c5, c6, c7⟩ := cf
  obtain ⟨i0, h1, h2⟩ := gws_at (cy := eC E) (ad := ad) hlv
  rw [gcell_O c0] at h2
  exact va_getN (D := eD E) (ci := k) (v := .int (fI S (32 * k + i) j t)) hC.1 hC.2.1 hC.2.2.2.2.2.2.2.1 c2 hC.2.2.2.2.1 hC.2.2.2.2.2.2.2.2.1.1 hR.1 i0 h2 c1 i hi (va_Nw.use rfl (hC.2.2.2.2.2.2.2.2.1.2.2.2.2.1 _ hw)) (fun x hx => by rw [c7 i hi] at hx; exact hx) (by rw [gcO_at (by rw [c5]; exact hi), gfv, if_neg (by rw [hr]; decide)]) d (h p e s m args below meth c QS hC hE H locs ad lsr hl hS hR hA)
theorem g_getRN {k j t i idx : Nat} {q : gId} {C host : String} {T : u_T} {N : Nat} {ty : Nat → FieldType} (cf : gCF k C T N ty) (hi : i < N) (hw : Cond.fieldLinkNest M.1.cls idx C (T i).2.1 (T i).2.2.1 host ∈ lwN) (hr : gisR (32 * k + i) = true) (d : decode M.2.1 pc = .ok (.getfield idx, 3)) (e : pc + 3 = pc') (hlv : lv S k j t) (hq : fR S (32 * k + i) j t = some q) (h : gG E M B pc' ls (.inr q :: st) S cs sl) : gG E M B pc ls (vR k j t :: st) S cs sl := by
  subst e
  intro p e s m args below meth c QS hC hE H locs ad lsr hl hS hR hA
  obtain ⟨c0, c1, c2, c3, c4, c5, c6, c7⟩ := cf
  obtain ⟨i0, h1, h2⟩ := gws_at (cy := eC E) (ad := ad) hlv
  rw [gcell_O c0] at h2
  exact va_getN (D := eD E) (ci := k) (v := .ref (gad ad q)) hC.1 hC.2.1 hC.2.2.2.2.2.2.2.1 c2 hC.2.2.2.2.1 hC.2.2.2.2.2.2.2.2.1.1 hR.1 i0 h2 c1 i hi (va_Nw.use rfl (hC.2.2.2.2.2.2.2.2.1.2.2.2.2.1 _ hw)) (fun x hx => by rw [c7 i hi] at hx; exact hx) (by rw [gcO_at (by rw [c5]; exact hi), gfv, if_pos hr, hq]; rfl) d (h p e s m args below meth c QS hC hE H locs ad lsr hl hS hR hA)
theorem gRep_set {ad : gAd} {S' : gS} {H1 : Heap} {q : gId} {i0 : Nat} {e9 : va_E} (hD0 : va_D (eF E) (gws (eC E) S ad)) (hi : (gL S)[i0]? = some q) (hL : gL S' = gL S) (he : gcell (eC E) S' ad q = e9) (ho : ∀ r ∈ gL S, r ≠ q → gcell (eC E) S' ad r = gcell (eC E) S ad r) (hok : gOk S') (hP : va_P (eD E) vwCl ((gws (eC E) S ad).set i0 (gad ad q, e9)) H1) (hD : va_D (eF E) ((gws (eC E) S ad).set i0 (gad ad q, e9))) : gRep E S' ad H1 := by
  have z := gws_set hD0 hi hL he ho
  rw [z] at hP hD
  exact ⟨hP, hD, hok⟩
theorem g_putI {k j t i idx : Nat} {x : Int32} {fty : FieldType} {C : String} {T : u_T} {N : Nat} {ty : Nat → FieldType} (cf : gCF k C T N ty) (hi : i < N) (hw : Cond.fieldLink M.1.cls idx C (T i).2.1 (T i).2.2.1 ∈ lwG) (hr : gisR (32 * k + i) = false) (hfin : (T i).2.2.2 = false ∨ ((T i).2.2.2 = true ∧ M.1.name = "<init>" ∧ C = M.1.cls)) (hd : parseFieldDescriptor (T i).2.2.1 = some fty) (hn : narrow fty (.int x) = .int x) (hf : fits fty (.int x) = true) (d : decode M.2.1 pc = .ok (.putfield idx, 3)) (e : pc + 3 = pc') (hlv : lv S k j t) (h : gG E M B pc' ls st (sfI S (32 * k + i) j t x) cs sl) : gG E M B pc ls (vI x :: vR k j t :: st) S cs sl := by
  subst e
  intro p e s m args below meth c QS hC hE H locs ad lsr hl hS hR hA
  obtain ⟨c0, c1, c2, c3, c4, c5, c6, c7⟩ := cf
  obtain ⟨i0, h1, h2⟩ := gws_at (cy := eC E) (ad := ad) hlv
  rw [gcell_O c0] at h2
  have hi2 : i < gnF k := by rw [c5]; exact hi
  have hi3 : i < 32 := by have := gnF_le k; omega
  have key : ∀ H1 : Heap, va_P (eD E) vwCl ((gws (eC E) S ad).set i0 (gad ad (k, j, t), .inr (k, (gcO S ad k j t).set i (.int x)))) H1 → va_D (eF E) ((gws (eC E) S ad).set i0 (gad ad (k, j, t), .inr (k, (gcO S ad k j t).set i (.int x)))) → gRep E (sfI S (32 * k + i) j t x) ad H1 := fun H1 q1 q2 =>
    gRep_set hR.2.1 h1 rfl (by rw [gcell_O c0]; congr 2; exact gcO_set (gfv_sfI_eq hr) (fun y hy hne => gfv_sfI (fun z => hne (by omega)))) (fun r _ hne => gcell_f hne hi3 (fun g' j' t' z => gfv_sfI z) rfl rfl rfl) hR.2.2 q1 q2
  rcases hfin with hfin | ⟨hfin, hin, hcl⟩
  · exact va_put (D := eD E) (ci := k) (v := .int x) (ty := fty) hC.1 hC.2.1 hC.2.2.2.2.2.2.2.1 c2 ty c3 c4 hC.2.2.2.2.1 hC.2.2.2.2.2.2.2.2.1.1 hR.1 hR.2.1 hS i0 h2 c1 i hi (hC.2.2.2.2.2.2.2.1 _ hw) (fun x hx => by rw [c7 i hi] at hx; exact hx) hfin hd hn hf (by rw [gcO_len]; exact hi2) d (fun H1 locs1 q1 q2 q3 => h p e s m args below meth c QS hC hE H1 locs1 ad lsr hl q3 (key H1 q1 q2) hA)
  · exact va_putF (D := eD E) (ci := k) (v := .int x) (ty := fty) hC.1 hC.2.1 hC.2.2.2.2.2.2.2.1 c2 ty c3 c4 hC.2.2.2.2.1 hC.2.2.2.2.2.2.2.2.1.1 hR.1 hR.2.1 hS i0 h2 c1 i hi (hC.2.2.2.2.2.2.2.1 _ hw) (fun x hx => by rw [c7 i hi] at hx; exact hx) hfin (hC.2.2.2.2.2.2.1.1 hin) ((c7 i hi).trans hcl) hd hn hf (by rw [gcO_len]; exact hi2) d (fun H1 locs1 q1 q2 q3 => h p e s m args below meth c QS hC hE H1 locs1 ad lsr hl q3 (key H1 q1 q2) hA)
theorem g_putIN {k j t i idx : Nat} {x : Int32} {fty : FieldType} {C host : String} {T : u_T} {N : Nat} {ty : Nat → FieldType} (cf : gCF k C T N ty) (hi : i < N) (hw : Cond.fieldLinkNest M.1.cls idx C (T i).2.1 (T i).2.2.1 host ∈ lwN) (hr : gisR (32 * k + i) = false) (hfin : (T i).2.2.2 = false) (hd : parseFieldDescriptor (T i).2.2.1 = some fty) (hn : narrow fty (.int x) = .int x) (hf : fits fty (.int x) = true) (d : decode M.2.1 pc = .ok (.putfield idx, 3)) (e : pc + 3 = pc') (hlv : lv S k j t) (h : gG E M B pc' ls st (sfI S (32 * k + i) j t x) cs sl) : gG E M B pc ls (vI x :: vR k j t :: st) S cs sl := by
  subst e
  intro p e s m args below meth c QS hC hE H locs ad lsr hl hS hR hA
  obtain ⟨c0, c1, c2, c3, c4, c5, c6, c7⟩ := cf
  obtain ⟨i0, h1, h2⟩ := gws_at (cy := eC E) (ad := ad) hlv
  rw [gcell_O c0] at h2
  have hi2 : i < gnF k := by rw [c5]; exact hi
  have hi3 : i < 32 := by have := gnF_le k; omega
  have key : ∀ H1 : Heap, va_P (eD E) vwCl ((gws (eC E) S ad).set i0 (gad ad (k, j, t), .inr (k, (gcO S ad k j t).set i (.int x)))) H1 → va_D (eF E) ((gws (eC E) S ad).set i0 (gad ad (k, j, t), .inr (k, (gcO S ad k j t).set i (.int x)))) → gRep E (sfI S (32 * k + i) j t x) ad H1 := fun H1 q1 q2 =>
    gRep_set hR.2.1 h1 rfl (by rw [gcell_O c0]; congr 2; exact gcO_set (gfv_sfI_eq hr) (fun y hy hne => gfv_sfI (fun z => hne (by omega)))) (fun r _ hne => gcell_f hne hi3 (fun g' j' t' z => gfv_sfI z) rfl rfl rfl) hR.2.2 q1 q2
  exact va_putN (D := eD E) (ci := k) (v := .int x) (ty := fty) hC.1 hC.2.1 hC.2.2.2.2.2.2.2.1 c2 ty c3 c4 hC.2.2.2.2.1 hC.2.2.2.2.2.2.2.2.1.1 hR.1 hR.2.1 hS i0 h2 c1 i hi (va_Nw.use rfl (hC.2.2.2.2.2.2.2.2.1.2.2.2.2.1 _ hw)) (fun x hx => by rw [c7 i hi] at hx; exact hx) hfin hd hn hf (by rw [gcO_len]; exact hi2) d (fun H1 locs1 q1 q2 q3 => h p e s m args below meth c QS hC hE H1 locs1 ad lsr hl q3 (key H1 q1 q2) hA)
theorem gOk_sfR {S : gS} {k j t i : Nat} {q : gId} (h : gOk S) (hi : i < 32) (hq : q ∈ gL S) : gOk (sfR S (32 * k + i) j t (some q)) := by
  refine ⟨h.1, fun r hr i' r' hi' e => ?_, h.2.2⟩
  have e : up3 (fR S) (32 * k + i) j t (some q) (32 * r.1 + i') r.2.1 r.2.2 = some r' := e
  rw [up3] at e
  split at e
  · cases e; exact hq
  · exact h.2.1 r hr i' r' hi' e
theorem g_putR {k j t i idx : Nat} {q : gId} {fty : FieldType} {C : String} {T : u_T} {N : Nat} {ty : Nat → FieldType} (cf : gCF k C T N ty) (hi : i < N) (hw : Cond.fieldLink M.1.cls idx C (T i).2.1 (T i).2.2.1 ∈ lwG) (hr : gisR (32 * k + i) = true) (hfin : (T i).2.2.2 = true) (hin : M.1.name = "<init>") (hcl : C = M.1.cls) (hd : parseFieldDescriptor (T i).2.2.1 = some fty) (hn : ∀ a : Nat, narrow fty (.ref a) = .ref a ∧ fits fty (.ref a) = true) (d : decode M.2.1 pc = .ok (.putfield idx, 3)) (e : pc + 3 = pc') (hlv : lv S k j t) (hq : q ∈ gL S) (h : gG E M B pc' ls st (sfR S (32 * k + i) j t (some q)) cs sl) : gG E M B pc ls (.inr q :: vR k j t :: st) S cs sl := by
  subst e
  intro p e s m args below meth c QS hC hE H locs ad lsr hl hS hR hA
  obtain ⟨c0, c1, c2, c3, c4, c5, c6, c7⟩ := cf
  obtain ⟨i0, h1, h2⟩ := gws_at (cy := eC E) (ad := ad) hlv
  rw [gcell_O c0] at h2
  have hi2 : i < gnF k := by rw [c5]; exact hi
  have hi3 : i < 32 := by have := gnF_le k; omega
  have key : ∀ H1 : Heap, va_P (eD E) vwCl ((gws (eC E) S ad).set i0 (gad ad (k, j, t), .inr (k, (gcO S ad k j t).set i (.ref (gad ad q))))) H1 → va_D (eF E) ((gws (eC E) S ad).set i0 (gad ad (k, j, t), .inr (k, (gcO S ad k j t).set i (.ref (gad ad q))))) → gRep E (sfR S (32 * k + i) j t (some q)) ad H1 := fun H1 q1 q2 =>
    gRep_set hR.2.1 h1 rfl (by rw [gcell_O c0]; congr 2; exact gcO_set ((gfv_sfR_eq hr).trans rfl) (fun y hy hne => gfv_sfR (fun z => hne (by omega)))) (fun r _ hne => gcell_f hne hi3 (fun g' j' t' z => gfv_sfR z) rfl rfl rfl) (gOk_sfR hR.2.2 hi3 hq) q1 q2
  exact va_putF (D := eD E) (ci := k) (v := .ref (gad ad q)) (ty := fty) hC.1 hC.2.1 hC.2.2.2.2.2.2.2.1 c2 ty c3 c4 hC.2.2.2.2.1 hC.2.2.2.2.2.2.2.2.1.1 hR.1 hR.2.1 hS i0 h2 c1 i hi (hC.2.2.2.2.2.2.2.1 _ hw) (fun x hx => by rw [c7 i hi] at hx; exact hx) hfin (hC.2.2.2.2.2.2.1.1 hin) ((c7 i hi).trans hcl) hd (hn _).1 (hn _).2 (by rw [gcO_len]; exact hi2) d (fun H1 locs1 q1 q2 q3 => h p e s m args below meth c QS hC hE H1 locs1 ad lsr hl q3 (key H1 q1 q2) hA)
theorem g_iald {k j n : Nat} {x : Int32} (d : decode M.2.1 pc = .ok (.iaload, 1)) (e : pc + 1 = pc') (hk : ¬ k < 9) (hT : gaT k = 1) (hx : x = nI n) (hn : n < gaN k) (hlv : lv S k j 0) (h : gG E M B pc' ls (vI (aI S k j n) :: st) S cs sl) : gG E M B pc ls (vI x :: vR k j 0 :: st) S cs sl := by
  subst e
  intro p e s m args below meth c QS hC hE H locs ad lsr hl hS hR hA
  obtain ⟨i0, h1, h2⟩ := gws_at (cy := eC E) (ad := ad) hlv
  rw [gcell_I hk (by rw [hT]; decide) (by rw [hT]; decide), hT] at h2
  have h31 := gaN_lt k
  subst hx
  refine va_iald (D := eD E) hC.1 hC.2.1 hC.2.2.2.2.2.2.2.2.1.1 hR.1 i0 0 h2 rfl (vp_in_nI hn h31) d ?_
  rw [nI_clamp (by omega)]
  exact h p e s m args below meth c QS hC hE H locs ad lsr hl hS hR hA
theorem g_cald {k j n : Nat} {x : Int32} (d : decode M.2.1 pc = .ok (.caload, 1)) (e : pc + 1 = pc') (hk : ¬ k < 9) (hT : gaT k = 2) (hx : x = nI n) (hn : n < gaN k) (hlv : lv S k j 0) (h : gG E M B pc' ls (vI (aI S k j n) :: st) S cs sl) : gG E M B pc ls (vI x :: vR k j 0 :: st) S cs sl := by
  subst e
  intro p e s m args below meth c QS hC hE H locs ad lsr hl hS hR hA
  obtain ⟨i0, h1, h2⟩ := gws_at (cy := eC E) (ad := ad) hlv
  rw [gcell_I hk (by rw [hT]; decide) (by rw [hT]; decide), hT] at h2
  have h31 := gaN_lt k
  subst hx
  refine va_cald (D := eD E) hC.1 hC.2.1 hC.2.2.2.2.2.2.2.2.1.1 hR.1 i0 1 h2 rfl (vp_in_nI hn h31) d ?_
  rw [nI_clamp (by omega)]
  exact h p e s m args below meth c QS hC hE H locs ad lsr hl hS hR hA
theorem g_zald {k j n : Nat} {x : Int32} (d : decode M.2.1 pc = .ok (.baload, 1)) (e : pc + 1 = pc') (hk : ¬ k < 9) (hT : gaT k = 3) (hx : x = nI n) (hn : n < gaN k) (hlv : lv S k j 0) (h : gG E M B pc' ls (vI (aI S k j n) :: st) S cs sl) : gG E M B pc ls (vI x :: vR k j 0 :: st) S cs sl := by
  subst e
  intro p e s m args below meth c QS hC hE H locs ad lsr hl hS hR hA
  obtain ⟨i0, h1, h2⟩ := gws_at (cy := eC E) (ad := ad) hlv
  rw [gcell_I hk (by rw [hT]; decide) (by rw [hT]; decide), hT] at h2
  have h31 := gaN_lt k
  subst hx
  refine va_zald (D := eD E) hC.1 hC.2.1 hC.2.2.2.2.2.2.2.2.1.1 hR.1 i0 2 h2 rfl (vp_in_nI hn h31) d ?_
  rw [nI_clamp (by omega)]
  exact h p e s m args below meth c QS hC hE H locs ad lsr hl hS hR hA
theorem g_lald {k j n : Nat} {x : Int32} (d : decode M.2.1 pc = .ok (.laload, 1)) (e : pc + 1 = pc') (hk : ¬ k < 9) (hT : gaT k = 4) (hx : x = nI n) (hn : n < gaN k) (hlv : lv S k j 0) (h : gG E M B pc' ls (vL (aL S k j n) :: st) S cs sl) : gG E M B pc ls (vI x :: vR k j 0 :: st) S cs sl := by
  subst e
  intro p e s m args below meth c QS hC hE H locs ad lsr hl hS hR hA
  obtain ⟨i0, h1, h2⟩ := gws_at (cy := eC E) (ad := ad) hlv
  rw [gcell_L hk hT] at h2
  have h31 := gaN_lt k
  subst hx
  refine va_lald (D := eD E) hC.1 hC.2.1 hC.2.2.2.2.2.2.2.2.1.1 hR.1 i0 3 h2 rfl (vp_in_nI hn h31) d ?_
  rw [nI_clamp (by omega)]
  exact h p e s m args below meth c QS hC hE H locs ad lsr hl hS hR hA
theorem g_aaldJ {k j n : Nat} {x : Int32} {q : gId} (d : decode M.2.1 pc = .ok (.aaload, 1)) (e : pc + 1 = pc') (hk : ¬ k < 9) (hT : gaT k = 5) (hx : x = nI n) (hn : n < gaN k) (hlv : lv S k j 0) (hq : aR S k j n = some q) (h : gG E M B pc' ls (.inr q :: st) S cs sl) : gG E M B pc ls (vI x :: vR k j 0 :: st) S cs sl := by
  subst e
  intro p e s m args below meth c QS hC hE H locs ad lsr hl hS hR hA
  obtain ⟨i0, h1, h2⟩ := gws_at (cy := eC E) (ad := ad) hlv
  rw [gcell_Q hk (by rw [hT]; decide), hT] at h2
  have h31 := gaN_lt k
  subst hx
  refine va_aldq (D := eD E) hC.1 hC.2.1 hC.2.2.2.2.2.2.2.2.1.1 hR.1 i0 4 h2 rfl (vp_in_nI hn h31) d ?_
  rw [nI_clamp (by omega), hq]
  exact h p e s m args below meth c QS hC hE H locs ad lsr hl hS hR hA
theorem g_aaldT {k j n : Nat} {x : Int32} {q : gId} (d : decode M.2.1 pc = .ok (.aaload, 1)) (e : pc + 1 = pc') (hk : ¬ k < 9) (hT : gaT k = 6) (hx : x = nI n) (hn : n < gaN k) (hlv : lv S k j 0) (hq : aR S k j n = some q) (h : gG E M B pc' ls (.inr q :: st) S cs sl) : gG E M B pc ls (vI x :: vR k j 0 :: st) S cs sl := by
  subst e
  intro p e s m args below meth c QS hC hE H locs ad lsr hl hS hR hA
  obtain ⟨i0, h1, h2⟩ := gws_at (cy := eC E) (ad := ad) hlv
  rw [gcell_Q hk (by rw [hT]; decide), hT] at h2
  have h31 := gaN_lt k
  subst hx
  refine va_aldq (D := eD E) hC.1 hC.2.1 hC.2.2.2.2.2.2.2.2.1.1 hR.1 i0 5 h2 rfl (vp_in_nI hn h31) d ?_
  rw [nI_clamp (by omega), hq]
  exact h p e s m args below meth c QS hC hE H locs ad lsr hl hS hR hA
theorem g_iast {k j n : Nat} {x v : Int32} (d : decode M.2.1 pc = .ok (.iastore, 1)) (e : pc + 1 = pc') (hk : ¬ k < 9) (hT : gaT k = 1) (hx : x = nI n) (hn : n < gaN k) (hlv : lv S k j 0) (h : gG E M B pc' ls st (saI S k j n v) cs sl) : gG E M B pc ls (vI v :: vI x :: vR k j 0 :: st) S cs sl := by
  subst e
  intro p e s m args below meth c QS hC hE H locs ad lsr hl hS hR hA
  obtain ⟨i0, h1, h2⟩ := gws_at (cy := eC E) (ad := ad) hlv
  rw [gcell_I hk (by rw [hT]; decide) (by rw [hT]; decide), hT] at h2
  have h31 := gaN_lt k
  refine va_iast (D := eD E) hC.1 hC.2.1 hC.2.2.2.2.2.2.2.2.1.1 hR.1 hR.2.1 hS i0 0 h2 rfl (by rw [hx]; exact vp_in_nI hn h31) d (fun H1 locs1 q1 q2 q3 => h p e s m args below meth c QS hC hE H1 locs1 ad lsr hl q3 ?_ hA)
  exact gRep_set hR.2.1 h1 rfl (by rw [gcell_I hk (by rw [hT]; decide) (by rw [hT]; decide), hT, up3_upd (f := aI S) (Nat.lt_trans hn h31) hx]; rfl) (fun r hr hne => gcell_a (fun h9 z => hne (by have := hR.2.2.1 r hr h9; obtain ⟨a1, a2, a3⟩ := r; obtain ⟨z1, z2⟩ := z; simp only at z1 z2 this; rw [z1, z2, this])) (fun _ _ _ => rfl) (fun k' j' z => ⟨up3_row z, rfl, rfl⟩)) hR.2.2 q1 q2
theorem g_cast {k j n : Nat} {x v : Int32} (d : decode M.2.1 pc = .ok (.castore, 1)) (e : pc + 1 = pc') (hk : ¬ k < 9) (hT : gaT k = 2) (hx : x = nI n) (hn : n < gaN k) (hlv : lv S k j 0) (hv : vp_nar .char v = v) (h : gG E M B pc' ls st (saI S k j n v) cs sl) : gG E M B pc ls (vI v :: vI x :: vR k j 0 :: st) S cs sl := by
  subst e
  intro p e s m args below meth c QS hC hE H locs ad lsr hl hS hR hA
  obtain ⟨i0, h1, h2⟩ := gws_at (cy := eC E) (ad := ad) hlv
  rw [gcell_I hk (by rw [hT]; decide) (by rw [hT]; decide), hT] at h2
  have h31 := gaN_lt k
  refine va_cast (D := eD E) hC.1 hC.2.1 hC.2.2.2.2.2.2.2.2.1.1 hR.1 hR.2.1 hS i0 1 h2 rfl (by rw [hx]; exact vp_in_nI hn h31) d (fun H1 locs1 q1 q2 q3 => h p e s m args below meth c QS hC hE H1 locs1 ad lsr hl q3 ?_ hA)
  rw [hv] at q1 q2
  exact gRep_set hR.2.1 h1 rfl (by rw [gcell_I hk (by rw [hT]; decide) (by rw [hT]; decide), hT, up3_upd (f := aI S) (Nat.lt_trans hn h31) hx]; rfl) (fun r hr hne => gcell_a (fun h9 z => hne (by have := hR.2.2.1 r hr h9; obtain ⟨a1, a2, a3⟩ := r; obtain ⟨z1, z2⟩ := z; simp only at z1 z2 this; rw [z1, z2, this])) (fun _ _ _ => rfl) (fun k' j' z => ⟨up3_row z, rfl, rfl⟩)) hR.2.2 q1 q2
theorem g_zast {k j n : Nat} {x v : Int32} (d : decode M.2.1 pc = .ok (.bastore, 1)) (e : pc + 1 = pc') (hk : ¬ k < 9) (hT : gaT k = 3) (hx : x = nI n) (hn : n < gaN k) (hlv : lv S k j 0) (hv : vp_nar .boolean v = v) (h : gG E M B pc' ls st (saI S k j n v) cs sl) : gG E M B pc ls (vI v :: vI x :: vR k j 0 :: st) S cs sl := by
  subst e
  intro p e s m args below meth c QS hC hE H locs ad lsr hl hS hR hA
  obtain ⟨i0, h1, h2⟩ := gws_at (cy := eC E) (ad := ad) hlv
  rw [gcell_I hk (by rw [hT]; decide) (by rw [hT]; decide), hT] at h2
  have h31 := gaN_lt k
  refine va_zast (D := eD E) hC.1 hC.2.1 hC.2.2.2.2.2.2.2.2.1.1 hR.1 hR.2.1 hS i0 2 h2 rfl (by rw [hx]; exact vp_in_nI hn h31) d (fun H1 locs1 q1 q2 q3 => h p e s m args below meth c QS hC hE H1 locs1 ad lsr hl q3 ?_ hA)
  rw [hv] at q1 q2
  exact gRep_set hR.2.1 h1 rfl (by rw [gcell_I hk (by rw [hT]; decide) (by rw [hT]; decide), hT, up3_upd (f := aI S) (Nat.lt_trans hn h31) hx]; rfl) (fun r hr hne => gcell_a (fun h9 z => hne (by have := hR.2.2.1 r hr h9; obtain ⟨a1, a2, a3⟩ := r; obtain ⟨z1, z2⟩ := z; simp only at z1 z2 this; rw [z1, z2, this])) (fun _ _ _ => rfl) (fun k' j' z => ⟨up3_row z, rfl, rfl⟩)) hR.2.2 q1 q2
theorem g_last {k j n : Nat} {x : Int32} {v : Int64} (d : decode M.2.1 pc = .ok (.lastore, 1)) (e : pc + 1 = pc') (hk : ¬ k < 9) (hT : gaT k = 4) (hx : x = nI n) (hn : n < gaN k) (hlv : lv S k j 0) (h : gG E M B pc' ls st (saL S k j n v) cs sl) : gG E M B pc ls (vL v :: vI x :: vR k j 0 :: st) S cs sl := by
  subst e
  intro p e s m args below meth c QS hC hE H locs ad lsr hl hS hR hA
  obtain ⟨i0, h1, h2⟩ := gws_at (cy := eC E) (ad := ad) hlv
  rw [gcell_L hk hT] at h2
  have h31 := gaN_lt k
  refine va_last (D := eD E) hC.1 hC.2.1 hC.2.2.2.2.2.2.2.2.1.1 hR.1 hR.2.1 hS i0 3 h2 rfl (by rw [hx]; exact vp_in_nI hn h31) d (fun H1 locs1 q1 q2 q3 => h p e s m args below meth c QS hC hE H1 locs1 ad lsr hl q3 ?_ hA)
  exact gRep_set hR.2.1 h1 rfl (by rw [gcell_L hk hT, up3_updL (f := aL S) (Nat.lt_trans hn h31) hx]; rfl) (fun r hr hne => gcell_a (fun h9 z => hne (by have := hR.2.2.1 r hr h9; obtain ⟨a1, a2, a3⟩ := r; obtain ⟨z1, z2⟩ := z; simp only at z1 z2 this; rw [z1, z2, this])) (fun _ _ _ => rfl) (fun k' j' z => ⟨rfl, up3_row z, rfl⟩)) hR.2.2 q1 q2
theorem gOk_saR {S : gS} {k j n : Nat} {q : gId} (h : gOk S) (hq : q ∈ gL S) : gOk (saR S k j n (some q)) := by
  refine ⟨h.1, h.2.1, fun r hr i' r' e => ?_⟩
  have e : up3 (aR S) k j n (some q) r.1 r.2.1 i' = some r' := e
  rw [up3] at e
  split at e
  · cases e; exact hq
  · exact h.2.2 r hr i' r' e
theorem up3_updq {S : gS} {ad : gAd} {k j n : Nat} {q : gId} {i : Int32} (hn : n < 2 ^ 31) (hi : i = nI n) : va_up (fun z => gro ad (aR S k j z)) i.toNatClampNeg (some (gad ad q)) = fun z => gro ad (aR (saR S k j n (some q)) k j z) := by
  funext z
  rw [hi, nI_clamp hn]
  show _ = gro ad (up3 (aR S) k j n (some q) k j z)
  by_cases hz : z = n
  · subst hz; simp [va_up, up3, gro, gad]
  · simp [va_up, up3, hz]
theorem g_aastJ {k j n jv tv : Nat} {x : Int32} (d : decode M.2.1 pc = .ok (.aastore, 1)) (e : pc + 1 = pc') (hk : ¬ k < 9) (hT : gaT k = 5) (hx : x = nI n) (hn : n < gaN k) (hlv : lv S k j 0) (hv : lv S 2 jv tv) (h : gG E M B pc' ls st (saR S k j n (some (2, jv, tv))) cs sl) : gG E M B pc ls (vR 2 jv tv :: vI x :: vR k j 0 :: st) S cs sl := by
  subst e
  intro p e s m args below meth c QS hC hE H locs ad lsr hl hS hR hA
  obtain ⟨i0, h1, h2⟩ := gws_at (cy := eC E) (ad := ad) hlv
  obtain ⟨i1, h3, h4⟩ := gws_at (cy := eC E) (ad := ad) hv
  rw [gcell_Q hk (by rw [hT]; decide), hT] at h2
  rw [gcell_O (by decide)] at h4
  have h31 := gaN_lt k
  refine va_astq (D := eD E) (r := (RX2, TX2, 7)) hC.1 hC.2.1 hC.2.2.2.2.2.2.2.2.1.1 hR.1 hR.2.1 hS i0 4 i1 2 h2 rfl h4 rfl (by rw [hx]; exact vp_in_nI hn h31) d (fun H1 locs1 q1 q2 q3 => h p e s m args below meth c QS hC hE H1 locs1 ad lsr hl q3 ?_ hA)
  exact gRep_set hR.2.1 h1 rfl (by rw [gcell_Q hk (by rw [hT]; decide), hT]; exact congrArg (fun z => Sum.inl (_, _, Sum.inr (Sum.inr (Sum.inr (Sum.inr z))))) (up3_updq (Nat.lt_trans hn h31) hx).symm) (fun r hr hne => gcell_a (fun h9 z => hne (by have := hR.2.2.1 r hr h9; obtain ⟨a1, a2, a3⟩ := r; obtain ⟨z1, z2⟩ := z; simp only at z1 z2 this; rw [z1, z2, this])) (fun _ _ _ => rfl) (fun k' j' z => ⟨rfl, rfl, up3_row z⟩)) (gOk_saR hR.2.2 hv) q1 q2
theorem g_aastT {k j n jv tv : Nat} {x : Int32} (d : decode M.2.1 pc = .ok (.aastore, 1)) (e : pc + 1 = pc') (hk : ¬ k < 9) (hT : gaT k = 6) (hx : x = nI n) (hn : n < gaN k) (hlv : lv S k j 0) (hv : lv S 5 jv tv) (h : gG E M B pc' ls st (saR S k j n (some (5, jv, tv))) cs sl) : gG E M B pc ls (vR 5 jv tv :: vI x :: vR k j 0 :: st) S cs sl := by
  subst e
  intro p e s m args below meth c QS hC hE H locs ad lsr hl hS hR hA
  obtain ⟨i0, h1, h2⟩ := gws_at (cy := eC E) (ad := ad) hlv
  obtain ⟨i1, h3, h4⟩ := gws_at (cy := eC E) (ad := ad) hv
  rw [gcell_Q hk (by rw [hT]; decide), hT] at h2
  rw [gcell_O (by decide)] at h4
  have h31 := gaN_lt k
  refine va_astq (D := eD E) (r := (RX5, TX5, 6)) hC.1 hC.2.1 hC.2.2.2.2.2.2.2.2.1.1 hR.1 hR.2.1 hS i0 5 i1 5 h2 rfl h4 rfl (by rw [hx]; exact vp_in_nI hn h31) d (fun H1 locs1 q1 q2 q3 => h p e s m args below meth c QS hC hE H1 locs1 ad lsr hl q3 ?_ hA)
  exact gRep_set hR.2.1 h1 rfl (by rw [gcell_Q hk (by rw [hT]; decide), hT]; exact congrArg (fun z => Sum.inl (_, _, Sum.inr (Sum.inr (Sum.inr (Sum.inr z))))) (up3_updq (Nat.lt_trans hn h31) hx).symm) (fun r hr hne => gcell_a (fun h9 z => hne (by have := hR.2.2.1 r hr h9; obtain ⟨a1, a2, a3⟩ := r; obtain ⟨z1, z2⟩ := z; simp only at z1 z2 this; rw [z1, z2, this])) (fun _ _ _ => rfl) (fun k' j' z => ⟨rfl, rfl, up3_row z⟩)) (gOk_saR hR.2.2 hv) q1 q2
end GH
