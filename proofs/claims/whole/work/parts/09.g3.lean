/-! OUR OWN FRAME (4): new things, statics, calls -/
theorem gOk_new {S : gS} {k j t : Nat} (h : gOk S) (h9 : 9 ≤ k → t = 0) : gOk (snew S k j t) := by
  refine ⟨fun q hq hk => ?_, fun q hq i r hi e => ?_, fun q hq i r e => ?_⟩
  · rcases List.mem_append.mp hq with hq | hq
    · exact h.1 q hq hk
    · cases List.mem_singleton.mp hq
      exact h9 hk
  · have e : (if (32 * q.1 + i) / 32 = k ∧ q.2.1 = j ∧ q.2.2 = t then none else fR S (32 * q.1 + i) q.2.1 q.2.2) = some r := e
    split at e
    · cases e
    · rename_i hne
      rcases List.mem_append.mp hq with hq | hq
      · exact List.mem_append_left _ (h.2.1 q hq i r hi e)
      · cases List.mem_singleton.mp hq
        exact absurd ⟨by show (32 * k + i) / 32 = k; omega, rfl, rfl⟩ hne
  · have e : (if q.1 = k ∧ q.2.1 = j then none else aR S q.1 q.2.1 i) = some r := e
    split at e
    · cases e
    · rename_i hne
      rcases List.mem_append.mp hq with hq | hq
      · exact List.mem_append_left _ (h.2.2 q hq i r e)
      · cases List.mem_singleton.mp hq
        exact absurd ⟨rfl, rfl⟩ hne
def gup (ad : gAd) (q : gId) (a : Nat) : gAd := fun k j t => if (k, j, t) = q then a else ad k j t
theorem gup_at (ad : gAd) (q : gId) (a : Nat) : gad (gup ad q a) q = a := by
  show (if (q.1, q.2.1, q.2.2) = q then a else _) = a
  rw [if_pos rfl]
theorem gup_ne (ad : gAd) {q r : gId} (a : Nat) (h : r ≠ q) : gad (gup ad q a) r = gad ad r := by
  show (if (r.1, r.2.1, r.2.2) = q then a else _) = _
  rw [if_neg h]
  rfl
theorem gup_ag (ad : gAd) (q : gId) (a : Nat) : gAg ad (gup ad q a) [q] := fun r hr => gup_ne ad a (fun z => hr (by rw [z]; exact List.mem_singleton.mpr rfl))
theorem gro_up {ad : gAd} {q : gId} {a : Nat} {r : Option gId} (h : ∀ x, r = some x → x ≠ q) : gro (gup ad q a) r = gro ad r := by
  cases r with
  | none => rfl
  | some x => exact congrArg some (gup_ne ad a (h x rfl))
theorem gcell_ad {cy : Nat → ClassId} {S : gS} {ad : gAd} {q r : gId} {a : Nat} (hok : gOk S) (hr : r ∈ gL S) (hq : q ∉ gL S) : gcell cy S (gup ad q a) r = gcell cy S ad r := by
  have ne : ∀ x, x ∈ gL S → x ≠ q := fun x hx z => hq (z ▸ hx)
  obtain ⟨k, j, t⟩ := r
  by_cases h9 : k < 9
  · rw [gcell_O h9, gcell_O h9]
    congr 2
    refine List.map_congr_left fun x hx => ?_
    have hx2 : x < 32 := by have h1 := List.mem_range.mp hx; have h2 := gnF_le k; omega
    unfold gfv
    by_cases hr2 : gisR (32 * k + x) = true
    · rw [if_pos hr2, if_pos hr2, gro_up (fun y hy => ne y (hok.2.1 _ hr x y hx2 hy))]
    · rw [if_neg hr2, if_neg hr2]
  · rw [gcell_A h9, gcell_A h9]
    unfold gcA
    by_cases h4 : gaT k = 4
    · rw [if_pos h4, if_pos h4]
    · rw [if_neg h4, if_neg h4]
      by_cases h5 : 5 ≤ gaT k
      · rw [if_pos h5, if_pos h5]
        have : (fun i => gro (gup ad q a) (aR S k j i)) = fun i => gro ad (aR S k j i) := funext fun i => gro_up (fun y hy => ne y (hok.2.2 _ hr i y hy))
        rw [this]
      · rw [if_neg h5, if_neg h5]
theorem gRep_new {E : gE} {S S' : gS} {ad : gAd} {H H1 : Heap} {q : gId} {a : Nat} {e9 : va_E} (hR : gRep E S ad H) (hq : q ∉ gL S) (hL : gL S' = gL S ++ [q]) (ho : ∀ r ∈ gL S, r ≠ q → gcell (eC E) S' (gup ad q a) r = gcell (eC E) S (gup ad q a) r) (he : gcell (eC E) S' (gup ad q a) q = e9) (hok : gOk S') (hP : va_P (eD E) vwCl (gws (eC E) S ad ++ [(a, e9)]) H1) (hD : va_D (eF E) (gws (eC E) S ad ++ [(a, e9)])) : gRep E S' (gup ad q a) H1 := by
  have z : gws (eC E) S' (gup ad q a) = gws (eC E) S ad ++ [(a, e9)] := by
    rw [gws, hL, List.map_append, List.map_singleton, gup_at, he]
    congr 1
    exact List.map_congr_left fun r hr => by
      have hne : r ≠ q := fun z => hq (z ▸ hr)
      rw [gup_ne ad a hne, ho r hr hne, gcell_ad hR.2.2 hr hq]
  exact ⟨by rw [z]; exact hP, by rw [z]; exact hD, hok⟩
theorem gcell_new {cy : Nat → ClassId} {S : gS} {ad : gAd} {k j t : Nat} (hok : gOk S) (h9 : 9 ≤ k → t = 0) {r : gId} (hr : r ∈ gL S) (hne : r ≠ (k, j, t)) : gcell cy (snew S k j t) ad r = gcell cy S ad r := by
  obtain ⟨k', j', t'⟩ := r
  by_cases hk : k' < 9
  · rw [gcell_O hk, gcell_O hk]
    congr 2
    refine List.map_congr_left fun x hx => ?_
    have hx2 : x < 32 := by have h1 := List.mem_range.mp hx; have h2 := gnF_le k'; omega
    have hc : ¬ ((32 * k' + x) / 32 = k ∧ j' = j ∧ t' = t) := by
      rintro ⟨e1, e2, e3⟩
      have : k' = k := by omega
      exact hne (by rw [this, e2, e3])
    unfold gfv
    by_cases hr2 : gisR (32 * k' + x) = true
    · rw [if_pos hr2, if_pos hr2]
      show va_rf (gro ad (if _ then _ else _)) = _
      rw [if_neg hc]
    · rw [if_neg hr2, if_neg hr2]
      show Value.int (if _ then _ else _) = _
      rw [if_neg hc]
  · have hc : ¬ (k' = k ∧ j' = j) := by
      rintro ⟨e1, e2⟩
      have h1 := hok.1 _ hr (Nat.not_lt.mp hk)
      have h2 := h9 (by omega)
      exact hne (by rw [e1, e2]; exact congrArg (fun z => (k, j, z)) (by simp only at h1; omega))
    rw [gcell_A hk, gcell_A hk]
    refine gcA_eq ?_ ?_ ?_ <;> (funext i; exact if_neg hc)
section GN
variable {E : gE} {M : gM} {B : gB} {pc pc' : Nat} {ls : List (Option gV)} {st : List gV} {S : gS} {cs sl : Nat}
theorem g_new {k j t idx : Nat} {C : String} {T : u_T} {N : Nat} {ty : Nat → FieldType} (cf : gCF k C T N ty) (hw1 : Cond.classLink M.1.cls idx C ∈ lwG) (hw2 : Cond.instantiable C N ∈ lwG) (hw3 : Cond.initialized C ∈ lwG) (d : decode M.2.1 pc = .ok (.new idx, 3)) (e : pc + 3 = pc') (hf : (k, j, t) ∉ gL S) (hN : (k, j, t) ∈ bN B) (hls : ∀ v, some v ∈ ls → gNo [(k, j, t)] v) (hst : ∀ v ∈ st, gNo [(k, j, t)] v) (hc : cs + 1 ≤ bC B) (hs : sl + N ≤ bS B) (h : gG E M B pc' ls (vR k j t :: st) (snew S k j t) (cs + 1) (sl + N)) : gG E M B pc ls st S cs sl := by
  subst e
  intro p e s m args below meth c QS hC hE H locs ad lsr hl hS hR hA
  obtain ⟨c0, c1, c2, c3, c4, c5, c6, c7⟩ := cf
  have hts := hC.2.2.2.2.2.2.2.1
  have hK := hC.2.2.2.2.2.2.2.2.1
  refine va_new (D := eD E) (ci := k) (fs := (List.range N).map (fun i => if gisR (32 * k + i) = true then Value.null else .int 0)) hC.1 hC.2.1 hts c2 ty c3 hC.2.2.2.2.1 (hts _ hw1) (hts _ hw2) (hts _ hw3) hK.1 hR.1 hR.2.1 hS (fun q hq => Nat.le_trans hK.2.2.2.2.2.2 hq) c1 (fun i hi => by rw [c6 i hi]; simp [vp_V, hi]) (Nat.le_trans hc hC.2.2.2.2.2.2.2.2.2.1) (Nat.le_trans hs hC.2.2.2.2.2.2.2.2.2.2) d (fun q H1 q1 q2 q3 => ?_)
  have hag := gup_ag ad (k, j, t) q
  have z := h p e s m args below meth c QS hC hE H1 locs (gup ad (k, j, t) q) lsr (by rw [hag.ls 0 hls]; exact hl) q3 (gRep_new hR hf rfl (fun r hr hne => gcell_new hR.2.2 (fun h9 => absurd c0 (Nat.not_lt.mpr h9)) hr hne) (by
    rw [gcell_O c0, gcO, c5]
    congr 2
    refine List.map_congr_left fun x hx => ?_
    have hx2 : x < 32 := by have h1 := List.mem_range.mp hx; have h2 := gnF_le k; omega
    have hd : (32 * k + x) / 32 = k := by omega
    unfold gfv
    by_cases hr2 : gisR (32 * k + x) = true
    · rw [if_pos hr2, if_pos hr2]
      show va_rf (gro _ (if _ then _ else _)) = _
      rw [if_pos ⟨hd, rfl, rfl⟩]
      rfl
    · rw [if_neg hr2, if_neg hr2]
      show Value.int (if _ then _ else _) = _
      rw [if_pos ⟨hd, rfl, rfl⟩]) (gOk_new hR.2.2 (fun h9 => absurd c0 (Nat.not_lt.mpr h9))) q1 q2) (hA.tr (hag.mono (fun r hr => by rw [List.mem_singleton.mp hr]; exact hN)))
  rw [List.map_cons, hag.st hst] at z
  have e0 : gre (gup ad (k, j, t) q) (vR k j t) = .ref q := congrArg Value.ref (gup_at ad (k, j, t) q)
  rw [e0] at z
  exact z
theorem g_newaI {k j : Nat} {x : Int32} (hw : Cond.arrayClass (newarray.typeOf .int) ∈ lwG) (d : decode M.2.1 pc = .ok (.newarray .int, 2)) (e : pc + 2 = pc') (hk : ¬ k < 9) (hT : gaT k = 1) (hx0 : ¬ x < 0) (hx : x.toNatClampNeg = gaN k) (hby : gaN k * componentBytes .int ≤ 536870912) (hf : (k, j, 0) ∉ gL S) (hN : (k, j, 0) ∈ bN B) (hls : ∀ v, some v ∈ ls → gNo [(k, j, 0)] v) (hst : ∀ v ∈ st, gNo [(k, j, 0)] v) (hc : cs + 1 ≤ bC B) (hs : sl + gaN k ≤ bS B) (h : gG E M B pc' ls (vR k j 0 :: st) (snew S k j 0) (cs + 1) (sl + gaN k)) : gG E M B pc ls (vI x :: st) S cs sl := by
  subst e
  intro p e s m args below meth c QS hC hE H locs ad lsr hl hS hR hA
  have hts := hC.2.2.2.2.2.2.2.1
  have hK := hC.2.2.2.2.2.2.2.2.1
  refine va_newa (D := eD E) (atype := .int) (ty := .int) (a0 := (gaN k, .inl (fun _ => 0))) hC.1 hC.2.1 (hts _ hw) rfl hK.1 hR.1 hR.2.1 hS (fun q hq => Nat.le_trans hK.2.2.2.2.2.2 hq) (fun _ => rfl) hx0 hx hby (Nat.le_trans hc hC.2.2.2.2.2.2.2.2.2.1) (Nat.le_trans hs hC.2.2.2.2.2.2.2.2.2.2) d (fun q cA H1 q0 q1 q2 q3 => ?_)
  have hcA : cA = eC E 1 := by
    have z1 := (q0.2 6 (cA, .int) rfl).2
    have z2 := (hK.1.2 0 _ rfl).2
    exact Option.some.inj (z1.symm.trans z2)
  subst hcA
  have hag := gup_ag ad (k, j, 0) q
  have hrow : aI (snew S k j 0) k j = fun _ => 0 := by funext i; exact if_pos ⟨rfl, rfl⟩
  have z := h p e s m args below meth c QS hC hE H1 locs (gup ad (k, j, 0) q) lsr (by rw [hag.ls 0 hls]; exact hl) q3 (gRep_new hR hf rfl (fun r hr hne => gcell_new hR.2.2 (fun _ => rfl) hr hne) (by rw [gcell_I hk (by rw [hT]; decide) (by rw [hT]; decide), hT, hrow]) (gOk_new hR.2.2 (fun _ => rfl)) q1 q2) (hA.tr (hag.mono (fun r hr => by rw [List.mem_singleton.mp hr]; exact hN)))
  rw [List.map_cons, hag.st hst] at z
  have e0 : gre (gup ad (k, j, 0) q) (vR k j 0) = .ref q := congrArg Value.ref (gup_at ad (k, j, 0) q)
  rw [e0] at z
  exact z
theorem g_newaC {k j : Nat} {x : Int32} (hw : Cond.arrayClass (newarray.typeOf .char) ∈ lwG) (d : decode M.2.1 pc = .ok (.newarray .char, 2)) (e : pc + 2 = pc') (hk : ¬ k < 9) (hT : gaT k = 2) (hx0 : ¬ x < 0) (hx : x.toNatClampNeg = gaN k) (hby : gaN k * componentBytes .char ≤ 536870912) (hf : (k, j, 0) ∉ gL S) (hN : (k, j, 0) ∈ bN B) (hls : ∀ v, some v ∈ ls → gNo [(k, j, 0)] v) (hst : ∀ v ∈ st, gNo [(k, j, 0)] v) (hc : cs + 1 ≤ bC B) (hs : sl + gaN k ≤ bS B) (h : gG E M B pc' ls (vR k j 0 :: st) (snew S k j 0) (cs + 1) (sl + gaN k)) : gG E M B pc ls (vI x :: st) S cs sl := by
  subst e
  intro p e s m args below meth c QS hC hE H locs ad lsr hl hS hR hA
  have hts := hC.2.2.2.2.2.2.2.1
  have hK := hC.2.2.2.2.2.2.2.2.1
  refine va_newa (D := eD E) (atype := .char) (ty := .char) (a0 := (gaN k, .inl (fun _ => 0))) hC.1 hC.2.1 (hts _ hw) rfl hK.1 hR.1 hR.2.1 hS (fun q hq => Nat.le_trans hK.2.2.2.2.2.2 hq) (fun _ => rfl) hx0 hx hby (Nat.le_trans hc hC.2.2.2.2.2.2.2.2.2.1) (Nat.le_trans hs hC.2.2.2.2.2.2.2.2.2.2) d (fun q cA H1 q0 q1 q2 q3 => ?_)
  have hcA : cA = eC E 2 := by
    have z1 := (q0.2 6 (cA, .char) rfl).2
    have z2 := (hK.1.2 1 _ rfl).2
    exact Option.some.inj (z1.symm.trans z2)
  subst hcA
  have hag := gup_ag ad (k, j, 0) q
  have hrow : aI (snew S k j 0) k j = fun _ => 0 := by funext i; exact if_pos ⟨rfl, rfl⟩
  have z := h p e s m args below meth c QS hC hE H1 locs (gup ad (k, j, 0) q) lsr (by rw [hag.ls 0 hls]; exact hl) q3 (gRep_new hR hf rfl (fun r hr hne => gcell_new hR.2.2 (fun _ => rfl) hr hne) (by rw [gcell_I hk (by rw [hT]; decide) (by rw [hT]; decide), hT, hrow]) (gOk_new hR.2.2 (fun _ => rfl)) q1 q2) (hA.tr (hag.mono (fun r hr => by rw [List.mem_singleton.mp hr]; exact hN)))
  rw [List.map_cons, hag.st hst] at z
  have e0 : gre (gup ad (k, j, 0) q) (vR k j 0) = .ref q := congrArg Value.ref (gup_at ad (k, j, 0) q)
  rw [e0] at z
  exact z
theorem g_newaZ {k j : Nat} {x : Int32} (hw : Cond.arrayClass (newarray.typeOf .boolean) ∈ lwG) (d : decode M.2.1 pc = .ok (.newarray .boolean, 2)) (e : pc + 2 = pc') (hk : ¬ k < 9) (hT : gaT k = 3) (hx0 : ¬ x < 0) (hx : x.toNatClampNeg = gaN k) (hby : gaN k * componentBytes .boolean ≤ 536870912) (hf : (k, j, 0) ∉ gL S) (hN : (k, j, 0) ∈ bN B) (hls : ∀ v, some v ∈ ls → gNo [(k, j, 0)] v) (hst : ∀ v ∈ st, gNo [(k, j, 0)] v) (hc : cs + 1 ≤ bC B) (hs : sl + gaN k ≤ bS B) (h : gG E M B pc' ls (vR k j 0 :: st) (snew S k j 0) (cs + 1) (sl + gaN k)) : gG E M B pc ls (vI x :: st) S cs sl := by
  subst e
  intro p e s m args below meth c QS hC hE H locs ad lsr hl hS hR hA
  have hts := hC.2.2.2.2.2.2.2.1
  have hK := hC.2.2.2.2.2.2.2.2.1
  refine va_newa (D := eD E) (atype := .boolean) (ty := .boolean) (a0 := (gaN k, .inl (fun _ => 0))) hC.1 hC.2.1 (hts _ hw) rfl hK.1 hR.1 hR.2.1 hS (fun q hq => Nat.le_trans hK.2.2.2.2.2.2 hq) (fun _ => rfl) hx0 hx hby (Nat.le_trans hc hC.2.2.2.2.2.2.2.2.2.1) (Nat.le_trans hs hC.2.2.2.2.2.2.2.2.2.2) d (fun q cA H1 q0 q1 q2 q3 => ?_)
  have hcA : cA = eC E 3 := by
    have z1 := (q0.2 6 (cA, .boolean) rfl).2
    have z2 := (hK.1.2 2 _ rfl).2
    exact Option.some.inj (z1.symm.trans z2)
  subst hcA
  have hag := gup_ag ad (k, j, 0) q
  have hrow : aI (snew S k j 0) k j = fun _ => 0 := by funext i; exact if_pos ⟨rfl, rfl⟩
  have z := h p e s m args below meth c QS hC hE H1 locs (gup ad (k, j, 0) q) lsr (by rw [hag.ls 0 hls]; exact hl) q3 (gRep_new hR hf rfl (fun r hr hne => gcell_new hR.2.2 (fun _ => rfl) hr hne) (by rw [gcell_I hk (by rw [hT]; decide) (by rw [hT]; decide), hT, hrow]) (gOk_new hR.2.2 (fun _ => rfl)) q1 q2) (hA.tr (hag.mono (fun r hr => by rw [List.mem_singleton.mp hr]; exact hN)))
  rw [List.map_cons, hag.st hst] at z
  have e0 : gre (gup ad (k, j, 0) q) (vR k j 0) = .ref q := congrArg Value.ref (gup_at ad (k, j, 0) q)
  rw [e0] at z
  exact z
theorem g_newaJ {k j : Nat} {x : Int32} (hw : Cond.arrayClass (newarray.typeOf .long) ∈ lwG) (d : decode M.2.1 pc = .ok (.newarray .long, 2)) (e : pc + 2 = pc') (hk : ¬ k < 9) (hT : gaT k = 4) (hx0 : ¬ x < 0) (hx : x.toNatClampNeg = gaN k) (hby : gaN k * componentBytes .long ≤ 536870912) (hf : (k, j, 0) ∉ gL S) (hN : (k, j, 0) ∈ bN B) (hls : ∀ v, some v ∈ ls → gNo [(k, j, 0)] v) (hst : ∀ v ∈ st, gNo [(k, j, 0)] v) (hc : cs + 1 ≤ bC B) (hs : sl + gaN k ≤ bS B) (h : gG E M B pc' ls (vR k j 0 :: st) (snew S k j 0) (cs + 1) (sl + gaN k)) : gG E M B pc ls (vI x :: st) S cs sl := by
  subst e
  intro p e s m args below meth c QS hC hE H locs ad lsr hl hS hR hA
  have hts := hC.2.2.2.2.2.2.2.1
  have hK := hC.2.2.2.2.2.2.2.2.1
  refine va_newa (D := eD E) (atype := .long) (ty := .long) (a0 := (gaN k, .inr (.inl (fun _ => 0)))) hC.1 hC.2.1 (hts _ hw) rfl hK.1 hR.1 hR.2.1 hS (fun q hq => Nat.le_trans hK.2.2.2.2.2.2 hq) (fun _ => rfl) hx0 hx hby (Nat.le_trans hc hC.2.2.2.2.2.2.2.2.2.1) (Nat.le_trans hs hC.2.2.2.2.2.2.2.2.2.2) d (fun q cA H1 q0 q1 q2 q3 => ?_)
  have hcA : cA = eC E 4 := by
    have z1 := (q0.2 6 (cA, .long) rfl).2
    have z2 := (hK.1.2 3 _ rfl).2
    exact Option.some.inj (z1.symm.trans z2)
  subst hcA
  have hag := gup_ag ad (k, j, 0) q
  have hrow : aL (snew S k j 0) k j = fun _ => 0 := by funext i; exact if_pos ⟨rfl, rfl⟩
  have z := h p e s m args below meth c QS hC hE H1 locs (gup ad (k, j, 0) q) lsr (by rw [hag.ls 0 hls]; exact hl) q3 (gRep_new hR hf rfl (fun r hr hne => gcell_new hR.2.2 (fun _ => rfl) hr hne) (by rw [gcell_L hk hT, hrow]) (gOk_new hR.2.2 (fun _ => rfl)) q1 q2) (hA.tr (hag.mono (fun r hr => by rw [List.mem_singleton.mp hr]; exact hN)))
  rw [List.map_cons, hag.st hst] at z
  have e0 : gre (gup ad (k, j, 0) q) (vR k j 0) = .ref q := congrArg Value.ref (gup_at ad (k, j, 0) q)
  rw [e0] at z
  exact z
theorem g_anewJob {k j idx : Nat} {x : Int32} (hw : Cond.classLink M.1.cls idx RX2 ∈ lwG) (d : decode M.2.1 pc = .ok (.anewarray idx, 3)) (e : pc + 3 = pc') (hk : ¬ k < 9) (hT : gaT k = 5) (hx0 : ¬ x < 0) (hx : x.toNatClampNeg = gaN k) (hby : gaN k * 4 ≤ 536870912) (hf : (k, j, 0) ∉ gL S) (hN : (k, j, 0) ∈ bN B) (hls : ∀ v, some v ∈ ls → gNo [(k, j, 0)] v) (hst : ∀ v ∈ st, gNo [(k, j, 0)] v) (hc : cs + 1 ≤ bC B) (hs : sl + gaN k ≤ bS B) (h : gG E M B pc' ls (vR k j 0 :: st) (snew S k j 0) (cs + 1) (sl + gaN k)) : gG E M B pc ls (vI x :: st) S cs sl := by
  subst e
  intro p e s m args below meth c QS hC hE H locs ad lsr hl hS hR hA
  have hts := hC.2.2.2.2.2.2.2.1
  have hK := hC.2.2.2.2.2.2.2.2.1
  refine va_newq (D := eD E) hC.1 hC.2.1 hC.2.2.2.2.1 (hts _ hw) hK.2.2.2.1.1 hK.1 hR.1 hR.2.1 hS (fun q hq => Nat.le_trans hK.2.2.2.2.2.2 hq) hx0 hx hby (Nat.le_trans hc hC.2.2.2.2.2.2.2.2.2.1) (Nat.le_trans hs hC.2.2.2.2.2.2.2.2.2.2) d (fun q cA H1 q0 q1 q2 q3 => ?_)
  have hcA : cA = eC E 5 := by
    obtain ⟨_, _, _, _, _, z1⟩ := (q0.2 6 (cA, .object RX2) rfl).2
    obtain ⟨_, _, _, _, _, z2⟩ := (hK.1.2 4 _ rfl).2
    exact Option.some.inj (z1.symm.trans z2)
  subst hcA
  have hag := gup_ag ad (k, j, 0) q
  have hrow : (fun i => gro (gup ad (k, j, 0) q) (aR (snew S k j 0) k j i)) = fun _ => none := by
    funext i
    show gro _ (if _ then _ else _) = _
    rw [if_pos ⟨rfl, rfl⟩]
    rfl
  have z := h p e s m args below meth c QS hC hE H1 locs (gup ad (k, j, 0) q) lsr (by rw [hag.ls 0 hls]; exact hl) q3 (gRep_new hR hf rfl (fun r hr hne => gcell_new hR.2.2 (fun _ => rfl) hr hne) (by rw [gcell_Q hk (by rw [hT]; decide), hT, hrow]) (gOk_new hR.2.2 (fun _ => rfl)) q1 q2) (hA.tr (hag.mono (fun r hr => by rw [List.mem_singleton.mp hr]; exact hN)))
  rw [List.map_cons, hag.st hst] at z
  have e0 : gre (gup ad (k, j, 0) q) (vR k j 0) = .ref q := congrArg Value.ref (gup_at ad (k, j, 0) q)
  rw [e0] at z
  exact z
theorem g_anewTask {k j idx : Nat} {x : Int32} (hw : Cond.classLink M.1.cls idx RX5 ∈ lwG) (d : decode M.2.1 pc = .ok (.anewarray idx, 3)) (e : pc + 3 = pc') (hk : ¬ k < 9) (hT : gaT k = 6) (hx0 : ¬ x < 0) (hx : x.toNatClampNeg = gaN k) (hby : gaN k * 4 ≤ 536870912) (hf : (k, j, 0) ∉ gL S) (hN : (k, j, 0) ∈ bN B) (hls : ∀ v, some v ∈ ls → gNo [(k, j, 0)] v) (hst : ∀ v ∈ st, gNo [(k, j, 0)] v) (hc : cs + 1 ≤ bC B) (hs : sl + gaN k ≤ bS B) (h : gG E M B pc' ls (vR k j 0 :: st) (snew S k j 0) (cs + 1) (sl + gaN k)) : gG E M B pc ls (vI x :: st) S cs sl := by
  subst e
  intro p e s m args below meth c QS hC hE H locs ad lsr hl hS hR hA
  have hts := hC.2.2.2.2.2.2.2.1
  have hK := hC.2.2.2.2.2.2.2.2.1
  refine va_newq (D := eD E) hC.1 hC.2.1 hC.2.2.2.2.1 (hts _ hw) hK.2.2.2.1.2 hK.1 hR.1 hR.2.1 hS (fun q hq => Nat.le_trans hK.2.2.2.2.2.2 hq) hx0 hx hby (Nat.le_trans hc hC.2.2.2.2.2.2.2.2.2.1) (Nat.le_trans hs hC.2.2.2.2.2.2.2.2.2.2) d (fun q cA H1 q0 q1 q2 q3 => ?_)
  have hcA : cA = eC E 6 := by
    obtain ⟨_, _, _, _, _, z1⟩ := (q0.2 6 (cA, .object RX5) rfl).2
    obtain ⟨_, _, _, _, _, z2⟩ := (hK.1.2 5 _ rfl).2
    exact Option.some.inj (z1.symm.trans z2)
  subst hcA
  have hag := gup_ag ad (k, j, 0) q
  have hrow : (fun i => gro (gup ad (k, j, 0) q) (aR (snew S k j 0) k j i)) = fun _ => none := by
    funext i
    show gro _ (if _ then _ else _) = _
    rw [if_pos ⟨rfl, rfl⟩]
    rfl
  have z := h p e s m args below meth c QS hC hE H1 locs (gup ad (k, j, 0) q) lsr (by rw [hag.ls 0 hls]; exact hl) q3 (gRep_new hR hf rfl (fun r hr hne => gcell_new hR.2.2 (fun _ => rfl) hr hne) (by rw [gcell_Q hk (by rw [hT]; decide), hT, hrow]) (gOk_new hR.2.2 (fun _ => rfl)) q1 q2) (hA.tr (hag.mono (fun r hr => by rw [List.mem_singleton.mp hr]; exact hN)))
  rw [List.map_cons, hag.st hst] at z
  have e0 : gre (gup ad (k, j, 0) q) (vR k j 0) = .ref q := congrArg Value.ref (gup_at ad (k, j, 0) q)
  rw [e0] at z
  exact z
theorem g_gets {i idx : Nat} {C n : String} (hi : ∀ s H, gKS E s H → gZT E i C n s H) (hw : Cond.fieldLink M.1.cls idx C n "[I" ∈ lwG) (d : decode M.2.1 pc = .ok (.getstatic idx, 3)) (e : pc + 3 = pc') (h : gG E M B pc' ls (.inl (.ref (eA E i)) :: st) S cs sl) : gG E M B pc ls st S cs sl := by
  subst e
  intro p e s m args below meth c QS hC hE H locs ad lsr hl hS hR hA
  exact va_gets hC.1 hC.2.1 (hi _ _ hC.2.2.2.2.2.2.2.2.1).1 hS hC.2.2.2.2.1 (hC.2.2.2.2.2.2.2.1 _ hw) (fun _ h9 => h9) d (h p e s m args below meth c QS hC hE H locs ad lsr hl hS hR hA)
theorem g_tab {i n : Nat} {C nm : String} {x : Int32} (hi : ∀ s H, gKS E s H → gZT E i C nm s H) (d : decode M.2.1 pc = .ok (.iaload, 1)) (e : pc + 1 = pc') (hx : x = nI n) (hn : n < (gtab i).length) (hlt : (gtab i).length < 2 ^ 31) (h : gG E M B pc' ls (vI ((gtab i).getD n 0) :: st) S cs sl) : gG E M B pc ls (vI x :: .inl (.ref (eA E i)) :: st) S cs sl := by
  subst e
  intro p e s m args below meth c QS hC hE H locs ad lsr hl hS hR hA
  subst hx
  exact va_ti hC.1 hC.2.1 (hi _ _ hC.2.2.2.2.2.2.2.2.1).2 hS (vp_in_nI hn hlt) (by rw [nI_clamp (Nat.lt_trans hn hlt)]; rfl) d (h p e s m args below meth c QS hC hE H locs ad lsr hl hS hR hA)
theorem g_objInit {q : gId} {idx : Nat} (hw1 : Cond.methodLink M.1.cls idx objectInit ∈ lwG) (hw2 : Cond.instanceMethod objectInit ∈ lwG) (hw3 : Cond.code objectInit ⟨#[0xb1]⟩ 1 none ∈ lwG) (d : decode M.2.1 pc = .ok (.invokespecial idx, 3)) (e : pc + 3 = pc') (hf : 1 ≤ (bR B).frames) (hlo : (st.map gcat).sum + 12 ≤ (bR B).locals) (h : gG E M B pc' ls st S cs sl) : gG E M B pc ls (.inr q :: st) S cs sl := by
  subst e
  intro p e s m args below meth c QS hC hE H locs ad lsr hl hS hR hA
  have hts := hC.2.2.2.2.2.2.2.1
  have hsum : ((st.map (gre ad)).map fun v => v.category).sum = (st.map gcat).sum := by
    rw [List.map_map]; congr 1; exact List.map_congr_left fun v _ => gre_cat ad v
  refine W.objInit (a := gad ad q) hC.1 hC.2.1 hC.2.2.2.2.1 (hts _ hw1) (hts _ hw2) (hts _ hw3) rfl (by rw [hC.2.2.2.1]; exact hl.1) rfl d hf (by show 2 * 0 + _ + 12 ≤ _; rw [hsum]; omega) ?_
  exact h p e s m args below meth c QS hC hE H locs ad lsr hl hS hR hA
theorem g_castA {k j idx : Nat} (hk : ¬ k < 9) (hT : gaT k = 4) (hw : Cond.classLink M.1.cls idx "[J" ∈ lwG) (d : decode M.2.1 pc = .ok (.checkcast idx, 3)) (e : pc + 3 = pc') (hlv : lv S k j 0) (h : gG E M B pc' ls (vR k j 0 :: st) S cs sl) : gG E M B pc ls (vR k j 0 :: st) S cs sl := by
  subst e
  intro p e s m args below meth c QS hC hE H locs ad lsr hl hS hR hA
  obtain ⟨i0, h1, h2⟩ := gws_at (cy := eC E) (ad := ad) hlv
  rw [gcell_L hk hT] at h2
  have hnm : s.vm.findClass "[J" = some (eC E 4) := (hC.2.2.2.2.2.2.2.2.1.1.2 3 _ rfl).2
  exact va_castA (D := eD E) hC.1 hC.2.1 hC.2.2.2.2.1 (hC.2.2.2.2.2.2.2.1 _ hw) hR.1 i0 h2 hnm d (h p e s m args below meth c QS hC hE H locs ad lsr hl hS hR hA)
end GN
/-! calls -/
theorem gGood {ws : List Cond} (h : ∀ w ∈ ws, w ∈ lwG) : GoodIn lwG ws := fun w hw => ⟨h w hw, good_of_word (List.mem_filter.mp (h w hw)).2⟩
abbrev gpush (r : Option gV) (rest : List gV) : List gV := match r with
  | none => rest
  | some v => v :: rest
def gCV (own : String) (idx : Nat) (My : gM) (n : Nat) : Prop := Cond.methodLink own idx My.1 ∈ lwG ∧ Cond.instanceMethod My.1 ∈ lwG ∧ Cond.selects My.1.cls My.1 My.1 ∈ lwG ∧ Cond.initialized My.1.cls ∈ lwG ∧ Cond.code My.1 My.2.1 My.2.2.1 My.2.2.2 ∈ lwG ∧ My.1.cls ≠ "java/lang/invoke/MethodHandle" ∧ My.1.cls ≠ "java/lang/invoke/VarHandle" ∧ (parseMethodDescriptor My.1.desc).map (fun d => d.parameters.length) = some n
def gCS (own : String) (idx : Nat) (My : gM) (n : Nat) : Prop := Cond.methodLink own idx My.1 ∈ lwG ∧ Cond.static My.1 ∈ lwG ∧ Cond.initialized My.1.cls ∈ lwG ∧ Cond.code My.1 My.2.1 My.2.2.1 My.2.2.2 ∈ lwG ∧ My.1.cls ≠ "java/lang/invoke/MethodHandle" ∧ My.1.cls ≠ "java/lang/invoke/VarHandle" ∧ (parseMethodDescriptor My.1.desc).map (fun d => d.parameters.length) = some n
def gCI (own : String) (idx : Nat) (My : gM) (n : Nat) : Prop := (Cond.methodLink own idx My.1 ∈ lwG ∨ ∃ host, Cond.methodLinkNest own idx My.1 host ∈ lwN) ∧ Cond.instanceMethod My.1 ∈ lwG ∧ My.1.name = "<init>" ∧ My.2.2.2 = none ∧ Cond.initialized My.1.cls ∈ lwG ∧ Cond.code My.1 My.2.1 My.2.2.1 My.2.2.2 ∈ lwG ∧ My.1.cls ≠ "java/lang/invoke/MethodHandle" ∧ My.1.cls ≠ "java/lang/invoke/VarHandle" ∧ (parseMethodDescriptor My.1.desc).map (fun d => d.parameters.length) = some n
section GCALL
variable {E : gE} {M : gM} {B : gB} {pc pc' : Nat} {ls : List (Option gV)} {rest : List gV} {S : gS} {cs sl : Nat}
/-- behind a call -/
theorem g_back {My : gM} {d mc ms : Nat} {as : List gV} {Nw : List gId} {st : List gV} (e : pc + 3 = pc') (hls : ∀ v, some v ∈ ls → gNo Nw v) (hst : ∀ v ∈ rest, gNo Nw v) (hNw : ∀ q ∈ Nw, q ∈ bN B)
    (hr : ∀ (p : Program) (e : Env) (s : State) (m : MethodId) (args : Array Value) (below : List Frame) (meth : Method) (c : Code), gCx E M B p s m args meth c → ∀ (H : Heap) (locs : List Loc) (ad : gAd) (lsr : Array Slot), lv_has lsr M.2.2.1 (glo ad 0 ls) → va_S (eF E) s.heap H locs → gRep E S ad H →
      va_Run p E.1 e (bR B) s m args below meth c H locs cs sl mc ms (F0 m pc lsr (st.map (gre ad))) (rest.map (gre ad)) (gQc E ad Nw (fun r S' => gG E M B pc' ls (gpush r rest) S' (cs + mc) (sl + ms)) (as.map (gre ad)).toArray) (eF E)) : gG E M B pc ls st S cs sl := by
  subst e
  intro p e s m args below meth c QS hC hE H locs ad lsr hl hS hR hA T hT X
  obtain ⟨v, st₀, t, T', L, h0, X', hL, e1, e2, ⟨⟨r, S', ad', hv, hq, hrep, hag⟩, hz, hk⟩, stp⟩ := hr p e s m args below meth c hC H locs ad lsr hl hS hR T hT X
  have hv : v = r.map (gre ad') := Outcome.returned.inj hv
  subst hv
  rw [h0] at hz hk
  have hS' : va_S (eF E) s.heap T'.heap (locs ++ L) := ⟨Nat.le_trans hS.1 (by rw [e1]; exact hz), fun q h1 h2 => by rw [e1, hk q (Nat.lt_of_lt_of_le h1 hS.1) h2]; exact hS.2.1 q h1 h2, fun q hq => by
    rcases List.mem_append.mp hq with h | h
    · exact hS.2.2 q h
    · exact hL q h⟩
  obtain ⟨t2, a1, b1⟩ := hq p e s m args below meth c QS hC hE T'.heap (locs ++ L) ad' lsr (by rw [hag.ls 0 hls]; exact hl) hS' (by rw [e1]; exact hrep) (hA.tr (hag.mono hNw)) T' rfl X'
  refine ⟨t2, stp t2 ?_, b1⟩
  have z : (gpush r rest).map (gre ad') = (r.map (gre ad')).toList ++ rest.map (gre ad) := by
    rw [← hag.st hst]
    cases r <;> rfl
  rw [z] at a1
  exact a1
theorem gPre {s : State} {m : MethodId} {args : Array Value} {meth : Method} {c : Code} {p : Program} (hC : gCx E M B p s m args meth c) {H : Heap} {locs : List Loc} {ad : gAd} (hS : va_S (eF E) s.heap H locs) (hR : gRep E S ad H) {as : List gV} : ∀ U : State, U.heap = H → s.WarmedH U.vm → gPc E as S ad (as.map (gre ad)).toArray U := by
  intro U hU hW
  refine ⟨rfl, by rw [hU]; exact hR, ?_⟩
  rw [hU]
  exact hC.2.2.2.2.2.2.2.2.1.go hW hS.1 (fun a h1 h2 => hS.2.1 a h1 h2)
theorem gsum {ad : gAd} {st : List gV} : ((st.map (gre ad)).map fun v => v.category).sum = (st.map gcat).sum := by
  rw [List.map_map]; congr 1; exact List.map_congr_left fun v _ => gre_cat ad v
theorem g_callV {My : gM} {d mc ms n idx : Nat} {as : List gV} {q : gId} {Nw : List gId} {st : List gV} {T : u_T} {N : Nat} {ty : Nat → FieldType} (cw : gCV M.1.cls idx My n) (cf : gCF q.1 My.1.cls T N ty) (hd : decode M.2.1 pc = .ok (.invokevirtual idx, 3)) (e : pc + 3 = pc') (hst0 : st = as.reverse ++ .inr q :: rest) (hn : as.length = n) (hlv : q ∈ gL S) (hR : d + 1 ≤ (bR B).frames) (hR2 : 8 + (My.2.2.1 + 11) + 28 * d ≤ (bR B).locals) (hrest : (rest.map gcat).sum ≤ 8) (hls : ∀ v, some v ∈ ls → gNo Nw v) (hst : ∀ v ∈ rest, gNo Nw v) (hNw : ∀ q ∈ Nw, q ∈ bN B) (hc : cs + mc ≤ bC B) (hs : sl + ms ≤ bS B)
    (hrun : gRun E My d mc ms (.inr q :: as) S Nw (fun r S' => gG E M B pc' ls (gpush r rest) S' (cs + mc) (sl + ms))) : gG E M B pc ls st S cs sl := by
  subst hst0
  refine g_back (My := My) (d := d) (mc := mc) (ms := ms) (as := .inr q :: as) e hls hst hNw (fun p e s m args below meth c hC H locs ad lsr hl hS hR0 => ?_)
  obtain ⟨w1, w2, w3, w4, w5, w6, w7, w8⟩ := cw
  obtain ⟨i0, h1, h2⟩ := gws_at (cy := eC E) (ad := ad) hlv
  obtain ⟨c0, c1, -⟩ := cf
  have h2 : (gws (eC E) S ad)[i0]? = some (gad ad q, .inr (q.1, gcO S ad q.1 q.2.1 q.2.2)) := by rw [h2]; exact congrArg (fun z => some (gad ad q, z)) (gcell_O c0)
  exact va_runV (As := as.map (gre ad)) (b := gad ad q) (C := My.1.cls) (index := idx) (bytes := My.2.1) (maxL := My.2.2.1) (ret := My.2.2.2) (n := n) ⟨hC.1, hC.2.1, hC.2.2.2.1, hC.2.2.2.2.1, hC.2.2.2.2.2.2.2.1⟩ (hrun ad)
    (cwV n hC.2.2.2.2.2.2.2.1 (gGood (fun w hw => by
      rcases List.mem_append.mp hw with hw | hw
      · simp only [List.mem_cons, List.not_mem_nil, or_false] at hw
        rcases hw with rfl | rfl | rfl | rfl
        · exact w1
        · exact w2
        · exact w3
        · exact w4
      · rcases List.mem_cons.mp hw with rfl | hw
        · exact w5
        · exact hw)) rfl rfl rfl ⟨rfl, w6, w7, w8⟩ ⟨hR, hR2⟩)
    ⟨gPc_blind _ _ _ _, va_recv (D := eD E) hC.2.2.2.2.2.2.2.2.1.1 hR0.1 c1 h2, gPre hC hS hR0⟩ rfl (by rw [List.length_map]; exact hn) hl.1 (by show (as.reverse ++ .inr q :: rest).map (gre ad) = _; rw [List.map_append, List.map_reverse]; rfl) (by show 2 * 0 + _ ≤ 8; rw [gsum]; omega) hd ⟨Nat.le_trans hc hC.2.2.2.2.2.2.2.2.2.1, Nat.le_trans hs hC.2.2.2.2.2.2.2.2.2.2⟩
theorem g_callS {My : gM} {d mc ms n idx : Nat} {as : List gV} {Nw : List gId} {st : List gV} (cw : gCS M.1.cls idx My n) (hd : decode M.2.1 pc = .ok (.invokestatic idx, 3)) (e : pc + 3 = pc') (hst0 : st = as.reverse ++ rest) (hn : as.length = n) (hR : d + 1 ≤ (bR B).frames) (hR2 : 8 + (My.2.2.1 + 11) + 28 * d ≤ (bR B).locals) (hrest : (rest.map gcat).sum ≤ 8) (hls : ∀ v, some v ∈ ls → gNo Nw v) (hst : ∀ v ∈ rest, gNo Nw v) (hNw : ∀ q ∈ Nw, q ∈ bN B) (hc : cs + mc ≤ bC B) (hs : sl + ms ≤ bS B)
    (hrun : gRun E My d mc ms as S Nw (fun r S' => gG E M B pc' ls (gpush r rest) S' (cs + mc) (sl + ms))) : gG E M B pc ls st S cs sl := by
  subst hst0
  refine g_back (My := My) (d := d) (mc := mc) (ms := ms) (as := as) e hls hst hNw (fun p e s m args below meth c hC H locs ad lsr hl hS hR0 => ?_)
  obtain ⟨w1, w2, w4, w5, w6, w7, w8⟩ := cw
  exact va_runS (As := as.map (gre ad)) (index := idx) (bytes := My.2.1) (maxL := My.2.2.1) (ret := My.2.2.2) (n := n) ⟨hC.1, hC.2.1, hC.2.2.2.1, hC.2.2.2.2.1, hC.2.2.2.2.2.2.2.1⟩ (hrun ad)
    (va_cwS n hC.2.2.2.2.2.2.2.1 (gGood (fun w hw => by
      rcases List.mem_append.mp hw with hw | hw
      · simp only [List.mem_cons, List.not_mem_nil, or_false] at hw
        rcases hw with rfl | rfl | rfl
        · exact w1
        · exact w2
        · exact w4
      · rcases List.mem_cons.mp hw with rfl | hw
        · exact w5
        · exact hw)) rfl rfl rfl ⟨w6, w7, w8⟩ ⟨hR, hR2⟩)
    ⟨gPc_blind _ _ _ _, gPre hC hS hR0⟩ rfl (by rw [List.length_map]; exact hn) hl.1 (by show (as.reverse ++ rest).map (gre ad) = _; rw [List.map_append, List.map_reverse]) (by show 2 * 0 + _ ≤ 8; rw [gsum]; omega) hd ⟨Nat.le_trans hc hC.2.2.2.2.2.2.2.2.2.1, Nat.le_trans hs hC.2.2.2.2.2.2.2.2.2.2⟩
theorem g_callI {My : gM} {d mc ms n idx : Nat} {as : List gV} {q : gId} {Nw : List gId} {st : List gV} (cw : gCI M.1.cls idx My n) (hd : decode M.2.1 pc = .ok (.invokespecial idx, 3)) (e : pc + 3 = pc') (hst0 : st = as.reverse ++ .inr q :: rest) (hn : as.length = n) (hR : d + 1 ≤ (bR B).frames) (hR2 : 8 + (My.2.2.1 + 11) + 28 * d ≤ (bR B).locals) (hrest : (rest.map gcat).sum ≤ 8) (hls : ∀ v, some v ∈ ls → gNo Nw v) (hst : ∀ v ∈ rest, gNo Nw v) (hNw : ∀ q ∈ Nw, q ∈ bN B) (hc : cs + mc ≤ bC B) (hs : sl + ms ≤ bS B)
    (hrun : gRun E My d mc ms (.inr q :: as) S Nw (fun r S' => gG E M B pc' ls (gpush r rest) S' (cs + mc) (sl + ms))) : gG E M B pc ls st S cs sl := by
  subst hst0
  refine g_back (My := My) (d := d) (mc := mc) (ms := ms) (as := .inr q :: as) e hls hst hNw (fun p e s m args below meth c hC H locs ad lsr hl hS hR0 => ?_)
  obtain ⟨w1, w2, w3, w9, w4, w5, w6, w7, w8⟩ := cw
  have hg : GoodIn lwG (gMws My) := gGood (fun w hw => by
    rcases List.mem_cons.mp hw with rfl | hw
    · exact w5
    · exact hw)
  have hts := hC.2.2.2.2.2.2.2.1
  rcases w1 with w1 | ⟨host, w1⟩
  · exact va_runI (As := as.map (gre ad)) (b := gad ad q) (index := idx) (bytes := My.2.1) (maxL := My.2.2.1) (n := n) ⟨hC.1, hC.2.1, hC.2.2.2.1, hC.2.2.2.2.1, hts⟩ (hrun ad)
      (cwI n hts hg (by rw [← w9]; rfl) rfl rfl (hts _ w4) (hts _ w1) (hts _ w2) w3 ⟨w6, w7, w8⟩ ⟨hR, hR2⟩)
      ⟨gPc_blind _ _ _ _, gPre hC hS hR0⟩ rfl (by rw [List.length_map]; exact hn) hl.1 (by show (as.reverse ++ .inr q :: rest).map (gre ad) = _; rw [List.map_append, List.map_reverse]; rfl) (by show 2 * 0 + _ ≤ 8; rw [gsum]; omega) hd ⟨Nat.le_trans hc hC.2.2.2.2.2.2.2.2.2.1, Nat.le_trans hs hC.2.2.2.2.2.2.2.2.2.2⟩
  · exact va_runIN (As := as.map (gre ad)) (b := gad ad q) (index := idx) (bytes := My.2.1) (maxL := My.2.2.1) (n := n) ⟨hC.1, hC.2.1, hC.2.2.2.1, hC.2.2.2.2.1, hts⟩ (hrun ad)
      ⟨va_cnB n hts hg (by rw [← w9]; rfl) rfl rfl (hC.2.2.2.2.2.2.2.2.1.2.2.2.2.1 _ w1) (hts _ w4) ⟨w6, w7, w8⟩ ⟨hR, hR2⟩, w3, hts _ w2⟩
      ⟨gPc_blind _ _ _ _, gPre hC hS hR0⟩ rfl (by rw [List.length_map]; exact hn) hl.1 (by show (as.reverse ++ .inr q :: rest).map (gre ad) = _; rw [List.map_append, List.map_reverse]; rfl) (by show 2 * 0 + _ ≤ 8; rw [gsum]; omega) hd ⟨Nat.le_trans hc hC.2.2.2.2.2.2.2.2.2.1, Nat.le_trans hs hC.2.2.2.2.2.2.2.2.2.2⟩
end GCALL
