/-! OUR OWN FRAME (6): the clone of a row of longs -/
def scl (S : gS) (k0 j0 k j : Nat) : gS := ((snew S k j 0).1, (snew S k j 0).2.1, (snew S k j 0).2.2.1, fun k' j' i => if k' = k ∧ j' = j then aL S k0 j0 i else aL S k' j' i, (snew S k j 0).2.2.2.2)
theorem g_clone {E : gE} {M : gM} {B : gB} {pc pc' : Nat} {ls : List (Option gV)} {st : List gV} {S : gS} {cs sl k0 j0 k j : Nat} (hM : M.1.cls = RX1) (dd : decode M.2.1 pc = .ok (.invokevirtual 9, 3)) (e : pc + 3 = pc') (hk0 : ¬ k0 < 9) (hT0 : gaT k0 = 4) (hk : ¬ k < 9) (hT : gaT k = 4) (hNN : gaN k0 = gaN k) (hlv : lv S k0 j0 0) (hf : (k, j, 0) ∉ gL S) (hN : (k, j, 0) ∈ bN B) (hls : ∀ v, some v ∈ ls → gNo [(k, j, 0)] v) (hst : ∀ v ∈ st, gNo [(k, j, 0)] v) (hfr : 1 ≤ (bR B).frames) (hlo : (st.map gcat).sum + 14 ≤ (bR B).locals) (hc : cs + 1 ≤ bC B) (hs : sl + gaN k ≤ bS B) (h : gG E M B pc' ls (vR k j 0 :: st) (scl S k0 j0 k j) (cs + 1) (sl + gaN k)) : gG E M B pc ls (vR k0 j0 0 :: st) S cs sl := by
  subst e
  intro p e s m args below meth c QS hC hE H locs ad lsr hl hS hR hA
  have hts := hC.2.2.2.2.2.2.2.1
  have hK := hC.2.2.2.2.2.2.2.2.1
  have hown := hC.2.2.2.2.1
  rw [hM] at hown
  obtain ⟨i0, h1, h2⟩ := gws_at (cy := eC E) (ad := ad) hlv
  rw [gcell_L hk0 hT0, hNN] at h2
  have hnm : s.vm.findClass "[J" = some (eC E 4) := (hK.1.2 3 _ rfl).2
  refine va_clone (D := eD E) (ad := "[J") hC.1 hC.2.1 (hC.2.2.2.1.trans hl.1.symm) hown (hts _ (mG 387 (by decide +kernel) (by decide +kernel))) (hts _ (mG 388 (by decide +kernel) (by decide +kernel))) (hts _ (mG 389 (by decide +kernel) (by decide +kernel))) (hts _ (mG 390 (by decide +kernel) (by decide +kernel))) (hts _ (mG 391 (by decide +kernel) (by decide +kernel))) (hK.2.2.2.2.1 _ (mN 392 (by decide +kernel) (by decide +kernel))) hK.1 hR.1 hR.2.1 hS (fun q hq => Nat.le_trans hK.2.2.2.2.2.2 hq) i0 3 h2 rfl hnm (fun i v hv => ?_) hfr (by rw [gsum]; exact hlo) (Nat.le_trans hc hC.2.2.2.2.2.2.2.2.2.1) (Nat.le_trans hs hC.2.2.2.2.2.2.2.2.2.2) dd (fun q H1 _ q1 q2 q3 => ?_)
  · have hv : (arrV (eC E 4) (gaN k) (fun j9 => .long (aL S k0 j0 j9))).slots[i]? = some v := hv
    rcases Nat.lt_or_ge i (gaN k) with hi | hi
    · rw [arrV_read _ _ hi] at hv
      cases hv
      rfl
    · rw [Array.getElem?_eq_none (by rw [arrV_size]; exact hi)] at hv
      cases hv
  have hag := gup_ag ad (k, j, 0) q
  have hrow : aL (scl S k0 j0 k j) k j = aL S k0 j0 := by funext i; exact if_pos ⟨rfl, rfl⟩
  have z := h p e s m args below meth c QS hC hE H1 locs (gup ad (k, j, 0) q) lsr (by rw [hag.ls 0 hls]; exact hl) q3 (gRep_new hR hf rfl (fun r hr hne => (gcell_a (S := snew S k j 0) (S' := scl S k0 j0 k j) (k := k) (j := j) (fun h9 z => hne (by have := hR.2.2.1 r hr h9; obtain ⟨a1, a2, a3⟩ := r; obtain ⟨z1, z2⟩ := z; simp only at z1 z2 this; rw [z1, z2, this])) (fun _ _ _ => rfl) (fun k' j' z => ⟨rfl, by funext i; exact (if_neg z).trans (if_neg z).symm, rfl⟩)).trans (gcell_new hR.2.2 (fun _ => rfl) hr hne)) (by rw [gcell_L hk hT, hrow]) (gOk_new hR.2.2 (fun _ => rfl)) q1 q2) (hA.tr (hag.mono (fun r hr => by rw [List.mem_singleton.mp hr]; exact hN)))
  rw [List.map_cons, hag.st hst] at z
  have e0 : gre (gup ad (k, j, 0) q) (vR k j 0) = .ref q := congrArg Value.ref (gup_at ad (k, j, 0) q)
  rw [e0] at z
  exact z
