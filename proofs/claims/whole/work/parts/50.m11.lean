/-! THE MODEL (11): its public methods but type, job and task -/
def RT (C S : gS) : Prop := fI S 261 0 0 = fI C 193 0 0 ∧ ∀ i, i < xl C → aI S 20 0 i = aI C 10 0 i
def Rel (C S : gS) : Prop := R0 C S ∧ (∀ j, j < jn C → RX C S j) ∧ RT C S
/-- what every method of the model keeps -/
def pK (T T' : gS) : Prop := gL T' = gL T ∧ fR T' = fR T ∧ aR T' = aR T ∧ aL T' = aL T ∧ (∀ g j t, g < 256 → fI T' g j t = fI T g j t) ∧ ∀ k, k < 20 → aI T' k = aI T k
theorem pK.rf {T : gS} : pK T T := ⟨rfl, rfl, rfl, rfl, fun _ _ _ _ => rfl, fun _ _ => rfl⟩
theorem pK.tr {S S1 S2 : gS} (h : pK S S1) (h2 : pK S1 S2) : pK S S2 := by
  obtain ⟨a1, a2, a3, a4, a5, a6⟩ := h
  obtain ⟨b1, b2, b3, b4, b5, b6⟩ := h2
  exact ⟨b1.trans a1, b2.trans a2, b3.trans a3, b4.trans a4, fun g j t hg => (b5 g j t hg).trans (a5 g j t hg), fun k hk => (b6 k hk).trans (a6 k hk)⟩
theorem pK_sfI {S : gS} {g j t : Nat} {v : Int32} (hg : 256 ≤ g) : pK S (sfI S g j t v) := ⟨rfl, rfl, rfl, rfl, fun g' j' t' h => fI_ne (by omega), fun _ _ => rfl⟩
theorem pK_saI {S : gS} {k j i : Nat} {v : Int32} (hk : 20 ≤ k) : pK S (saI S k j i v) := ⟨rfl, rfl, rfl, rfl, fun _ _ _ _ => rfl, fun k' h => by
  funext j' i'
  exact if_neg (fun z => by omega)⟩
theorem mK2.pk {S S' : gS} (h : mK2 S S') : pK S S' := ⟨h.1, h.2.1, h.2.2.1, h.2.2.2.1, fun g j t hg => h.2.2.2.2.1 g j t (by
  simp only [mkF, List.contains_eq_mem, List.mem_cons, List.not_mem_nil, or_false, decide_eq_false_iff_not]
  omega), fun k hk => h.2.2.2.2.2 k (by
  simp only [mkB, List.contains_eq_mem, List.mem_cons, List.not_mem_nil, or_false, decide_eq_false_iff_not]
  omega)⟩
theorem ModS.pk {S S' : gS} (h : ModS S) (k : pK S S') : ModS S' := h.of k.1 k.2.1
theorem RX.keep2 {C C' S S' : gS} {j : Nat} (h : RX C S j) (k : tKeep d2 C C') (m : mK2 S S') : RX C' S' j := h.of (by rw [k.2.2.2.1]) (k.2.2.2.2.1 33 j 0 rfl) (fun i => by rw [m.2.2.2.2.2 21 rfl]) (fun i => by rw [m.2.2.2.2.2 22 rfl])
theorem RT.keep2 {C C' S S' : gS} (h : RT C S) (k : tKeep d2 C C') (m : mK2 S S') : RT C' S' := by
  have e : xl C' = xl C := by unfold xl; rw [k.2.2.2.2.1 193 0 0 rfl]
  unfold RT
  rw [m.2.2.2.2.1 261 0 0 rfl, k.2.2.2.2.1 193 0 0 rfl, m.2.2.2.2.2 20 rfl, k.2.2.2.2.2 10 (by decide), e]
  exact h
theorem Rel.run {C C' S S' : gS} (h : Rel C S) (k : tKeep d2 C C') (m : mK2 S S') (r : R0 C' S') : Rel C' S' := ⟨r, fun j hj => (h.2.1 j (by rw [tKeep_jn k] at hj; exact hj)).keep2 k m, h.2.2.keep2 k m⟩
/-- the desk's own numbers -/
theorem R0.rn {C C' S S' : gS} (h : R0 C S) (hn : RN C' S') (e : fI C' 228 0 0 = fI C 228 0 0) (f : ∀ g x y, g < 224 → fI C' g x y = fI C g x y) (g : aI C' 13 = aI C 13) (a : fI S' 279 0 0 = fI S 279 0 0) (b : aI S' = aI S) : R0 C' S' := by
  have ej : jn C' = jn C := by unfold jn; rw [e]
  have ec : ∀ j, jc C' j = jc C j := fun j => by unfold jc; rw [f 67 j 0 (by decide)]
  refine ⟨hn, h.2.1.of (f 97 0 0 (by decide)) g a (by rw [b]), h.2.2.1.same ej (fun q x y h8 _ => f q x y (by omega)) (fun k i _ _ => by rw [b]), ?_⟩
  obtain ⟨b1, b2, b3⟩ := h.2.2.2
  exact ⟨by rw [e, ej]; exact b1, by rw [ej]; exact b2, fun j hj => by
    rw [ej] at hj
    rw [ec, f 67 j 0 (by decide)]
    exact b3 j hj⟩
theorem Rel.rn {C C' S S' : gS} (h : Rel C S) (hn : RN C' S') (e : fI C' 228 0 0 = fI C 228 0 0) (f : ∀ g x y, g < 224 → fI C' g x y = fI C g x y) (g : aI C' = aI C) (g2 : aL C' = aL C) (a : fI S' 279 0 0 = fI S 279 0 0) (a2 : fI S' 261 0 0 = fI S 261 0 0) (b : aI S' = aI S) : Rel C' S' := by
  have ej : jn C' = jn C := by unfold jn; rw [e]
  have ex : xl C' = xl C := by unfold xl; rw [f 193 0 0 (by decide)]
  refine ⟨h.1.rn hn e f (by rw [g]) a b, fun j hj => (h.2.1 j (by rw [ej] at hj; exact hj)).of (by rw [g2]) (f 33 j 0 (by decide)) (fun i => by rw [b]) (fun i => by rw [b]), ?_⟩
  unfold RT
  rw [a2, f 193 0 0 (by decide), b, g, ex]
  exact h.2.2
theorem Rel.code {C S : gS} {v : Int32} (h : Rel C S) : Rel C (sfI S 256 0 0 v) := h.rn h.1.1 rfl (fun _ _ _ _ => rfl) rfl rfl rfl rfl rfl
theorem Rel.turn {C S : gS} {w : Nat} (h : Rel C S) : Rel (tTurn C w) S := ⟨h.1.turn, fun j hj => (h.2.1 j hj).of rfl (tTurn_f (by decide)) (fun _ => rfl) (fun _ => rfl), h.2.2⟩
theorem Rel.hs {C S : gS} {j m : Nat} (h : Rel C S) : Rel (tHS C j m) S := by
  unfold tHS
  split
  · exact h.turn
  · exact h
theorem Rel.dk {C S S' : gS} (h : Rel C S) (k : dK S S') : Rel C S' := by
  have ei : aI S' = aI S := congrArg (fun z => z.2.1) k.rest
  refine ⟨h.1.dk k, fun j hj => (h.2.1 j hj).of rfl rfl (fun i => by rw [ei]) (fun i => by rw [ei]), ?_⟩
  unfold RT
  rw [ei, k.fI ⟨by decide, by decide, by decide⟩]
  exact h.2.2
theorem pK_dk {S S' : gS} (k : dK S S') : pK S S' := (mK_dK k).to2.pk
/-- the model's answer for an outcome: its code, its value -/
def aM (tb : List Nat) (r : Option gV) (code v : Int32) : Prop := (∃ x, r = some (vI x) ∧ code = 0 ∧ v = x) ∨ ∃ n i, r = thr n ∧ i < 3 ∧ tb[i]? = some n ∧ code = nI (i + 1)
theorem aM_v {tb : List Nat} {x : Int32} : aM tb (some (vI x)) 0 x := Or.inl ⟨x, rfl, rfl, rfl⟩
theorem aM_t {tb : List Nat} {n i : Nat} {v : Int32} (hi : i < 3) (h : tb[i]? = some n) : aM tb (thr n) (nI (i + 1)) v := Or.inr ⟨n, i, rfl, hi, h, rfl⟩
set_option maxRecDepth 100000 in
set_option maxHeartbeats 2000000 in
theorem kX8_thrown {E : gE} {S : gS} {Q : Option gV → gS → Prop} (hl : lv S 8 0 0) (hQ : Q (some (vI (fI S 256 0 0))) S) : gRun E mX8_thrown 1 0 0 [vR 8 0 0] S [] Q := by
  refine gRun_of (ls := [some (vR 8 0 0)]) rfl (Nat.le_of_ble_eq_true rfl) rfl (fun ad => ?_)
  refine g_aload_n (pc' := 1) dX8_thrown_0 rfl rfl ?_
  refine ggX8_66 (pc' := 4) rfl dX8_thrown_1 rfl hl ?_
  refine g_iret dX8_thrown_4 rfl rfl (Nat.le_of_ble_eq_true rfl) (Nat.le_of_ble_eq_true rfl) ?_
  exact hQ

set_option maxRecDepth 100000 in
set_option maxHeartbeats 2000000 in
theorem kX8_now {E : gE} {S : gS} {C : gS} {Q : Option gV → gS → Prop} (hM : ModS S) (hR : Rel C S) (hQ : ∀ T', Rel C T' → pK S T' → Q (some (vI (fI C 231 0 0))) T') : gRun E mX8_now 1 0 0 [vR 8 0 0] S [] Q := by
  refine gRun_of (ls := [some (vR 8 0 0)]) rfl (Nat.le_of_ble_eq_true rfl) rfl (fun ad => ?_)
  obtain ⟨l8, l20, l21, l22, l23, l24, l25, l26, l27, l28, l29, l30, l31, l32, l33, l34, l35, r262, r265, r266, r267, r268, r269, r270, r271, r272, r273, r274, r275, r276, r277, r278, r280⟩ := id hM
  refine g_aload_n (pc' := 1) dX8_now_0 rfl rfl ?_
  refine g_iconst (pc' := 2) (v := 0) dX8_now_1 rfl rfl ?_
  refine gpX8_66 (pc' := 5) rfl dX8_now_2 rfl l8 ?_
  refine g_aload_n (pc' := 6) dX8_now_5 rfl rfl ?_
  refine ggX8_173 (pc' := 9) rfl dX8_now_6 rfl l8 ?_
  refine g_iret dX8_now_9 rfl rfl (Nat.le_of_ble_eq_true rfl) (Nat.le_of_ble_eq_true rfl) ?_
  exact gq (hQ _ hR.code (pK_sfI (by decide))) hR.1.1.2.1.symm

set_option maxRecDepth 100000 in
set_option maxHeartbeats 2000000 in
theorem kX8_fault {E : gE} {S : gS} {C : gS} {Q : Option gV → gS → Prop} (hM : ModS S) (hR : Rel C S) (hQ : ∀ T', Rel C T' → pK S T' → Q (some (vI (fI C 229 0 0))) T') : gRun E mX8_fault 1 0 0 [vR 8 0 0] S [] Q := by
  refine gRun_of (ls := [some (vR 8 0 0)]) rfl (Nat.le_of_ble_eq_true rfl) rfl (fun ad => ?_)
  obtain ⟨l8, l20, l21, l22, l23, l24, l25, l26, l27, l28, l29, l30, l31, l32, l33, l34, l35, r262, r265, r266, r267, r268, r269, r270, r271, r272, r273, r274, r275, r276, r277, r278, r280⟩ := id hM
  refine g_aload_n (pc' := 1) dX8_fault_0 rfl rfl ?_
  refine g_iconst (pc' := 2) (v := 0) dX8_fault_1 rfl rfl ?_
  refine gpX8_66 (pc' := 5) rfl dX8_fault_2 rfl l8 ?_
  refine g_aload_n (pc' := 6) dX8_fault_5 rfl rfl ?_
  refine ggX8_17 (pc' := 9) rfl dX8_fault_6 rfl l8 ?_
  refine g_iret dX8_fault_9 rfl rfl (Nat.le_of_ble_eq_true rfl) (Nat.le_of_ble_eq_true rfl) ?_
  exact gq (hQ _ hR.code (pK_sfI (by decide))) hR.1.1.2.2.2.2.2.symm

set_option maxRecDepth 100000 in
set_option maxHeartbeats 2000000 in
theorem kX8_entries {E : gE} {S : gS} {C : gS} {Q : Option gV → gS → Prop} (hM : ModS S) (hR : Rel C S) (hQ : ∀ T', Rel C T' → pK S T' → Q (some (vI (fI C 97 0 0))) T') : gRun E mX8_entries 1 0 0 [vR 8 0 0] S [] Q := by
  refine gRun_of (ls := [some (vR 8 0 0)]) rfl (Nat.le_of_ble_eq_true rfl) rfl (fun ad => ?_)
  obtain ⟨l8, l20, l21, l22, l23, l24, l25, l26, l27, l28, l29, l30, l31, l32, l33, l34, l35, r262, r265, r266, r267, r268, r269, r270, r271, r272, r273, r274, r275, r276, r277, r278, r280⟩ := id hM
  refine g_aload_n (pc' := 1) dX8_entries_0 rfl rfl ?_
  refine g_iconst (pc' := 2) (v := 0) dX8_entries_1 rfl rfl ?_
  refine gpX8_66 (pc' := 5) rfl dX8_entries_2 rfl l8 ?_
  refine g_aload_n (pc' := 6) dX8_entries_5 rfl rfl ?_
  refine ggX8_170 (pc' := 9) rfl dX8_entries_6 rfl l8 ?_
  refine g_iret dX8_entries_9 rfl rfl (Nat.le_of_ble_eq_true rfl) (Nat.le_of_ble_eq_true rfl) ?_
  exact gq (hQ _ hR.code (pK_sfI (by decide))) hR.1.2.1.2.1.symm

set_option maxRecDepth 100000 in
set_option maxHeartbeats 2000000 in
theorem kX8_erase {E : gE} {S : gS} {C : gS} {Q : Option gV → gS → Prop} (hM : ModS S) (hR : Rel C S) (hQ : ∀ T', Rel (sfI C 193 0 0 0) T' → pK S T' → Q none T') : gRun E mX8_erase 1 0 0 [vR 8 0 0] S [] Q := by
  refine gRun_of (ls := [some (vR 8 0 0)]) rfl (Nat.le_of_ble_eq_true rfl) rfl (fun ad => ?_)
  obtain ⟨l8, l20, l21, l22, l23, l24, l25, l26, l27, l28, l29, l30, l31, l32, l33, l34, l35, r262, r265, r266, r267, r268, r269, r270, r271, r272, r273, r274, r275, r276, r277, r278, r280⟩ := id hM
  refine g_aload_n (pc' := 1) dX8_erase_0 rfl rfl ?_
  refine g_iconst (pc' := 2) (v := 0) dX8_erase_1 rfl rfl ?_
  refine gpX8_66 (pc' := 5) rfl dX8_erase_2 rfl l8 ?_
  refine g_aload_n (pc' := 6) dX8_erase_5 rfl rfl ?_
  refine g_iconst (pc' := 7) (v := 0) dX8_erase_6 rfl rfl ?_
  refine gpX8_71 (pc' := 10) rfl dX8_erase_7 rfl l8 ?_
  refine g_vret dX8_erase_10 rfl (Nat.le_of_ble_eq_true rfl) (Nat.le_of_ble_eq_true rfl) ?_
  refine hQ _ ?_ ((pK_sfI (by decide)).tr (pK_sfI (by decide)))
  have h0 : xl (sfI C 193 0 0 0) = 0 := rfl
  refine ⟨⟨hR.1.1, hR.1.2.1, hR.1.2.2.1.same rfl (fun g j t h8 _ => fI_ne (by omega)) (fun _ _ _ _ => rfl), hR.1.2.2.2⟩, fun j hj => (hR.2.1 j hj).of rfl (fI_ne (by decide)) (fun _ => rfl) (fun _ => rfl), fI_at.trans fI_at.symm, fun i hi => absurd hi (by rw [h0]; exact Nat.not_lt_zero _)⟩

set_option maxRecDepth 100000 in
set_option maxHeartbeats 2000000 in
theorem kX8_slots {E : gE} {S : gS} {C : gS} {n : Int32} {Q : Option gV → gS → Prop} (hM : ModS S) (hR : Rel C S) (hQ : ∀ T', Rel (oSlots C n).2 T' → pK S T' → Q (some (vI (oSlots C n).1)) T') : gRun E mX8_slots 1 0 0 [vR 8 0 0, vI n] S [] Q := by
  refine gRun_of (ls := [some (vR 8 0 0), some (vI n)]) rfl (Nat.le_of_ble_eq_true rfl) rfl (fun ad => ?_)
  obtain ⟨l8, l20, l21, l22, l23, l24, l25, l26, l27, l28, l29, l30, l31, l32, l33, l34, l35, r262, r265, r266, r267, r268, r269, r270, r271, r272, r273, r274, r275, r276, r277, r278, r280⟩ := id hM
  refine g_aload_n (pc' := 1) dX8_slots_0 rfl rfl ?_
  refine g_iconst (pc' := 2) (v := 0) dX8_slots_1 rfl rfl ?_
  refine gpX8_66 (pc' := 5) rfl dX8_slots_2 rfl l8 ?_
  refine g_iload_n (pc' := 6) dX8_slots_5 rfl rfl ?_
  refine g_iconst (pc' := 7) (v := 1) dX8_slots_6 rfl rfl ?_
  refine g_icmp_lt dX8_slots_7 (tg := 16) (pc' := 10) (by decide) rfl (fun h7 => ?_) (fun h7 => ?_)
  · refine g_iconst (pc' := 17) (v := 0) dX8_slots_16 rfl rfl ?_
    refine g_iret dX8_slots_17 rfl rfl (Nat.le_of_ble_eq_true rfl) (Nat.le_of_ble_eq_true rfl) ?_
    have e : oSlots C n = _ := if_neg (fun z => by
      have z1 := z.1
      have z2 := z.2
      rw [Int32.le_iff_toInt_le] at z1 z2
      first
        | (rw [Int32.lt_iff_toInt_lt] at h7; omega)
        | (rw [Int32.le_iff_toInt_le] at h13; omega))
    rw [e] at hQ
    exact hQ _ hR.code (pK_sfI (by decide))
  · refine g_iload_n (pc' := 11) dX8_slots_10 rfl rfl ?_
    refine g_bipush (pc' := 13) (v := 6) dX8_slots_11 rfl rfl ?_
    refine g_icmp_le dX8_slots_13 (tg := 18) (pc' := 16) (by decide) rfl (fun h13 => ?_) (fun h13 => ?_)
    · refine g_aload_n (pc' := 19) dX8_slots_18 rfl rfl ?_
      refine g_iload_n (pc' := 20) dX8_slots_19 rfl rfl ?_
      refine gpX8_7 (pc' := 23) rfl dX8_slots_20 rfl l8 ?_
      refine g_iconst (pc' := 24) (v := 1) dX8_slots_23 rfl rfl ?_
      refine g_iret dX8_slots_24 rfl rfl (Nat.le_of_ble_eq_true rfl) (Nat.le_of_ble_eq_true rfl) ?_
      have e : oSlots C n = _ := if_pos ⟨by rw [Int32.le_iff_toInt_le]; rw [Int32.lt_iff_toInt_lt] at h7; omega, h13⟩
      rw [e] at hQ
      refine hQ _ ?_ ((pK_sfI (by decide)).tr (pK_sfI (by decide)))
      obtain ⟨q1, q2, q3, q4, q5, q6⟩ := hR.1.1
      exact hR.rn ⟨q1, q2, fI_at.trans fI_at.symm, q4, q5, q6⟩ rfl (fun g x y hg => fI_ne (by omega)) rfl rfl rfl rfl rfl
    · refine g_iconst (pc' := 17) (v := 0) dX8_slots_16 rfl rfl ?_
      refine g_iret dX8_slots_17 rfl rfl (Nat.le_of_ble_eq_true rfl) (Nat.le_of_ble_eq_true rfl) ?_
      have e : oSlots C n = _ := if_neg (fun z => by
        have z1 := z.1
        have z2 := z.2
        rw [Int32.le_iff_toInt_le] at z1 z2
        first
          | (rw [Int32.lt_iff_toInt_lt] at h7; omega)
          | (rw [Int32.le_iff_toInt_le] at h13; omega))
      rw [e] at hQ
      exact hQ _ hR.code (pK_sfI (by decide))

set_option maxRecDepth 100000 in
set_option maxHeartbeats 2000000 in
theorem kX8_state {E : gE} {S : gS} {C : gS} {j t : Int32} {Q : Option gV → gS → Prop} (hM : ModS S) (hR : Rel C S) (hD : DeskOk C) (hQ : ∀ T', Rel C T' → pK S T' → Q (some (vI (oState C j t))) T') : gRun E mX8_state 3 0 0 [vR 8 0 0, vI j, vI t] S [] Q := by
  refine gRun_of (ls := [some (vR 8 0 0), some (vI j), some (vI t)]) rfl (Nat.le_of_ble_eq_true rfl) rfl (fun ad => ?_)
  obtain ⟨l8, l20, l21, l22, l23, l24, l25, l26, l27, l28, l29, l30, l31, l32, l33, l34, l35, r262, r265, r266, r267, r268, r269, r270, r271, r272, r273, r274, r275, r276, r277, r278, r280⟩ := id hM
  refine g_aload_n (pc' := 1) dX8_state_0 rfl rfl ?_
  refine g_iconst (pc' := 2) (v := 0) dX8_state_1 rfl rfl ?_
  refine gpX8_66 (pc' := 5) rfl dX8_state_2 rfl l8 ?_
  have hR1 : Rel C (sfI S 256 0 0 0) := hR.code
  have hM1 : ModS (sfI S 256 0 0 0) := hM.of rfl rfl
  refine g_aload_n (pc' := 6) dX8_state_5 rfl rfl ?_
  refine g_iload_n (pc' := 7) dX8_state_6 rfl rfl ?_
  refine g_iload_n (pc' := 8) dX8_state_7 rfl rfl ?_
  refine gcv2 (pc' := 11) cwX8_207 cf8 dX8_state_8 rfl l8 (Nat.le_of_ble_eq_true rfl) (Nat.le_of_ble_eq_true rfl) (Nat.le_of_ble_eq_true rfl) (Nat.le_of_ble_eq_true rfl) (Nat.le_of_ble_eq_true rfl) (kX8_isTask hM1 hR1.1 ?_)
  refine g_if_eq dX8_state_11 (tg := 28) (pc' := 14) (by decide) rfl (fun h11 => ?_) (fun h11 => ?_)
  · refine g_iconst (pc' := 29) (v := (-1)) dX8_state_28 rfl rfl ?_
    refine g_iret dX8_state_29 rfl rfl (Nat.le_of_ble_eq_true rfl) (Nat.le_of_ble_eq_true rfl) ?_
    first
      | exact gq (hQ _ hR.code (pK_sfI (by decide))) (if_neg (bbn h11))
      | exact gq (hQ _ hR.code (pK_sfI (by decide))) ((if_pos (bbp h11)).trans (by rw [nI_clamp (by omega), nI_clamp (by omega)]))
  · obtain ⟨k, n, hk, hc, rfl, rfl⟩ := isTk_nat hD (bbp h11)
    have hk6 := hR.1.j6
    have hc6 := hR.1.c6 hk
    refine g_aload_n (pc' := 15) dX8_state_14 rfl rfl ?_
    refine ggX8_54 (pc' := 18) rfl dX8_state_15 rfl l8 r276 ?_
    refine g_bipush (pc' := 20) (v := 6) dX8_state_18 rfl rfl ?_
    refine g_iload_n (pc' := 21) dX8_state_20 rfl rfl ?_
    refine g_imul (pc' := 22) dX8_state_21 rfl ?_
    rw [show (6 : Int32) = nI 6 from rfl, pk_mul]
    refine g_iload_n (pc' := 23) dX8_state_22 rfl rfl ?_
    refine g_iadd (pc' := 24) dX8_state_23 rfl ?_
    rw [nI_add]
    refine g_iald (pc' := 25) (n := 6 * k + n) dX8_state_24 rfl (by decide) rfl rfl (show 6 * k + n < 36 by omega) l32 ?_
    rw [(hR1.1.st hk hc).1]
    refine g_goto dX8_state_25 (pc' := 29) (by decide) ?_
    refine g_iret dX8_state_29 rfl rfl (Nat.le_of_ble_eq_true rfl) (Nat.le_of_ble_eq_true rfl) ?_
    first
      | exact gq (hQ _ hR.code (pK_sfI (by decide))) (if_neg (bbn h11))
      | exact gq (hQ _ hR.code (pK_sfI (by decide))) ((if_pos (bbp h11)).trans (by rw [nI_clamp (by omega), nI_clamp (by omega)]))

set_option maxRecDepth 100000 in
set_option maxHeartbeats 2000000 in
theorem kX8_count {E : gE} {S : gS} {C : gS} {j w : Int32} {Q : Option gV → gS → Prop} (hM : ModS S) (hR : Rel C S) (hQ : ∀ T', Rel C T' → pK S T' → Q (some (vI (oCount C j w))) T') : gRun E mX8_count 2 0 0 [vR 8 0 0, vI j, vI w] S [] Q := by
  refine gRun_of (ls := [some (vR 8 0 0), some (vI j), some (vI w)]) rfl (Nat.le_of_ble_eq_true rfl) rfl (fun ad => ?_)
  obtain ⟨l8, l20, l21, l22, l23, l24, l25, l26, l27, l28, l29, l30, l31, l32, l33, l34, l35, r262, r265, r266, r267, r268, r269, r270, r271, r272, r273, r274, r275, r276, r277, r278, r280⟩ := id hM
  refine g_aload_n (pc' := 1) dX8_count_0 rfl rfl ?_
  refine g_iconst (pc' := 2) (v := 0) dX8_count_1 rfl rfl ?_
  refine gpX8_66 (pc' := 5) rfl dX8_count_2 rfl l8 ?_
  have hR1 : Rel C (sfI S 256 0 0 0) := hR.code
  have hM1 : ModS (sfI S 256 0 0 0) := hM.of rfl rfl
  refine g_iload_n (pc' := 6) dX8_count_5 rfl rfl ?_
  refine g_iconst (pc' := 7) (v := 4) dX8_count_6 rfl rfl ?_
  refine g_icmp_ne dX8_count_7 (tg := 15) (pc' := 10) (by decide) rfl (fun h7 => ?_) (fun h7 => ?_)
  · refine g_aload_n (pc' := 16) dX8_count_15 rfl rfl ?_
    refine g_iload_n (pc' := 17) dX8_count_16 rfl rfl ?_
    refine gcv1 (pc' := 20) cwX8_157 cf8 dX8_count_17 rfl l8 (Nat.le_of_ble_eq_true rfl) (Nat.le_of_ble_eq_true rfl) (Nat.le_of_ble_eq_true rfl) (Nat.le_of_ble_eq_true rfl) (Nat.le_of_ble_eq_true rfl) (kX8_isJob (l8) ?_)
    refine g_if_eq dX8_count_20 (tg := 32) (pc' := 23) (by decide) rfl (fun h20 => ?_) (fun h20 => ?_)
    · refine g_iconst (pc' := 33) (v := (-1)) dX8_count_32 rfl rfl ?_
      refine g_iret dX8_count_33 rfl rfl (Nat.le_of_ble_eq_true rfl) (Nat.le_of_ble_eq_true rfl) ?_
      refine gq (hQ _ hR.code (pK_sfI (by decide))) ((if_neg h7).trans ?_)
      have hn : ∀ c : Int32, (w < 0 ∨ ¬ w ≤ 3) → (c = 0 ∨ c = 1 ∨ c = 2 ∨ c = 3) → ¬ w = c := fun c h1 h2 h3 => by
        subst h3
        rcases h2 with rfl | rfl | rfl | rfl <;> exact absurd h1 (by decide)
      first
        | exact if_neg (fun z => bdn h20 (by rw [hR1.1.1.1]; exact z))
        | (have hw : w < 0 ∨ ¬ w ≤ 3 := by first | exact Or.inl h24 | exact Or.inr h29
           rw [if_neg (hn 0 hw (Or.inl rfl)), if_neg (hn 1 hw (Or.inr (Or.inl rfl))), if_neg (hn 2 hw (Or.inr (Or.inr (Or.inl rfl)))), if_neg (hn 3 hw (Or.inr (Or.inr (Or.inr rfl))))]
           exact ite_self _)
    · refine g_iload_n (pc' := 24) dX8_count_23 rfl rfl ?_
      refine g_if_lt dX8_count_24 (tg := 32) (pc' := 27) (by decide) rfl (fun h24 => ?_) (fun h24 => ?_)
      · refine g_iconst (pc' := 33) (v := (-1)) dX8_count_32 rfl rfl ?_
        refine g_iret dX8_count_33 rfl rfl (Nat.le_of_ble_eq_true rfl) (Nat.le_of_ble_eq_true rfl) ?_
        refine gq (hQ _ hR.code (pK_sfI (by decide))) ((if_neg h7).trans ?_)
        have hn : ∀ c : Int32, (w < 0 ∨ ¬ w ≤ 3) → (c = 0 ∨ c = 1 ∨ c = 2 ∨ c = 3) → ¬ w = c := fun c h1 h2 h3 => by
          subst h3
          rcases h2 with rfl | rfl | rfl | rfl <;> exact absurd h1 (by decide)
        first
          | exact if_neg (fun z => bdn h20 (by rw [hR1.1.1.1]; exact z))
          | (have hw : w < 0 ∨ ¬ w ≤ 3 := by first | exact Or.inl h24 | exact Or.inr h29
             rw [if_neg (hn 0 hw (Or.inl rfl)), if_neg (hn 1 hw (Or.inr (Or.inl rfl))), if_neg (hn 2 hw (Or.inr (Or.inr (Or.inl rfl)))), if_neg (hn 3 hw (Or.inr (Or.inr (Or.inr rfl))))]
             exact ite_self _)
      · refine g_iload_n (pc' := 28) dX8_count_27 rfl rfl ?_
        refine g_iconst (pc' := 29) (v := 3) dX8_count_28 rfl rfl ?_
        refine g_icmp_le dX8_count_29 (tg := 34) (pc' := 32) (by decide) rfl (fun h29 => ?_) (fun h29 => ?_)
        · have hj0 : 0 ≤ j ∧ j < fI C 228 0 0 := by rw [← hR1.1.1.1]; exact bdp h20
          obtain ⟨k, hk, rfl⟩ := hR1.1.jnat (bdp h20)
          have hk6 := hR1.1.j6
          obtain ⟨q1, q2, q3, q4, q5, q6⟩ := hR1.1.jb hk
          have ek : (nI k).toNatClampNeg = k := nI_clamp (by omega)
          refine g_iload_n (pc' := 35) dX8_count_34 rfl rfl ?_
          refine g_if_ne dX8_count_35 (tg := 47) (pc' := 38) (by decide) rfl (fun h35 => ?_) (fun h35 => ?_)
          · refine g_iload_n (pc' := 48) dX8_count_47 rfl rfl ?_
            refine g_iconst (pc' := 49) (v := 1) dX8_count_48 rfl rfl ?_
            refine g_icmp_ne dX8_count_49 (tg := 61) (pc' := 52) (by decide) rfl (fun h49 => ?_) (fun h49 => ?_)
            · refine g_iload_n (pc' := 62) dX8_count_61 rfl rfl ?_
              refine g_iconst (pc' := 63) (v := 2) dX8_count_62 rfl rfl ?_
              refine g_icmp_ne dX8_count_63 (tg := 83) (pc' := 66) (by decide) rfl (fun h63 => ?_) (fun h63 => ?_)
              · refine g_aload_n (pc' := 84) dX8_count_83 rfl rfl ?_
                refine ggX8_29 (pc' := 87) rfl dX8_count_84 rfl l8 r268 ?_
                refine g_iload_n (pc' := 88) dX8_count_87 rfl rfl ?_
                refine g_iald (pc' := 89) (n := k) dX8_count_88 rfl (by decide) rfl rfl (show k < 6 by omega) l24 ?_
                try rw [q2]
                refine g_iret dX8_count_89 rfl rfl (Nat.le_of_ble_eq_true rfl) (Nat.le_of_ble_eq_true rfl) ?_
                refine gq (hQ _ hR.code (pK_sfI (by decide))) ((if_neg h7).trans ((if_pos hj0).trans ?_))
                rw [ek]
                first
                  | (rw [if_pos h35]; done)
                  | (rw [if_neg h35, if_pos h49]; done)
                  | (rw [if_neg h35, if_neg h49, if_pos h63, if_pos h72]; done)
                  | (rw [if_neg h35, if_neg h49, if_pos h63, if_neg h72]; done)
                  | (have h3 : w = 3 := by
                       obtain ⟨q, z1, z2⟩ := nI_of (x := w) h24
                       rw [z2, show (3 : Int32) = nI 3 from rfl, nI_leI z1 (by decide)] at h29
                       rw [z2, show (0 : Int32) = nI 0 from rfl, nI_eq z1 (by decide)] at h35
                       rw [z2, show (1 : Int32) = nI 1 from rfl, nI_eq z1 (by decide)] at h49
                       rw [z2, show (2 : Int32) = nI 2 from rfl, nI_eq z1 (by decide)] at h63
                       rw [z2, show q = 3 by omega]; rfl
                     rw [if_neg h35, if_neg h49, if_neg h63, if_pos h3])
              · refine g_aload_n (pc' := 67) dX8_count_66 rfl rfl ?_
                refine ggX8_32 (pc' := 70) rfl dX8_count_67 rfl l8 r269 ?_
                refine g_iload_n (pc' := 71) dX8_count_70 rfl rfl ?_
                refine g_zald (pc' := 72) (n := k) dX8_count_71 rfl (by decide) rfl rfl (show k < 6 by omega) l25 ?_
                rw [q3]
                refine g_if_eq dX8_count_72 (tg := 79) (pc' := 75) (by decide) rfl (fun h72 => ?_) (fun h72 => ?_)
                · refine g_iconst (pc' := 80) (v := 0) dX8_count_79 rfl rfl ?_
                  refine g_goto dX8_count_80 (pc' := 89) (by decide) ?_
                  try rw [q2]
                  refine g_iret dX8_count_89 rfl rfl (Nat.le_of_ble_eq_true rfl) (Nat.le_of_ble_eq_true rfl) ?_
                  refine gq (hQ _ hR.code (pK_sfI (by decide))) ((if_neg h7).trans ((if_pos hj0).trans ?_))
                  rw [ek]
                  first
                    | (rw [if_pos h35]; done)
                    | (rw [if_neg h35, if_pos h49]; done)
                    | (rw [if_neg h35, if_neg h49, if_pos h63, if_pos h72]; done)
                    | (rw [if_neg h35, if_neg h49, if_pos h63, if_neg h72]; done)
                    | (have h3 : w = 3 := by
                         obtain ⟨q, z1, z2⟩ := nI_of (x := w) h24
                         rw [z2, show (3 : Int32) = nI 3 from rfl, nI_leI z1 (by decide)] at h29
                         rw [z2, show (0 : Int32) = nI 0 from rfl, nI_eq z1 (by decide)] at h35
                         rw [z2, show (1 : Int32) = nI 1 from rfl, nI_eq z1 (by decide)] at h49
                         rw [z2, show (2 : Int32) = nI 2 from rfl, nI_eq z1 (by decide)] at h63
                         rw [z2, show q = 3 by omega]; rfl
                       rw [if_neg h35, if_neg h49, if_neg h63, if_pos h3])
                · refine g_iconst (pc' := 76) (v := 1) dX8_count_75 rfl rfl ?_
                  refine g_goto dX8_count_76 (pc' := 89) (by decide) ?_
                  try rw [q2]
                  refine g_iret dX8_count_89 rfl rfl (Nat.le_of_ble_eq_true rfl) (Nat.le_of_ble_eq_true rfl) ?_
                  refine gq (hQ _ hR.code (pK_sfI (by decide))) ((if_neg h7).trans ((if_pos hj0).trans ?_))
                  rw [ek]
                  first
                    | (rw [if_pos h35]; done)
                    | (rw [if_neg h35, if_pos h49]; done)
                    | (rw [if_neg h35, if_neg h49, if_pos h63, if_pos h72]; done)
                    | (rw [if_neg h35, if_neg h49, if_pos h63, if_neg h72]; done)
                    | (have h3 : w = 3 := by
                         obtain ⟨q, z1, z2⟩ := nI_of (x := w) h24
                         rw [z2, show (3 : Int32) = nI 3 from rfl, nI_leI z1 (by decide)] at h29
                         rw [z2, show (0 : Int32) = nI 0 from rfl, nI_eq z1 (by decide)] at h35
                         rw [z2, show (1 : Int32) = nI 1 from rfl, nI_eq z1 (by decide)] at h49
                         rw [z2, show (2 : Int32) = nI 2 from rfl, nI_eq z1 (by decide)] at h63
                         rw [z2, show q = 3 by omega]; rfl
                       rw [if_neg h35, if_neg h49, if_neg h63, if_pos h3])
            · refine g_aload_n (pc' := 53) dX8_count_52 rfl rfl ?_
              refine ggX8_39 (pc' := 56) rfl dX8_count_53 rfl l8 r271 ?_
              refine g_iload_n (pc' := 57) dX8_count_56 rfl rfl ?_
              refine g_iald (pc' := 58) (n := k) dX8_count_57 rfl (by decide) rfl rfl (show k < 6 by omega) l27 ?_
              rw [q6]
              refine g_goto dX8_count_58 (pc' := 89) (by decide) ?_
              try rw [q2]
              refine g_iret dX8_count_89 rfl rfl (Nat.le_of_ble_eq_true rfl) (Nat.le_of_ble_eq_true rfl) ?_
              refine gq (hQ _ hR.code (pK_sfI (by decide))) ((if_neg h7).trans ((if_pos hj0).trans ?_))
              rw [ek]
              first
                | (rw [if_pos h35]; done)
                | (rw [if_neg h35, if_pos h49]; done)
                | (rw [if_neg h35, if_neg h49, if_pos h63, if_pos h72]; done)
                | (rw [if_neg h35, if_neg h49, if_pos h63, if_neg h72]; done)
                | (have h3 : w = 3 := by
                     obtain ⟨q, z1, z2⟩ := nI_of (x := w) h24
                     rw [z2, show (3 : Int32) = nI 3 from rfl, nI_leI z1 (by decide)] at h29
                     rw [z2, show (0 : Int32) = nI 0 from rfl, nI_eq z1 (by decide)] at h35
                     rw [z2, show (1 : Int32) = nI 1 from rfl, nI_eq z1 (by decide)] at h49
                     rw [z2, show (2 : Int32) = nI 2 from rfl, nI_eq z1 (by decide)] at h63
                     rw [z2, show q = 3 by omega]; rfl
                   rw [if_neg h35, if_neg h49, if_neg h63, if_pos h3])
          · refine g_aload_n (pc' := 39) dX8_count_38 rfl rfl ?_
            refine ggX8_36 (pc' := 42) rfl dX8_count_39 rfl l8 r270 ?_
            refine g_iload_n (pc' := 43) dX8_count_42 rfl rfl ?_
            refine g_iald (pc' := 44) (n := k) dX8_count_43 rfl (by decide) rfl rfl (show k < 6 by omega) l26 ?_
            rw [q5]
            refine g_goto dX8_count_44 (pc' := 89) (by decide) ?_
            try rw [q2]
            refine g_iret dX8_count_89 rfl rfl (Nat.le_of_ble_eq_true rfl) (Nat.le_of_ble_eq_true rfl) ?_
            refine gq (hQ _ hR.code (pK_sfI (by decide))) ((if_neg h7).trans ((if_pos hj0).trans ?_))
            rw [ek]
            first
              | (rw [if_pos h35]; done)
              | (rw [if_neg h35, if_pos h49]; done)
              | (rw [if_neg h35, if_neg h49, if_pos h63, if_pos h72]; done)
              | (rw [if_neg h35, if_neg h49, if_pos h63, if_neg h72]; done)
              | (have h3 : w = 3 := by
                   obtain ⟨q, z1, z2⟩ := nI_of (x := w) h24
                   rw [z2, show (3 : Int32) = nI 3 from rfl, nI_leI z1 (by decide)] at h29
                   rw [z2, show (0 : Int32) = nI 0 from rfl, nI_eq z1 (by decide)] at h35
                   rw [z2, show (1 : Int32) = nI 1 from rfl, nI_eq z1 (by decide)] at h49
                   rw [z2, show (2 : Int32) = nI 2 from rfl, nI_eq z1 (by decide)] at h63
                   rw [z2, show q = 3 by omega]; rfl
                 rw [if_neg h35, if_neg h49, if_neg h63, if_pos h3])
        · refine g_iconst (pc' := 33) (v := (-1)) dX8_count_32 rfl rfl ?_
          refine g_iret dX8_count_33 rfl rfl (Nat.le_of_ble_eq_true rfl) (Nat.le_of_ble_eq_true rfl) ?_
          refine gq (hQ _ hR.code (pK_sfI (by decide))) ((if_neg h7).trans ?_)
          have hn : ∀ c : Int32, (w < 0 ∨ ¬ w ≤ 3) → (c = 0 ∨ c = 1 ∨ c = 2 ∨ c = 3) → ¬ w = c := fun c h1 h2 h3 => by
            subst h3
            rcases h2 with rfl | rfl | rfl | rfl <;> exact absurd h1 (by decide)
          first
            | exact if_neg (fun z => bdn h20 (by rw [hR1.1.1.1]; exact z))
            | (have hw : w < 0 ∨ ¬ w ≤ 3 := by first | exact Or.inl h24 | exact Or.inr h29
               rw [if_neg (hn 0 hw (Or.inl rfl)), if_neg (hn 1 hw (Or.inr (Or.inl rfl))), if_neg (hn 2 hw (Or.inr (Or.inr (Or.inl rfl)))), if_neg (hn 3 hw (Or.inr (Or.inr (Or.inr rfl))))]
               exact ite_self _)
  · refine g_aload_n (pc' := 11) dX8_count_10 rfl rfl ?_
    refine gcv0 (pc' := 14) cwX8_186 cf8 dX8_count_11 rfl l8 (Nat.le_of_ble_eq_true rfl) (Nat.le_of_ble_eq_true rfl) (Nat.le_of_ble_eq_true rfl) (Nat.le_of_ble_eq_true rfl) (Nat.le_of_ble_eq_true rfl) (kX8_runningTasks hM1 ?_)
    rw [mcn_36 hR1.1]
    refine g_iret dX8_count_14 rfl rfl (Nat.le_of_ble_eq_true rfl) (Nat.le_of_ble_eq_true rfl) ?_
    exact gq (hQ _ hR.code (pK_sfI (by decide))) (if_pos h7)

