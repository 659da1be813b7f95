/-! THE CLASS (2): dates; Day -/
theorem nz {a : Nat} (h : a < 2 ^ 31) : nI a = 0 ↔ a = 0 := by
  rw [← nI_0]; exact nI_eq h (by decide)
theorem nI_m1 {a : Nat} (h : 1 ≤ a) : nI a - 1 = nI (a - 1) := pk_sub h
def leap (y : Nat) : Bool := decide ((y % 4 = 0 ∧ y % 100 ≠ 0) ∨ y % 400 = 0)
def yl (y : Nat) : Nat := if leap y = true then 366 else 365
def ml (y m : Nat) : Nat := if m = 2 then (if leap y = true then 29 else 28) else if m = 4 ∨ m = 6 ∨ m = 9 ∨ m = 11 then 30 else 31
def cyr : Nat → Nat
  | 0 => 0
  | n + 1 => cyr n + yl (2000 + n)
def cmo (y : Nat) : Nat → Nat
  | 0 => 0
  | n + 1 => cmo y n + ml y (n + 1)
def isDate (w y m d : Nat) : Prop := 2000 ≤ y ∧ 1 ≤ m ∧ m ≤ 12 ∧ 1 ≤ d ∧ d ≤ ml y m ∧ w = cyr (y - 2000) + cmo y (m - 1) + (d - 1)
theorem ml_pos (y m : Nat) : 28 ≤ ml y m ∧ ml y m ≤ 31 := by
  unfold ml; split
  · split <;> omega
  · split <;> omega
theorem yl_in (y : Nat) : 365 ≤ yl y ∧ yl y ≤ 366 := by unfold yl; split <;> omega
theorem cmo_12 (y : Nat) : cmo y 12 = yl y := by
  simp only [cmo, ml, yl]
  cases leap y <;> decide
theorem cmo_mono (y : Nat) : ∀ {a b : Nat}, a ≤ b → cmo y a ≤ cmo y b := by
  intro a b h
  induction h with
  | refl => exact Nat.le_refl _
  | step h ih => exact Nat.le_trans ih (Nat.le_add_right _ _)
theorem cyr_mono : ∀ {a b : Nat}, a ≤ b → cyr a ≤ cyr b := by
  intro a b h
  induction h with
  | refl => exact Nat.le_refl _
  | step h ih => exact Nat.le_trans ih (Nat.le_add_right _ _)
theorem cyr_ge (n : Nat) : 365 * n ≤ cyr n := by
  induction n with
  | zero => exact Nat.le_refl _
  | succ n ih => have := (yl_in (2000 + n)).1; simp only [cyr]; omega
/-- inside the year -/
theorem isDate.year {w y m d : Nat} (h : isDate w y m d) : cyr (y - 2000) ≤ w ∧ w < cyr (y - 2000 + 1) := by
  obtain ⟨h1, h2, h3, h4, h5, h6⟩ := h
  have a1 : cmo y (m - 1) + ml y m = cmo y m := by
    obtain ⟨k, rfl⟩ : ∃ k, m = k + 1 := ⟨m - 1, by omega⟩
    rfl
  have a2 := cmo_mono y h3
  rw [cmo_12] at a2
  have a3 : cyr (y - 2000 + 1) = cyr (y - 2000) + yl y := by
    show _ + yl (2000 + (y - 2000)) = _
    rw [show 2000 + (y - 2000) = y by omega]
  omega
theorem isDate.one {w y m d y' m' d' : Nat} (h : isDate w y m d) (h' : isDate w y' m' d') : y = y' ∧ m = m' ∧ d = d' := by
  have b := h.year
  have b' := h'.year
  obtain ⟨h1, h2, h3, h4, h5, h6⟩ := h
  obtain ⟨g1, g2, g3, g4, g5, g6⟩ := h'
  have e : y = y' := by
    rcases Nat.lt_trichotomy (y - 2000) (y' - 2000) with q | q | q
    · have := cyr_mono (show y - 2000 + 1 ≤ y' - 2000 by omega); omega
    · omega
    · have := cyr_mono (show y' - 2000 + 1 ≤ y - 2000 by omega); omega
  subst e
  have a1 : cmo y (m - 1) + ml y m = cmo y m := by
    obtain ⟨k, rfl⟩ : ∃ k, m = k + 1 := ⟨m - 1, by omega⟩
    rfl
  have a2 : cmo y (m' - 1) + ml y m' = cmo y m' := by
    obtain ⟨k, rfl⟩ : ∃ k, m' = k + 1 := ⟨m' - 1, by omega⟩
    rfl
  have e2 : m = m' := by
    rcases Nat.lt_trichotomy m m' with q | q | q
    · have := cmo_mono y (show m ≤ m' - 1 by omega); omega
    · exact q
    · have := cmo_mono y (show m' ≤ m - 1 by omega); omega
  subst e2
  exact ⟨rfl, rfl, by omega⟩
theorem isDate.next {w y m d : Nat} (h : isDate w y m d) : isDate (w + 1) (if d + 1 ≤ ml y m then y else if m + 1 ≤ 12 then y else y + 1) (if d + 1 ≤ ml y m then m else if m + 1 ≤ 12 then m + 1 else 1) (if d + 1 ≤ ml y m then d + 1 else 1) := by
  obtain ⟨h1, h2, h3, h4, h5, h6⟩ := h
  obtain ⟨k, rfl⟩ : ∃ k, m = k + 1 := ⟨m - 1, by omega⟩
  by_cases c1 : d + 1 ≤ ml y (k + 1)
  · rw [if_pos c1, if_pos c1, if_pos c1]
    exact ⟨h1, h2, h3, by omega, c1, by omega⟩
  · rw [if_neg c1, if_neg c1, if_neg c1]
    have e1 : cmo y (k + 1) = cmo y k + ml y (k + 1) := rfl
    by_cases c2 : k + 1 + 1 ≤ 12
    · rw [if_pos c2, if_pos c2]
      refine ⟨h1, by omega, c2, by omega, by have := ml_pos y (k + 1 + 1); omega, ?_⟩
      have e : cmo y (k + 1 + 1 - 1) = cmo y k + ml y (k + 1) := rfl
      rw [e]
      simp only [Nat.add_sub_cancel] at h6
      omega
    · rw [if_neg c2, if_neg c2]
      have hk : k = 11 := by omega
      subst hk
      refine ⟨by omega, by omega, by omega, by omega, by have := ml_pos (y + 1) 1; omega, ?_⟩
      have e2 : cyr (y + 1 - 2000) = cyr (y - 2000) + yl y := by
        rw [show y + 1 - 2000 = (y - 2000) + 1 by omega]
        show _ + yl (2000 + (y - 2000)) = _
        rw [show 2000 + (y - 2000) = y by omega]
      have e3 := cmo_12 y
      have e4 : cmo y 12 = cmo y 11 + ml y 12 := rfl
      have e5 : cmo (y + 1) (1 - 1) = 0 := rfl
      have c3 : ¬ d + 1 ≤ ml y 12 := c1
      have c4 : d ≤ ml y 12 := h5
      have c5 : w = cyr (y - 2000) + cmo y 11 + (d - 1) := h6
      omega
theorem date_ex : ∀ w : Nat, ∃ q : Nat × Nat × Nat, isDate w q.1 q.2.1 q.2.2
  | 0 => ⟨(2000, 1, 1), by refine ⟨?_, ?_, ?_, ?_, ?_, ?_⟩ <;> decide⟩
  | w + 1 => by
    obtain ⟨q, h⟩ := date_ex w
    exact ⟨(_, _, _), h.next⟩
noncomputable def dY (w : Nat) : Nat := (Classical.choose (date_ex w)).1
noncomputable def dM (w : Nat) : Nat := (Classical.choose (date_ex w)).2.1
noncomputable def dD (w : Nat) : Nat := (Classical.choose (date_ex w)).2.2
theorem date_is (w : Nat) : isDate w (dY w) (dM w) (dD w) := Classical.choose_spec (date_ex w)
theorem date_eq {w y m d : Nat} (h : isDate w y m d) : dY w = y ∧ dM w = m ∧ dD w = d := (date_is w).one h
theorem dY_le {w : Nat} (h : w < 13890) : dY w ≤ 2038 := by
  have h1 := (date_is w).year.1
  have h2 := cyr_ge (dY w - 2000)
  omega
theorem dM_in (w : Nat) : 1 ≤ dM w ∧ dM w ≤ 12 := ⟨(date_is w).2.1, (date_is w).2.2.1⟩
theorem dD_in (w : Nat) : 1 ≤ dD w ∧ dD w ≤ 31 := by
  obtain ⟨h1, h2, h3, h4, h5, h6⟩ := date_is w
  exact ⟨h4, by have := ml_pos (dY w) (dM w); omega⟩
theorem sfI_sfI {S : gS} {g j t : Nat} {a b : Int32} : sfI (sfI S g j t a) g j t b = sfI S g j t b := by
  refine Prod.ext ?_ rfl
  funext g' j' t'
  show (if _ then _ else (if _ then _ else _)) = (if _ then _ else _)
  split <;> rfl
theorem sfI_id {S : gS} {g j t : Nat} {a : Int32} (h : fI S g j t = a) : sfI S g j t a = S := by
  refine Prod.ext ?_ rfl
  funext g' j' t'
  show (if _ then _ else _) = _
  split
  · rename_i c
    obtain ⟨rfl, rfl, rfl⟩ := c
    exact h.symm
  · rfl
/-- the leaf of the calendar, turned -/
noncomputable def tTurn (S : gS) (w : Nat) : gS := sfI (sfI (sfI (sfI S 1 0 0 (nI (dY w))) 2 0 0 (nI (dM w))) 3 0 0 (nI (dD w))) 0 0 0 (nI w)
def DayOk (S : gS) (w : Nat) : Prop := w < 13889 ∧ fI S 0 0 0 = nI w ∧ fI S 1 0 0 = nI (dY w) ∧ fI S 2 0 0 = nI (dM w) ∧ fI S 3 0 0 = nI (dD w)
theorem tTurn_ok {S : gS} {w : Nat} (h : w < 13889) : DayOk (tTurn S w) w := ⟨h, rfl, rfl, rfl, rfl⟩
theorem tTurn_ext {S S' : gS} {w : Nat} (h2 : S'.2 = S.2) (h : ∀ g j t, fI S' g j t = fI (tTurn S w) g j t) : S' = tTurn S w := Prod.ext (funext fun g => funext fun j => funext fun t => h g j t) h2
set_option maxRecDepth 100000 in
set_option maxHeartbeats 2000000 in
theorem kX0_isLeapYear {E : gE} {S : gS} {y : Nat} {Q : Option gV → gS → Prop} (l0 : lv S 0 0 0) (hy : fI S 1 0 0 = nI y) (hl : y < 2 ^ 30) (hQ : Q (some (vI (bI (leap y)))) S) : gRun E mX0_isLeapYear 1 0 0 [vR 0 0 0] S [] Q := by
  refine gRun_of (ls := [some (vR 0 0 0)]) rfl (Nat.le_of_ble_eq_true rfl) rfl (fun ad => ?_)
  have q4 := nz (a := y % 4) (by omega)
  have q100 := nz (a := y % 100) (by omega)
  have q400 := nz (a := y % 400) (by omega)
  refine g_aload_n (pc' := 1) dX0_isLeapYear_0 rfl rfl ?_
  refine ggX0_13 (pc' := 4) rfl dX0_isLeapYear_1 rfl l0 ?_
  refine g_iconst (pc' := 5) (v := 4) dX0_isLeapYear_4 rfl rfl ?_
  refine g_irem (pc' := 6) dX0_isLeapYear_5 rfl (by decide) ?_
  rw [hy, show (4 : Int32) = nI 4 from rfl, nI_rem (by omega) (by decide) (by decide)]
  refine g_if_ne dX0_isLeapYear_6 (tg := 19) (pc' := 9) (by decide) rfl (fun h6 => ?_) (fun h6 => ?_)
  · refine g_aload_n (pc' := 20) dX0_isLeapYear_19 rfl rfl ?_
    refine ggX0_13 (pc' := 23) rfl dX0_isLeapYear_20 rfl l0 ?_
    refine g_sipush (pc' := 26) (v := 400) dX0_isLeapYear_23 rfl rfl ?_
    refine g_irem (pc' := 27) dX0_isLeapYear_26 rfl (by decide) ?_
    rw [hy, show (400 : Int32) = nI 400 from rfl, nI_rem (by omega) (by decide) (by decide)]
    refine g_if_ne dX0_isLeapYear_27 (tg := 34) (pc' := 30) (by decide) rfl (fun h27 => ?_) (fun h27 => ?_)
    · refine g_iconst (pc' := 35) (v := 0) dX0_isLeapYear_34 rfl rfl ?_
      refine g_iret dX0_isLeapYear_35 rfl rfl (Nat.le_of_ble_eq_true rfl) (Nat.le_of_ble_eq_true rfl) ?_
      exact gq hQ (by simp only [bI, leap, q4, q100, q400] at *; simp_all)
    · refine g_iconst (pc' := 31) (v := 1) dX0_isLeapYear_30 rfl rfl ?_
      refine g_goto dX0_isLeapYear_31 (pc' := 35) (by decide) ?_
      refine g_iret dX0_isLeapYear_35 rfl rfl (Nat.le_of_ble_eq_true rfl) (Nat.le_of_ble_eq_true rfl) ?_
      exact gq hQ (by simp only [bI, leap, q4, q100, q400] at *; simp_all)
  · refine g_aload_n (pc' := 10) dX0_isLeapYear_9 rfl rfl ?_
    refine ggX0_13 (pc' := 13) rfl dX0_isLeapYear_10 rfl l0 ?_
    refine g_bipush (pc' := 15) (v := 100) dX0_isLeapYear_13 rfl rfl ?_
    refine g_irem (pc' := 16) dX0_isLeapYear_15 rfl (by decide) ?_
    rw [hy, show (100 : Int32) = nI 100 from rfl, nI_rem (by omega) (by decide) (by decide)]
    refine g_if_ne dX0_isLeapYear_16 (tg := 30) (pc' := 19) (by decide) rfl (fun h16 => ?_) (fun h16 => ?_)
    · refine g_iconst (pc' := 31) (v := 1) dX0_isLeapYear_30 rfl rfl ?_
      refine g_goto dX0_isLeapYear_31 (pc' := 35) (by decide) ?_
      refine g_iret dX0_isLeapYear_35 rfl rfl (Nat.le_of_ble_eq_true rfl) (Nat.le_of_ble_eq_true rfl) ?_
      exact gq hQ (by simp only [bI, leap, q4, q100, q400] at *; simp_all)
    · refine g_aload_n (pc' := 20) dX0_isLeapYear_19 rfl rfl ?_
      refine ggX0_13 (pc' := 23) rfl dX0_isLeapYear_20 rfl l0 ?_
      refine g_sipush (pc' := 26) (v := 400) dX0_isLeapYear_23 rfl rfl ?_
      refine g_irem (pc' := 27) dX0_isLeapYear_26 rfl (by decide) ?_
      rw [hy, show (400 : Int32) = nI 400 from rfl, nI_rem (by omega) (by decide) (by decide)]
      refine g_if_ne dX0_isLeapYear_27 (tg := 34) (pc' := 30) (by decide) rfl (fun h27 => ?_) (fun h27 => ?_)
      · refine g_iconst (pc' := 35) (v := 0) dX0_isLeapYear_34 rfl rfl ?_
        refine g_iret dX0_isLeapYear_35 rfl rfl (Nat.le_of_ble_eq_true rfl) (Nat.le_of_ble_eq_true rfl) ?_
        exact gq hQ (by simp only [bI, leap, q4, q100, q400] at *; simp_all)
      · refine g_iconst (pc' := 31) (v := 1) dX0_isLeapYear_30 rfl rfl ?_
        refine g_goto dX0_isLeapYear_31 (pc' := 35) (by decide) ?_
        refine g_iret dX0_isLeapYear_35 rfl rfl (Nat.le_of_ble_eq_true rfl) (Nat.le_of_ble_eq_true rfl) ?_
        exact gq hQ (by simp only [bI, leap, q4, q100, q400] at *; simp_all)

set_option maxRecDepth 100000 in
set_option maxHeartbeats 2000000 in
theorem kX0_daysOfYear {E : gE} {S : gS} {y : Nat} {Q : Option gV → gS → Prop} (l0 : lv S 0 0 0) (hy : fI S 1 0 0 = nI y) (hl : y < 2 ^ 30) (hQ : Q (some (vI (nI (yl y)))) S) : gRun E mX0_daysOfYear 2 0 0 [vR 0 0 0] S [] Q := by
  refine gRun_of (ls := [some (vR 0 0 0)]) rfl (Nat.le_of_ble_eq_true rfl) rfl (fun ad => ?_)
  refine g_aload_n (pc' := 1) dX0_daysOfYear_0 rfl rfl ?_
  refine gcv0 (pc' := 4) cwX0_36 cf0 dX0_daysOfYear_1 rfl l0 (Nat.le_of_ble_eq_true rfl) (Nat.le_of_ble_eq_true rfl) (Nat.le_of_ble_eq_true rfl) (Nat.le_of_ble_eq_true rfl) (Nat.le_of_ble_eq_true rfl) (kX0_isLeapYear l0 hy hl ?_)
  refine g_if_eq dX0_daysOfYear_4 (tg := 13) (pc' := 7) (by decide) rfl (fun h4 => ?_) (fun h4 => ?_)
  · refine g_sipush (pc' := 16) (v := 365) dX0_daysOfYear_13 rfl rfl ?_
    refine g_iret dX0_daysOfYear_16 rfl rfl (Nat.le_of_ble_eq_true rfl) (Nat.le_of_ble_eq_true rfl) ?_
    exact gq hQ (by rw [bI_f] at h4; simp [yl, h4]; try rfl)
  · refine g_sipush (pc' := 10) (v := 366) dX0_daysOfYear_7 rfl rfl ?_
    refine g_goto dX0_daysOfYear_10 (pc' := 16) (by decide) ?_
    refine g_iret dX0_daysOfYear_16 rfl rfl (Nat.le_of_ble_eq_true rfl) (Nat.le_of_ble_eq_true rfl) ?_
    exact gq hQ (by rw [bI_f] at h4; simp [yl, h4]; try rfl)

set_option maxRecDepth 100000 in
set_option maxHeartbeats 2000000 in
theorem kX0_daysOfMonth {E : gE} {S : gS} {y m : Nat} {Q : Option gV → gS → Prop} (l0 : lv S 0 0 0) (hy : fI S 1 0 0 = nI y) (hl : y < 2 ^ 30) (hm : fI S 2 0 0 = nI m) (hm1 : 1 ≤ m) (hm2 : m ≤ 12) (hQ : Q (some (vI (nI (ml y m)))) S) : gRun E mX0_daysOfMonth 2 0 0 [vR 0 0 0] S [] Q := by
  refine gRun_of (ls := [some (vR 0 0 0)]) rfl (Nat.le_of_ble_eq_true rfl) rfl (fun ad => ?_)
  refine g_aload_n (pc' := 1) dX0_daysOfMonth_0 rfl rfl ?_
  refine ggX0_16 (pc' := 4) rfl dX0_daysOfMonth_1 rfl l0 ?_
  refine g_iconst (pc' := 5) (v := 2) dX0_daysOfMonth_4 rfl rfl ?_
  rw [hm]
  refine g_icmp_ne dX0_daysOfMonth_5 (tg := 20) (pc' := 8) (by decide) rfl (fun h5 => ?_) (fun h5 => ?_)
  · refine gsX0_40 (pc' := 23) rfl dX0_daysOfMonth_20 rfl ?_
    refine g_aload_n (pc' := 24) dX0_daysOfMonth_23 rfl rfl ?_
    refine ggX0_16 (pc' := 27) rfl dX0_daysOfMonth_24 rfl l0 ?_
    refine g_iconst (pc' := 28) (v := 1) dX0_daysOfMonth_27 rfl rfl ?_
    refine g_isub (pc' := 29) dX0_daysOfMonth_28 rfl ?_
    refine gt_2 (pc' := 30) (n := m - 1) dX0_daysOfMonth_29 rfl (by rw [hm]; exact nI_m1 hm1) (by omega) ?_
    refine g_iret dX0_daysOfMonth_30 rfl rfl (Nat.le_of_ble_eq_true rfl) (Nat.le_of_ble_eq_true rfl) ?_
    first
      | exact gq hQ (by
          rw [nI_eq (by omega) (by decide)] at h5
          rw [bI_f] at h12
          simp [ml, h5, h12]
          try rfl)
      | exact gq hQ (by
          rw [show (2 : Int32) = nI 2 from rfl, nI_eq (by omega) (by decide)] at h5
          rw [bI_f] at h12
          subst h5
          simp [ml, h12]; rfl)
      | exact gq hQ (by
          rw [show (2 : Int32) = nI 2 from rfl, nI_eq (by omega) (by decide)] at h5
          rw [ml, if_neg h5]
          exact (by decide : ∀ m, m < 13 → 1 ≤ m → ¬ m = 2 → (nI (if m = 4 ∨ m = 6 ∨ m = 9 ∨ m = 11 then 30 else 31) = (gtab 2).getD (m - 1) 0)) m (by omega) hm1 h5)
      | exact gq hQ (by
          rw [show (2 : Int32) = nI 2 from rfl, nI_eq (by omega) (by decide)] at h5
          rw [bI_f] at h12
          subst h5
          simp [ml, h12]
          exact rfl)
  · refine g_aload_n (pc' := 9) dX0_daysOfMonth_8 rfl rfl ?_
    refine gcv0 (pc' := 12) cwX0_36 cf0 dX0_daysOfMonth_9 rfl l0 (Nat.le_of_ble_eq_true rfl) (Nat.le_of_ble_eq_true rfl) (Nat.le_of_ble_eq_true rfl) (Nat.le_of_ble_eq_true rfl) (Nat.le_of_ble_eq_true rfl) (kX0_isLeapYear l0 hy hl ?_)
    refine g_if_eq dX0_daysOfMonth_12 (tg := 20) (pc' := 15) (by decide) rfl (fun h12 => ?_) (fun h12 => ?_)
    · refine gsX0_40 (pc' := 23) rfl dX0_daysOfMonth_20 rfl ?_
      refine g_aload_n (pc' := 24) dX0_daysOfMonth_23 rfl rfl ?_
      refine ggX0_16 (pc' := 27) rfl dX0_daysOfMonth_24 rfl l0 ?_
      refine g_iconst (pc' := 28) (v := 1) dX0_daysOfMonth_27 rfl rfl ?_
      refine g_isub (pc' := 29) dX0_daysOfMonth_28 rfl ?_
      refine gt_2 (pc' := 30) (n := m - 1) dX0_daysOfMonth_29 rfl (by rw [hm]; exact nI_m1 hm1) (by omega) ?_
      refine g_iret dX0_daysOfMonth_30 rfl rfl (Nat.le_of_ble_eq_true rfl) (Nat.le_of_ble_eq_true rfl) ?_
      first
        | exact gq hQ (by
            rw [nI_eq (by omega) (by decide)] at h5
            rw [bI_f] at h12
            simp [ml, h5, h12]
            try rfl)
        | exact gq hQ (by
            rw [show (2 : Int32) = nI 2 from rfl, nI_eq (by omega) (by decide)] at h5
            rw [bI_f] at h12
            subst h5
            simp [ml, h12]; rfl)
        | exact gq hQ (by
            rw [show (2 : Int32) = nI 2 from rfl, nI_eq (by omega) (by decide)] at h5
            rw [ml, if_neg h5]
            exact (by decide : ∀ m, m < 13 → 1 ≤ m → ¬ m = 2 → (nI (if m = 4 ∨ m = 6 ∨ m = 9 ∨ m = 11 then 30 else 31) = (gtab 2).getD (m - 1) 0)) m (by omega) hm1 h5)
        | exact gq hQ (by
            rw [show (2 : Int32) = nI 2 from rfl, nI_eq (by omega) (by decide)] at h5
            rw [bI_f] at h12
            subst h5
            simp [ml, h12]
            exact rfl)
    · refine g_bipush (pc' := 17) (v := 29) dX0_daysOfMonth_15 rfl rfl ?_
      refine g_goto dX0_daysOfMonth_17 (pc' := 30) (by decide) ?_
      refine g_iret dX0_daysOfMonth_30 rfl rfl (Nat.le_of_ble_eq_true rfl) (Nat.le_of_ble_eq_true rfl) ?_
      first
        | exact gq hQ (by
            rw [nI_eq (by omega) (by decide)] at h5
            rw [bI_f] at h12
            simp [ml, h5, h12]
            try rfl)
        | exact gq hQ (by
            rw [show (2 : Int32) = nI 2 from rfl, nI_eq (by omega) (by decide)] at h5
            rw [bI_f] at h12
            subst h5
            simp [ml, h12]; rfl)
        | exact gq hQ (by
            rw [show (2 : Int32) = nI 2 from rfl, nI_eq (by omega) (by decide)] at h5
            rw [ml, if_neg h5]
            exact (by decide : ∀ m, m < 13 → 1 ≤ m → ¬ m = 2 → (nI (if m = 4 ∨ m = 6 ∨ m = 9 ∨ m = 11 then 30 else 31) = (gtab 2).getD (m - 1) 0)) m (by omega) hm1 h5)
        | exact gq hQ (by
            rw [show (2 : Int32) = nI 2 from rfl, nI_eq (by omega) (by decide)] at h5
            rw [bI_f] at h12
            subst h5
            simp [ml, h12]
            exact rfl)

set_option maxRecDepth 100000 in
set_option maxHeartbeats 2000000 in
theorem kX0_weekday {E : gE} {S : gS} {w : Nat} {Q : Option gV → gS → Prop} (l0 : lv S 0 0 0) (hw : fI S 0 0 0 = nI w) (hl : w < 2 ^ 30) (hQ : Q (some (vI (nI ((w + 6) % 7)))) S) : gRun E mX0_weekday 1 0 0 [vR 0 0 0] S [] Q := by
  refine gRun_of (ls := [some (vR 0 0 0)]) rfl (Nat.le_of_ble_eq_true rfl) rfl (fun ad => ?_)
  refine g_aload_n (pc' := 1) dX0_weekday_0 rfl rfl ?_
  refine ggX0_7 (pc' := 4) rfl dX0_weekday_1 rfl l0 ?_
  refine g_bipush (pc' := 6) (v := 6) dX0_weekday_4 rfl rfl ?_
  refine g_iadd (pc' := 7) dX0_weekday_6 rfl ?_
  refine g_bipush (pc' := 9) (v := 7) dX0_weekday_7 rfl rfl ?_
  refine g_irem (pc' := 10) dX0_weekday_9 rfl (by decide) ?_
  rw [hw, show (6 : Int32) = nI 6 from rfl, nI_add, show (7 : Int32) = nI 7 from rfl, nI_rem (by omega) (by decide) (by decide)]
  refine g_iret dX0_weekday_10 rfl rfl (Nat.le_of_ble_eq_true rfl) (Nat.le_of_ble_eq_true rfl) ?_
  exact hQ

