/-! THE MODEL (4): dates, when an expression holds -/
noncomputable def tMD (S : gS) (w : Nat) : gS := sfI (sfI (sfI S 281 0 0 (nI (dY w))) 282 0 0 (nI (dM w))) 283 0 0 (nI (dD w))
theorem tMD_tMD {S : gS} {v w : Nat} : tMD (tMD S v) w = tMD S w := Prod.ext (funext fun g => funext fun j => funext fun t => by
  show fI (tMD (tMD S v) w) g j t = fI (tMD S w) g j t
  simp only [tMD, fI_sfI]
  repeat' split
  all_goals first | rfl | (exfalso; omega)) rfl
def dK (S S' : gS) : Prop := S' = S ∨ ∃ w, S' = tMD S w
theorem dK.rf {S : gS} : dK S S := Or.inl rfl
theorem dK.md {S S' : gS} {w : Nat} (h : dK S S') : dK S (tMD S' w) := by
  rcases h with rfl | ⟨v, rfl⟩
  · exact Or.inr ⟨w, rfl⟩
  · exact Or.inr ⟨w, tMD_tMD⟩
theorem dK.tr {S S1 S2 : gS} (h : dK S S1) (h2 : dK S1 S2) : dK S S2 := by
  rcases h2 with rfl | ⟨v, rfl⟩
  · exact h
  · exact h.md
theorem dK.fI {S S' : gS} (h : dK S S') {g j t : Nat} (hg : g ≠ 281 ∧ g ≠ 282 ∧ g ≠ 283) : fI S' g j t = fI S g j t := by
  rcases h with rfl | ⟨w, rfl⟩
  · rfl
  · simp only [tMD, fI_sfI]
    rw [if_neg (fun z => hg.2.2 z.1), if_neg (fun z => hg.2.1 z.1), if_neg (fun z => hg.1 z.1)]
theorem dK.rest {S S' : gS} (h : dK S S') : S'.2 = S.2 := by
  rcases h with rfl | ⟨w, rfl⟩ <;> rfl
theorem ModS.rest {S S' : gS} (h : ModS S) (k : S'.2 = S.2) : ModS S' := h.of (congrArg (fun z => z.2.2.2.2) k) (congrArg (fun z => z.1) k)
theorem LtM.rest {S S' : gS} {j : Nat} {y : Nat → Nat} (h : LtM S j y) (k : aI S' = aI S) : LtM S' j y := by
  unfold LtM at *; rw [k]; exact h
/-- a job's expression: its letters y -/
def XM (S : gS) (j : Nat) (y : Nat → Nat) (L : Nat) : Prop := LtM S j y ∧ txE y L ∧ L ≤ 60 ∧ rd y 5 0 0 = none ∧ ∀ f, f < 5 → aI S 22 0 (5 * j + f) = nI (fsx y f)
theorem XM.rest {S S' : gS} {j L : Nat} {y : Nat → Nat} (h : XM S j y L) (k : aI S' = aI S) : XM S' j y L := by
  unfold XM LtM at *; rw [k]; exact h
theorem rd_none {y : Nat → Nat} : ∀ (k f : Nat) (_ : rd y k f (fsx y f) = none) (g : Nat) (_ : f ≤ g) (_ : g < f + k), ∃ e, FE y g (fsx y g) = .inr e ∧ y e = dueC g
  | 0, f, h, g, h1, h2 => by omega
  | k + 1, f, h, g, h1, h2 => by
    rw [rd] at h
    cases e : FE y f (fsx y f) with
    | inl q => rw [e] at h; cases h
    | inr a =>
      rw [e] at h
      simp only at h
      split at h
      · rename_i hd
        rcases Nat.eq_or_lt_of_le h1 with rfl | q
        · exact ⟨a, e, hd⟩
        · refine rd_none k (f + 1) ?_ g q (by omega)
          rw [fsx, e]
          exact h
      · cases h
theorem XM.fe {S : gS} {j L : Nat} {y : Nat → Nat} (h : XM S j y L) {f : Nat} (hf : f < 5) : ∃ e, FE y f (fsx y f) = .inr e ∧ y e = dueC f := rd_none 5 0 h.2.2.2.1 f (by omega) (by omega)
def mH (y : Nat → Nat) (f v : Nat) : Bool := FM y f v (fsx y f)
def mTime (y : Nat → Nat) (t : Nat) : Bool := mH y 0 (t % 60) && mH y 1 (t / 60)
def mFr (y : Nat → Nat) : Bool := decide (y (fsx y 2) = 42) || decide (y (fsx y 4) = 42)
noncomputable def mWk (y : Nat → Nat) (w : Nat) : Bool := mH y 4 ((w + 6) % 7) || (decide ((w + 6) % 7 = 0) && mH y 4 7)
noncomputable def mDay (y : Nat → Nat) (w : Nat) : Bool := mH y 3 (dM w) && (if mFr y = true then (mH y 2 (dD w) && mWk y w) else (mH y 2 (dD w) || mWk y w))
noncomputable def mHo (y : Nat → Nat) (m : Nat) : Bool := mTime y (m % 1440) && mDay y (m / 1440)
set_option maxRecDepth 100000 in
set_option maxHeartbeats 2000000 in
theorem kX8_isLeap {E : gE} {S : gS} {y : Nat} {Q : Option gV → gS → Prop} (hy : y < 2 ^ 20) (hQ : Q (some (vI (bI (leap y)))) S) : gRun E mX8_isLeap 1 0 0 [vI (nI y)] S [] Q := by
  refine gRun_of (ls := [some (vI (nI y))]) rfl (Nat.le_of_ble_eq_true rfl) rfl (fun ad => ?_)
  refine g_iload_n (pc' := 1) dX8_isLeap_0 rfl rfl ?_
  refine g_sipush (pc' := 4) (v := 400) dX8_isLeap_1 rfl rfl ?_
  refine g_irem (pc' := 5) dX8_isLeap_4 rfl (by decide) ?_
  rw [show (400 : Int32) = nI 400 from rfl, nI_rem (by omega) (by decide) (by decide)]
  refine g_if_eq dX8_isLeap_5 (tg := 21) (pc' := 8) (by decide) rfl (fun h5 => ?_) (fun h5 => ?_)
  · refine g_iconst (pc' := 22) (v := 1) dX8_isLeap_21 rfl rfl ?_
    refine g_goto dX8_isLeap_22 (pc' := 26) (by decide) ?_
    try rw [show (0 : Int32) = nI 0 from rfl, nI_eq (by omega) (by decide)] at h5
    try rw [show (0 : Int32) = nI 0 from rfl, nI_eq (by omega) (by decide)] at h11
    try rw [show (0 : Int32) = nI 0 from rfl, nI_eq (by omega) (by decide)] at h18
    refine g_iret dX8_isLeap_26 rfl rfl (Nat.le_of_ble_eq_true rfl) (Nat.le_of_ble_eq_true rfl) ?_
    first
      | exact gq hQ (bd_t (by omega))
      | exact gq hQ (bd_f (by omega))
  · refine g_iload_n (pc' := 9) dX8_isLeap_8 rfl rfl ?_
    refine g_iconst (pc' := 10) (v := 4) dX8_isLeap_9 rfl rfl ?_
    refine g_irem (pc' := 11) dX8_isLeap_10 rfl (by decide) ?_
    rw [show (4 : Int32) = nI 4 from rfl, nI_rem (by omega) (by decide) (by decide)]
    refine g_if_ne dX8_isLeap_11 (tg := 25) (pc' := 14) (by decide) rfl (fun h11 => ?_) (fun h11 => ?_)
    · refine g_iconst (pc' := 26) (v := 0) dX8_isLeap_25 rfl rfl ?_
      try rw [show (0 : Int32) = nI 0 from rfl, nI_eq (by omega) (by decide)] at h5
      try rw [show (0 : Int32) = nI 0 from rfl, nI_eq (by omega) (by decide)] at h11
      try rw [show (0 : Int32) = nI 0 from rfl, nI_eq (by omega) (by decide)] at h18
      refine g_iret dX8_isLeap_26 rfl rfl (Nat.le_of_ble_eq_true rfl) (Nat.le_of_ble_eq_true rfl) ?_
      first
        | exact gq hQ (bd_t (by omega))
        | exact gq hQ (bd_f (by omega))
    · refine g_iload_n (pc' := 15) dX8_isLeap_14 rfl rfl ?_
      refine g_bipush (pc' := 17) (v := 100) dX8_isLeap_15 rfl rfl ?_
      refine g_irem (pc' := 18) dX8_isLeap_17 rfl (by decide) ?_
      rw [show (100 : Int32) = nI 100 from rfl, nI_rem (by omega) (by decide) (by decide)]
      refine g_if_eq dX8_isLeap_18 (tg := 25) (pc' := 21) (by decide) rfl (fun h18 => ?_) (fun h18 => ?_)
      · refine g_iconst (pc' := 26) (v := 0) dX8_isLeap_25 rfl rfl ?_
        try rw [show (0 : Int32) = nI 0 from rfl, nI_eq (by omega) (by decide)] at h5
        try rw [show (0 : Int32) = nI 0 from rfl, nI_eq (by omega) (by decide)] at h11
        try rw [show (0 : Int32) = nI 0 from rfl, nI_eq (by omega) (by decide)] at h18
        refine g_iret dX8_isLeap_26 rfl rfl (Nat.le_of_ble_eq_true rfl) (Nat.le_of_ble_eq_true rfl) ?_
        first
          | exact gq hQ (bd_t (by omega))
          | exact gq hQ (bd_f (by omega))
      · refine g_iconst (pc' := 22) (v := 1) dX8_isLeap_21 rfl rfl ?_
        refine g_goto dX8_isLeap_22 (pc' := 26) (by decide) ?_
        try rw [show (0 : Int32) = nI 0 from rfl, nI_eq (by omega) (by decide)] at h5
        try rw [show (0 : Int32) = nI 0 from rfl, nI_eq (by omega) (by decide)] at h11
        try rw [show (0 : Int32) = nI 0 from rfl, nI_eq (by omega) (by decide)] at h18
        refine g_iret dX8_isLeap_26 rfl rfl (Nat.le_of_ble_eq_true rfl) (Nat.le_of_ble_eq_true rfl) ?_
        first
          | exact gq hQ (bd_t (by omega))
          | exact gq hQ (bd_f (by omega))

set_option maxRecDepth 100000 in
set_option maxHeartbeats 2000000 in
theorem kX8_monthLength {E : gE} {S : gS} {y m : Nat} {Q : Option gV → gS → Prop} (hy : y < 2 ^ 20) (hm : m < 100) (hQ : Q (some (vI (nI (ml y m)))) S) : gRun E mX8_monthLength 2 0 0 [vI (nI y), vI (nI m)] S [] Q := by
  refine gRun_of (ls := [some (vI (nI y)), some (vI (nI m))]) rfl (Nat.le_of_ble_eq_true rfl) rfl (fun ad => ?_)
  refine g_iload_n (pc' := 1) dX8_monthLength_0 rfl rfl ?_
  refine g_iconst (pc' := 2) (v := 2) dX8_monthLength_1 rfl rfl ?_
  refine g_icmp_ne dX8_monthLength_2 (tg := 20) (pc' := 5) (by decide) rfl (fun h2 => ?_) (fun h2 => ?_)
  · try rw [show (2 : Int32) = nI 2 from rfl, nI_eq (by omega) (by decide)] at h2
    refine g_iload_n (pc' := 21) dX8_monthLength_20 rfl rfl ?_
    refine g_iconst (pc' := 22) (v := 4) dX8_monthLength_21 rfl rfl ?_
    refine g_icmp_eq dX8_monthLength_22 (tg := 43) (pc' := 25) (by decide) rfl (fun h22 => ?_) (fun h22 => ?_)
    · refine g_bipush (pc' := 45) (v := 30) dX8_monthLength_43 rfl rfl ?_
      refine g_goto dX8_monthLength_45 (pc' := 50) (by decide) ?_
      try rw [show (4 : Int32) = nI 4 from rfl, nI_eq (by omega) (by decide)] at h22
      try rw [show (6 : Int32) = nI 6 from rfl, nI_eq (by omega) (by decide)] at h28
      try rw [show (9 : Int32) = nI 9 from rfl, nI_eq (by omega) (by decide)] at h34
      try rw [show (11 : Int32) = nI 11 from rfl, nI_eq (by omega) (by decide)] at h40
      refine g_iret dX8_monthLength_50 rfl rfl (Nat.le_of_ble_eq_true rfl) (Nat.le_of_ble_eq_true rfl) ?_
      first
        | exact gq hQ (by rw [ml, if_neg h2, if_pos (by omega)]; rfl)
        | exact gq hQ (by rw [ml, if_neg h2, if_neg (by omega)]; rfl)
    · refine g_iload_n (pc' := 26) dX8_monthLength_25 rfl rfl ?_
      refine g_bipush (pc' := 28) (v := 6) dX8_monthLength_26 rfl rfl ?_
      refine g_icmp_eq dX8_monthLength_28 (tg := 43) (pc' := 31) (by decide) rfl (fun h28 => ?_) (fun h28 => ?_)
      · refine g_bipush (pc' := 45) (v := 30) dX8_monthLength_43 rfl rfl ?_
        refine g_goto dX8_monthLength_45 (pc' := 50) (by decide) ?_
        try rw [show (4 : Int32) = nI 4 from rfl, nI_eq (by omega) (by decide)] at h22
        try rw [show (6 : Int32) = nI 6 from rfl, nI_eq (by omega) (by decide)] at h28
        try rw [show (9 : Int32) = nI 9 from rfl, nI_eq (by omega) (by decide)] at h34
        try rw [show (11 : Int32) = nI 11 from rfl, nI_eq (by omega) (by decide)] at h40
        refine g_iret dX8_monthLength_50 rfl rfl (Nat.le_of_ble_eq_true rfl) (Nat.le_of_ble_eq_true rfl) ?_
        first
          | exact gq hQ (by rw [ml, if_neg h2, if_pos (by omega)]; rfl)
          | exact gq hQ (by rw [ml, if_neg h2, if_neg (by omega)]; rfl)
      · refine g_iload_n (pc' := 32) dX8_monthLength_31 rfl rfl ?_
        refine g_bipush (pc' := 34) (v := 9) dX8_monthLength_32 rfl rfl ?_
        refine g_icmp_eq dX8_monthLength_34 (tg := 43) (pc' := 37) (by decide) rfl (fun h34 => ?_) (fun h34 => ?_)
        · refine g_bipush (pc' := 45) (v := 30) dX8_monthLength_43 rfl rfl ?_
          refine g_goto dX8_monthLength_45 (pc' := 50) (by decide) ?_
          try rw [show (4 : Int32) = nI 4 from rfl, nI_eq (by omega) (by decide)] at h22
          try rw [show (6 : Int32) = nI 6 from rfl, nI_eq (by omega) (by decide)] at h28
          try rw [show (9 : Int32) = nI 9 from rfl, nI_eq (by omega) (by decide)] at h34
          try rw [show (11 : Int32) = nI 11 from rfl, nI_eq (by omega) (by decide)] at h40
          refine g_iret dX8_monthLength_50 rfl rfl (Nat.le_of_ble_eq_true rfl) (Nat.le_of_ble_eq_true rfl) ?_
          first
            | exact gq hQ (by rw [ml, if_neg h2, if_pos (by omega)]; rfl)
            | exact gq hQ (by rw [ml, if_neg h2, if_neg (by omega)]; rfl)
        · refine g_iload_n (pc' := 38) dX8_monthLength_37 rfl rfl ?_
          refine g_bipush (pc' := 40) (v := 11) dX8_monthLength_38 rfl rfl ?_
          refine g_icmp_ne dX8_monthLength_40 (tg := 48) (pc' := 43) (by decide) rfl (fun h40 => ?_) (fun h40 => ?_)
          · refine g_bipush (pc' := 50) (v := 31) dX8_monthLength_48 rfl rfl ?_
            try rw [show (4 : Int32) = nI 4 from rfl, nI_eq (by omega) (by decide)] at h22
            try rw [show (6 : Int32) = nI 6 from rfl, nI_eq (by omega) (by decide)] at h28
            try rw [show (9 : Int32) = nI 9 from rfl, nI_eq (by omega) (by decide)] at h34
            try rw [show (11 : Int32) = nI 11 from rfl, nI_eq (by omega) (by decide)] at h40
            refine g_iret dX8_monthLength_50 rfl rfl (Nat.le_of_ble_eq_true rfl) (Nat.le_of_ble_eq_true rfl) ?_
            first
              | exact gq hQ (by rw [ml, if_neg h2, if_pos (by omega)]; rfl)
              | exact gq hQ (by rw [ml, if_neg h2, if_neg (by omega)]; rfl)
          · refine g_bipush (pc' := 45) (v := 30) dX8_monthLength_43 rfl rfl ?_
            refine g_goto dX8_monthLength_45 (pc' := 50) (by decide) ?_
            try rw [show (4 : Int32) = nI 4 from rfl, nI_eq (by omega) (by decide)] at h22
            try rw [show (6 : Int32) = nI 6 from rfl, nI_eq (by omega) (by decide)] at h28
            try rw [show (9 : Int32) = nI 9 from rfl, nI_eq (by omega) (by decide)] at h34
            try rw [show (11 : Int32) = nI 11 from rfl, nI_eq (by omega) (by decide)] at h40
            refine g_iret dX8_monthLength_50 rfl rfl (Nat.le_of_ble_eq_true rfl) (Nat.le_of_ble_eq_true rfl) ?_
            first
              | exact gq hQ (by rw [ml, if_neg h2, if_pos (by omega)]; rfl)
              | exact gq hQ (by rw [ml, if_neg h2, if_neg (by omega)]; rfl)
  · try rw [show (2 : Int32) = nI 2 from rfl, nI_eq (by omega) (by decide)] at h2
    refine g_iload_n (pc' := 6) dX8_monthLength_5 rfl rfl ?_
    refine gcs1 (pc' := 9) cwX8_121 dX8_monthLength_6 rfl (Nat.le_of_ble_eq_true rfl) (Nat.le_of_ble_eq_true rfl) (Nat.le_of_ble_eq_true rfl) (Nat.le_of_ble_eq_true rfl) (Nat.le_of_ble_eq_true rfl) (kX8_isLeap hy ?_)
    refine g_if_eq dX8_monthLength_9 (tg := 17) (pc' := 12) (by decide) rfl (fun h9 => ?_) (fun h9 => ?_)
    · refine g_bipush (pc' := 19) (v := 28) dX8_monthLength_17 rfl rfl ?_
      refine g_iret dX8_monthLength_19 rfl rfl (Nat.le_of_ble_eq_true rfl) (Nat.le_of_ble_eq_true rfl) ?_
      first
        | exact gq hQ (by rw [ml, if_pos h2, if_neg (bbn h9)]; rfl)
        | exact gq hQ (by rw [ml, if_pos h2, if_pos (bbp h9)]; rfl)
    · refine g_bipush (pc' := 14) (v := 29) dX8_monthLength_12 rfl rfl ?_
      refine g_goto dX8_monthLength_14 (pc' := 19) (by decide) ?_
      refine g_iret dX8_monthLength_19 rfl rfl (Nat.le_of_ble_eq_true rfl) (Nat.le_of_ble_eq_true rfl) ?_
      first
        | exact gq hQ (by rw [ml, if_pos h2, if_neg (bbn h9)]; rfl)
        | exact gq hQ (by rw [ml, if_pos h2, if_pos (bbp h9)]; rfl)

set_option maxRecDepth 100000 in
set_option maxHeartbeats 2000000 in
theorem kX8_weekdayOf {E : gE} {S : gS} {w : Nat} {Q : Option gV → gS → Prop} (hw : w < 2 ^ 20) (hQ : Q (some (vI (nI ((w + 6) % 7)))) S) : gRun E mX8_weekdayOf 1 0 0 [vI (nI w)] S [] Q := by
  refine gRun_of (ls := [some (vI (nI w))]) rfl (Nat.le_of_ble_eq_true rfl) rfl (fun ad => ?_)
  refine g_iload_n (pc' := 1) dX8_weekdayOf_0 rfl rfl ?_
  refine g_bipush (pc' := 3) (v := 6) dX8_weekdayOf_1 rfl rfl ?_
  refine g_iadd (pc' := 4) dX8_weekdayOf_3 rfl ?_
  rw [show (6 : Int32) = nI 6 from rfl, nI_add]
  refine g_bipush (pc' := 6) (v := 7) dX8_weekdayOf_4 rfl rfl ?_
  refine g_irem (pc' := 7) dX8_weekdayOf_6 rfl (by decide) ?_
  rw [show (7 : Int32) = nI 7 from rfl, nI_rem (by omega) (by decide) (by decide)]
  refine g_iret dX8_weekdayOf_7 rfl rfl (Nat.le_of_ble_eq_true rfl) (Nat.le_of_ble_eq_true rfl) ?_
  exact hQ

set_option maxRecDepth 100000 in
set_option maxHeartbeats 2000000 in
theorem kX8_date {E : gE} {S : gS} {w : Nat} {Q : Option gV → gS → Prop} (hM : ModS S) (hw : w < 13889) (hQ : Q none (tMD S w)) : gRun E mX8_date 3 0 0 [vR 8 0 0, vI (nI w)] S [] Q := by
  refine gRun_of (ls := [some (vR 8 0 0), some (vI (nI w)), none]) rfl (Nat.le_of_ble_eq_true rfl) rfl (fun ad => ?_)
  obtain ⟨l8, l20, l21, l22, l23, l24, l25, l26, l27, l28, l29, l30, l31, l32, l33, l34, l35, r262, r265, r266, r267, r268, r269, r270, r271, r272, r273, r274, r275, r276, r277, r278, r280⟩ := id hM
  have E1 : ∀ n r : Nat, n < 1000 → w = cyr n + r → r < yl (2000 + n) → gG E mX8_date (gBof 3 0 0 ad [] Q) 67 [some (vR 8 0 0), some (vI (nI w)), some (vI (nI r))] [] (sfI S 281 0 0 (nI (2000 + n))) 0 0 := by
    intro n r hn hr hy
    generalize hY0 : 2000 + n = Y at *
    have hY : 2000 ≤ Y ∧ Y < 2 ^ 20 := by omega
    have hwY : w < cyr (Y - 2000 + 1) := by
      have q7 : cyr (Y - 2000 + 1) = cyr (Y - 2000) + yl Y := by
        show _ + yl (2000 + (Y - 2000)) = _
        rw [show 2000 + (Y - 2000) = Y by omega]
      rw [q7, show Y - 2000 = n by omega]
      omega
    have E2 : ∀ m r : Nat, 1 ≤ m → m ≤ 12 → w = cyr (Y - 2000) + cmo Y (m - 1) + r → r < ml Y m → gG E mX8_date (gBof 3 0 0 ad [] Q) 114 [some (vR 8 0 0), some (vI (nI w)), some (vI (nI r))] [] (sfI (sfI S 281 0 0 (nI Y)) 282 0 0 (nI m)) 0 0 := by
      intro m r h1 h2 h3 h4
      obtain ⟨e1, e2, e3⟩ := date_eq (w := w) (y := Y) (m := m) (d := r + 1) ⟨hY.1, h1, h2, by omega, by omega, by rw [Nat.add_sub_cancel]; exact h3⟩
      refine g_aload_n (pc' := 115) dX8_date_114 rfl rfl ?_
      refine g_iload_n (pc' := 116) dX8_date_115 rfl rfl ?_
      refine g_iconst (pc' := 117) (v := 1) dX8_date_116 rfl rfl ?_
      refine g_iadd (pc' := 118) dX8_date_117 rfl ?_
      rw [nI_1]
      refine gpX8_133 (pc' := 121) rfl dX8_date_118 rfl l8 ?_
      refine g_vret dX8_date_121 rfl (Nat.le_of_ble_eq_true rfl) (Nat.le_of_ble_eq_true rfl) ?_
      exact gqv hQ (by rw [tMD, e1, e2, e3])
    have L2 : ∀ (k m r : Nat) (_ : r < k) (h1 : 1 ≤ m) (h2 : m ≤ 12) (hr : w = cyr (Y - 2000) + cmo Y (m - 1) + r), gG E mX8_date (gBof 3 0 0 ad [] Q) 72 [some (vR 8 0 0), some (vI (nI w)), some (vI (nI r))] [] (sfI (sfI S 281 0 0 (nI Y)) 282 0 0 (nI m)) 0 0 := by
      intro k
      induction k with
      | zero => intro m r h; omega
      | succ k ih =>
      intro m r hk h1 h2 hr
      refine g_iload_n (pc' := 73) dX8_date_72 rfl rfl ?_
      refine g_aload_n (pc' := 74) dX8_date_73 rfl rfl ?_
      refine ggX8_124 (pc' := 77) rfl dX8_date_74 rfl l8 ?_
      refine g_aload_n (pc' := 78) dX8_date_77 rfl rfl ?_
      refine ggX8_127 (pc' := 81) rfl dX8_date_78 rfl l8 ?_
      refine gcs2 (pc' := 84) cwX8_130 dX8_date_81 rfl (Nat.le_of_ble_eq_true rfl) (Nat.le_of_ble_eq_true rfl) (Nat.le_of_ble_eq_true rfl) (Nat.le_of_ble_eq_true rfl) (Nat.le_of_ble_eq_true rfl) (kX8_monthLength (y := Y) (m := m) (by omega) (by omega) ?_)
      refine g_icmp_lt dX8_date_84 (tg := 114) (pc' := 87) (by decide) rfl (fun h84 => ?_) (fun h84 => ?_)
      · exact E2 m r h1 h2 hr (by rw [nI_ltI (by omega) (by have := ml_pos Y m; omega)] at h84; exact h84)
      · refine g_iload_n (pc' := 88) dX8_date_87 rfl rfl ?_
        refine g_aload_n (pc' := 89) dX8_date_88 rfl rfl ?_
        refine ggX8_124 (pc' := 92) rfl dX8_date_89 rfl l8 ?_
        refine g_aload_n (pc' := 93) dX8_date_92 rfl rfl ?_
        refine ggX8_127 (pc' := 96) rfl dX8_date_93 rfl l8 ?_
        refine gcs2 (pc' := 99) cwX8_130 dX8_date_96 rfl (Nat.le_of_ble_eq_true rfl) (Nat.le_of_ble_eq_true rfl) (Nat.le_of_ble_eq_true rfl) (Nat.le_of_ble_eq_true rfl) (Nat.le_of_ble_eq_true rfl) (kX8_monthLength (y := Y) (m := m) (by omega) (by omega) ?_)
        refine g_isub (pc' := 100) dX8_date_99 rfl ?_
        refine gistore_n2 (pc' := 101) dX8_date_100 rfl (Nat.le_of_ble_eq_true rfl) rfl ?_
        refine g_aload_n (pc' := 102) dX8_date_101 rfl rfl ?_
        refine g_aload_n (pc' := 103) dX8_date_102 rfl rfl ?_
        refine ggX8_127 (pc' := 106) rfl dX8_date_103 rfl l8 ?_
        refine g_iconst (pc' := 107) (v := 1) dX8_date_106 rfl rfl ?_
        refine g_iadd (pc' := 108) dX8_date_107 rfl ?_
        refine gpX8_127 (pc' := 111) rfl dX8_date_108 rfl l8 ?_
        refine g_goto dX8_date_111 (pc' := 72) (by decide) ?_
        rw [nI_ltI (by omega) (by have := ml_pos Y m; omega)] at h84
        rw [pk_sub (by omega)]
        refine gG.eqS (show _ = sfI (sfI S 281 0 0 (nI Y)) 282 0 0 (nI (m + 1)) from (sfI_sfI).trans (congrArg (sfI (sfI S 281 0 0 (nI Y)) 282 0 0) (nI_1 m))) ?_
        obtain ⟨m0, rfl⟩ : ∃ m0, m = m0 + 1 := ⟨m - 1, by omega⟩
        have q3 : w = cyr (Y - 2000) + cmo Y m0 + r := hr
        have q4 : cmo Y (m0 + 1) = cmo Y m0 + ml Y (m0 + 1) := rfl
        have h12 : m0 + 1 < 12 := by
          rcases Nat.lt_or_ge (m0 + 1) 12 with q | q
          · exact q
          · exfalso
            have e : m0 + 1 = 12 := by omega
            have q5 := cmo_12 Y
            have q8 : cmo Y (m0 + 1) = cmo Y 12 := by rw [e]
            have q7 : cyr (Y - 2000 + 1) = cyr (Y - 2000) + yl Y := by
              show _ + yl (2000 + (Y - 2000)) = _
              rw [show 2000 + (Y - 2000) = Y by omega]
            omega
        refine ih (m0 + 1 + 1) (r - ml Y (m0 + 1)) (by have := ml_pos Y (m0 + 1); omega) (by omega) (by omega) ?_
        show w = cyr (Y - 2000) + (cmo Y m0 + ml Y (m0 + 1)) + (r - ml Y (m0 + 1))
        omega
    subst hY0
    refine g_aload_n (pc' := 68) dX8_date_67 rfl rfl ?_
    refine g_iconst (pc' := 69) (v := 1) dX8_date_68 rfl rfl ?_
    refine gpX8_127 (pc' := 72) rfl dX8_date_69 rfl l8 ?_
    exact L2 (r + 1) 1 r (by omega) (by omega) (by omega) (by show w = cyr (2000 + n - 2000) + 0 + r; rw [Nat.add_sub_cancel_left]; omega)
  have L1 : ∀ (k n r : Nat) (_ : r < k) (hr : w = cyr n + r), gG E mX8_date (gBof 3 0 0 ad [] Q) 9 [some (vR 8 0 0), some (vI (nI w)), some (vI (nI r))] [] (sfI S 281 0 0 (nI (2000 + n))) 0 0 := by
    intro k
    induction k with
    | zero => intro n r h; omega
    | succ k ih =>
      intro n r hk hr
      have hn : n < 1000 := by have := cyr_ge n; omega
      cases hl : leap (2000 + n) with
      | true =>
        have hyl : yl (2000 + n) = 366 := by rw [yl, hl]; rfl
        refine g_iload_n (pc' := 10) dX8_date_9 rfl rfl ?_
        refine g_aload_n (pc' := 11) dX8_date_10 rfl rfl ?_
        refine ggX8_124 (pc' := 14) rfl dX8_date_11 rfl l8 ?_
        refine gcs1 (pc' := 17) cwX8_121 dX8_date_14 rfl (Nat.le_of_ble_eq_true rfl) (Nat.le_of_ble_eq_true rfl) (Nat.le_of_ble_eq_true rfl) (Nat.le_of_ble_eq_true rfl) (Nat.le_of_ble_eq_true rfl) (kX8_isLeap (y := 2000 + n) (by omega) ?_)
        refine g_if_eq dX8_date_17 (tg := 26) (pc' := 20) (by decide) rfl (fun h17 => absurd h17 (by rw [hl]; decide)) (fun h17 => ?_)
        refine g_sipush (pc' := 23) (v := 366) dX8_date_20 rfl rfl ?_
        refine g_goto dX8_date_23 (pc' := 29) (by decide) ?_
        refine g_icmp_lt dX8_date_29 (tg := 67) (pc' := 32) (by decide) rfl (fun h29 => ?_) (fun h29 => ?_)
        · exact E1 n r hn hr (by rw [show (366 : Int32) = nI 366 from rfl, nI_ltI (by omega) (by decide)] at h29; omega)
        · refine g_iload_n (pc' := 33) dX8_date_32 rfl rfl ?_
          refine g_aload_n (pc' := 34) dX8_date_33 rfl rfl ?_
          refine ggX8_124 (pc' := 37) rfl dX8_date_34 rfl l8 ?_
          refine gcs1 (pc' := 40) cwX8_121 dX8_date_37 rfl (Nat.le_of_ble_eq_true rfl) (Nat.le_of_ble_eq_true rfl) (Nat.le_of_ble_eq_true rfl) (Nat.le_of_ble_eq_true rfl) (Nat.le_of_ble_eq_true rfl) (kX8_isLeap (y := 2000 + n) (by omega) ?_)
          refine g_if_eq dX8_date_40 (tg := 49) (pc' := 43) (by decide) rfl (fun h40 => absurd h40 (by rw [hl]; decide)) (fun h40 => ?_)
          refine g_sipush (pc' := 46) (v := 366) dX8_date_43 rfl rfl ?_
          refine g_goto dX8_date_46 (pc' := 52) (by decide) ?_
          refine g_isub (pc' := 53) dX8_date_52 rfl ?_
          refine gistore_n2 (pc' := 54) dX8_date_53 rfl (Nat.le_of_ble_eq_true rfl) rfl ?_
          refine g_aload_n (pc' := 55) dX8_date_54 rfl rfl ?_
          refine g_aload_n (pc' := 56) dX8_date_55 rfl rfl ?_
          refine ggX8_124 (pc' := 59) rfl dX8_date_56 rfl l8 ?_
          refine g_iconst (pc' := 60) (v := 1) dX8_date_59 rfl rfl ?_
          refine g_iadd (pc' := 61) dX8_date_60 rfl ?_
          refine gpX8_124 (pc' := 64) rfl dX8_date_61 rfl l8 ?_
          refine g_goto dX8_date_64 (pc' := 9) (by decide) ?_
          rw [show (366 : Int32) = nI 366 from rfl, nI_ltI (by omega) (by decide)] at h29
          rw [show (366 : Int32) = nI 366 from rfl, pk_sub (by omega)]
          refine gG.eqS (show _ = sfI S 281 0 0 (nI (2000 + (n + 1))) from (sfI_sfI).trans (congrArg (sfI S 281 0 0) (nI_1 (2000 + n)))) ?_
          refine ih (n + 1) (r - 366) (by omega) ?_
          show w = cyr n + yl (2000 + n) + (r - 366)
          omega
      | false =>
        have hyl : yl (2000 + n) = 365 := by rw [yl, hl]; rfl
        refine g_iload_n (pc' := 10) dX8_date_9 rfl rfl ?_
        refine g_aload_n (pc' := 11) dX8_date_10 rfl rfl ?_
        refine ggX8_124 (pc' := 14) rfl dX8_date_11 rfl l8 ?_
        refine gcs1 (pc' := 17) cwX8_121 dX8_date_14 rfl (Nat.le_of_ble_eq_true rfl) (Nat.le_of_ble_eq_true rfl) (Nat.le_of_ble_eq_true rfl) (Nat.le_of_ble_eq_true rfl) (Nat.le_of_ble_eq_true rfl) (kX8_isLeap (y := 2000 + n) (by omega) ?_)
        refine g_if_eq dX8_date_17 (tg := 26) (pc' := 20) (by decide) rfl (fun h17 => ?_) (fun h17 => absurd (by rw [hl]; rfl) h17)
        refine g_sipush (pc' := 29) (v := 365) dX8_date_26 rfl rfl ?_
        refine g_icmp_lt dX8_date_29 (tg := 67) (pc' := 32) (by decide) rfl (fun h29 => ?_) (fun h29 => ?_)
        · exact E1 n r hn hr (by rw [show (365 : Int32) = nI 365 from rfl, nI_ltI (by omega) (by decide)] at h29; omega)
        · refine g_iload_n (pc' := 33) dX8_date_32 rfl rfl ?_
          refine g_aload_n (pc' := 34) dX8_date_33 rfl rfl ?_
          refine ggX8_124 (pc' := 37) rfl dX8_date_34 rfl l8 ?_
          refine gcs1 (pc' := 40) cwX8_121 dX8_date_37 rfl (Nat.le_of_ble_eq_true rfl) (Nat.le_of_ble_eq_true rfl) (Nat.le_of_ble_eq_true rfl) (Nat.le_of_ble_eq_true rfl) (Nat.le_of_ble_eq_true rfl) (kX8_isLeap (y := 2000 + n) (by omega) ?_)
          refine g_if_eq dX8_date_40 (tg := 49) (pc' := 43) (by decide) rfl (fun h40 => ?_) (fun h40 => absurd (by rw [hl]; rfl) h40)
          refine g_sipush (pc' := 52) (v := 365) dX8_date_49 rfl rfl ?_
          refine g_isub (pc' := 53) dX8_date_52 rfl ?_
          refine gistore_n2 (pc' := 54) dX8_date_53 rfl (Nat.le_of_ble_eq_true rfl) rfl ?_
          refine g_aload_n (pc' := 55) dX8_date_54 rfl rfl ?_
          refine g_aload_n (pc' := 56) dX8_date_55 rfl rfl ?_
          refine ggX8_124 (pc' := 59) rfl dX8_date_56 rfl l8 ?_
          refine g_iconst (pc' := 60) (v := 1) dX8_date_59 rfl rfl ?_
          refine g_iadd (pc' := 61) dX8_date_60 rfl ?_
          refine gpX8_124 (pc' := 64) rfl dX8_date_61 rfl l8 ?_
          refine g_goto dX8_date_64 (pc' := 9) (by decide) ?_
          rw [show (365 : Int32) = nI 365 from rfl, nI_ltI (by omega) (by decide)] at h29
          rw [show (365 : Int32) = nI 365 from rfl, pk_sub (by omega)]
          refine gG.eqS (show _ = sfI S 281 0 0 (nI (2000 + (n + 1))) from (sfI_sfI).trans (congrArg (sfI S 281 0 0) (nI_1 (2000 + n)))) ?_
          refine ih (n + 1) (r - 365) (by omega) ?_
          show w = cyr n + yl (2000 + n) + (r - 365)
          omega
  refine g_iload_n (pc' := 1) dX8_date_0 rfl rfl ?_
  refine gistore_n2 (pc' := 2) dX8_date_1 rfl (Nat.le_of_ble_eq_true rfl) rfl ?_
  refine g_aload_n (pc' := 3) dX8_date_2 rfl rfl ?_
  refine g_sipush (pc' := 6) (v := 2000) dX8_date_3 rfl rfl ?_
  refine gpX8_124 (pc' := 9) rfl dX8_date_6 rfl l8 ?_
  exact L1 (w + 1) 0 w (by omega) (by rw [show cyr 0 = 0 from rfl]; omega)

set_option maxRecDepth 100000 in
set_option maxHeartbeats 2000000 in
theorem kX8_holdsIn {E : gE} {S : gS} {y : Nat → Nat} {L j t : Nat} {Q : Option gV → gS → Prop} (hM : ModS S) (hX : XM S j y L) (hj : j < 6) (ht : t < 1440) (hQ : Q (some (vI (bI (mTime y t)))) S) : gRun E mX8_holdsIn 7 0 0 [vR 8 0 0, vI (nI j), vI (nI t)] S [] Q := by
  refine gRun_of (ls := [some (vR 8 0 0), some (vI (nI j)), some (vI (nI t))]) rfl (Nat.le_of_ble_eq_true rfl) rfl (fun ad => ?_)
  obtain ⟨l8, l20, l21, l22, l23, l24, l25, l26, l27, l28, l29, l30, l31, l32, l33, l34, l35, r262, r265, r266, r267, r268, r269, r270, r271, r272, r273, r274, r275, r276, r277, r278, r280⟩ := id hM
  obtain ⟨e0, hF0, he0⟩ := hX.fe (f := 0) (by decide)
  obtain ⟨e1, hF1, he1⟩ := hX.fe (f := 1) (by decide)
  refine g_aload_n (pc' := 1) dX8_holdsIn_0 rfl rfl ?_
  refine g_iload_n (pc' := 2) dX8_holdsIn_1 rfl rfl ?_
  refine g_iconst (pc' := 3) (v := 0) dX8_holdsIn_2 rfl rfl ?_
  refine g_iload_n (pc' := 4) dX8_holdsIn_3 rfl rfl ?_
  refine g_bipush (pc' := 6) (v := 60) dX8_holdsIn_4 rfl rfl ?_
  refine g_irem (pc' := 7) dX8_holdsIn_6 rfl (by decide) ?_
  rw [show (60 : Int32) = nI 60 from rfl, nI_rem (by omega) (by decide) (by decide)]
  rw [show (0 : Int32) = nI 0 from rfl]
  refine gcv3 (pc' := 10) cwX8_143 cf8 dX8_holdsIn_7 rfl l8 (Nat.le_of_ble_eq_true rfl) (Nat.le_of_ble_eq_true rfl) (Nat.le_of_ble_eq_true rfl) (Nat.le_of_ble_eq_true rfl) (Nat.le_of_ble_eq_true rfl) (kX8_has (f := 0) (v := t % 60) hM hX.1 hX.2.1 hX.2.2.1 hj (by decide) (hX.2.2.2.2 0 (by decide)) hF0 he0 (by omega) ?_)
  refine g_if_eq dX8_holdsIn_10 (tg := 30) (pc' := 13) (by decide) rfl (fun h10 => ?_) (fun h10 => ?_)
  · refine g_iconst (pc' := 31) (v := 0) dX8_holdsIn_30 rfl rfl ?_
    refine g_iret dX8_holdsIn_31 rfl rfl (Nat.le_of_ble_eq_true rfl) (Nat.le_of_ble_eq_true rfl) ?_
    first
      | exact gq hQ (by rw [mTime, mH, mH, bI_f.mp h10]; rfl)
      | exact gq hQ (by rw [mTime, mH, mH, bbp h10, bI_f.mp h23]; rfl)
      | exact gq hQ (by rw [mTime, mH, mH, bbp h10, bbp h23]; rfl)
  · refine g_aload_n (pc' := 14) dX8_holdsIn_13 rfl rfl ?_
    refine g_iload_n (pc' := 15) dX8_holdsIn_14 rfl rfl ?_
    refine g_iconst (pc' := 16) (v := 1) dX8_holdsIn_15 rfl rfl ?_
    refine g_iload_n (pc' := 17) dX8_holdsIn_16 rfl rfl ?_
    refine g_bipush (pc' := 19) (v := 60) dX8_holdsIn_17 rfl rfl ?_
    refine g_idiv (pc' := 20) dX8_holdsIn_19 rfl (by decide) ?_
    rw [show (60 : Int32) = nI 60 from rfl, pk_div (by omega) (by decide) (by decide)]
    rw [show (1 : Int32) = nI 1 from rfl]
    refine gcv3 (pc' := 23) cwX8_143 cf8 dX8_holdsIn_20 rfl l8 (Nat.le_of_ble_eq_true rfl) (Nat.le_of_ble_eq_true rfl) (Nat.le_of_ble_eq_true rfl) (Nat.le_of_ble_eq_true rfl) (Nat.le_of_ble_eq_true rfl) (kX8_has (f := 1) (v := t / 60) hM hX.1 hX.2.1 hX.2.2.1 hj (by decide) (hX.2.2.2.2 1 (by decide)) hF1 he1 (by omega) ?_)
    refine g_if_eq dX8_holdsIn_23 (tg := 30) (pc' := 26) (by decide) rfl (fun h23 => ?_) (fun h23 => ?_)
    · refine g_iconst (pc' := 31) (v := 0) dX8_holdsIn_30 rfl rfl ?_
      refine g_iret dX8_holdsIn_31 rfl rfl (Nat.le_of_ble_eq_true rfl) (Nat.le_of_ble_eq_true rfl) ?_
      first
        | exact gq hQ (by rw [mTime, mH, mH, bI_f.mp h10]; rfl)
        | exact gq hQ (by rw [mTime, mH, mH, bbp h10, bI_f.mp h23]; rfl)
        | exact gq hQ (by rw [mTime, mH, mH, bbp h10, bbp h23]; rfl)
    · refine g_iconst (pc' := 27) (v := 1) dX8_holdsIn_26 rfl rfl ?_
      refine g_goto dX8_holdsIn_27 (pc' := 31) (by decide) ?_
      refine g_iret dX8_holdsIn_31 rfl rfl (Nat.le_of_ble_eq_true rfl) (Nat.le_of_ble_eq_true rfl) ?_
      first
        | exact gq hQ (by rw [mTime, mH, mH, bI_f.mp h10]; rfl)
        | exact gq hQ (by rw [mTime, mH, mH, bbp h10, bI_f.mp h23]; rfl)
        | exact gq hQ (by rw [mTime, mH, mH, bbp h10, bbp h23]; rfl)

set_option maxRecDepth 100000 in
set_option maxHeartbeats 2000000 in
theorem kX8_holdsOn {E : gE} {S : gS} {y : Nat → Nat} {L j w : Nat} {Q : Option gV → gS → Prop} (hM : ModS S) (hX : XM S j y L) (hj : j < 6) (hw : w < 13889) (hQ : Q (some (vI (bI (mDay y w)))) (tMD S w)) : gRun E mX8_holdsOn 7 0 0 [vR 8 0 0, vI (nI j), vI (nI w)] S [] Q := by
  refine gRun_of (ls := [some (vR 8 0 0), some (vI (nI j)), some (vI (nI w)), none, none, none, none]) rfl (Nat.le_of_ble_eq_true rfl) rfl (fun ad => ?_)
  obtain ⟨e2, hF2, he2⟩ := hX.fe (f := 2) (by decide)
  obtain ⟨e3, hF3, he3⟩ := hX.fe (f := 3) (by decide)
  obtain ⟨e4, hF4, he4⟩ := hX.fe (f := 4) (by decide)
  have hMT : ModS (tMD S w) := hM.of rfl rfl
  have hXT : XM (tMD S w) j y L := hX.rest rfl
  have hdm := dM_in w
  have hdd := dD_in w
  have e3 : fI (tMD S w) 282 0 0 = nI (dM w) := rfl
  have e4 : fI (tMD S w) 283 0 0 = nI (dD w) := rfl
  have hl8 : lv S 8 0 0 := hM.1
  have hv6 : (w + 6) % 7 < 7 := Nat.mod_lt _ (by decide)
  refine g_aload_n (pc' := 1) dX8_holdsOn_0 rfl rfl ?_
  refine g_iload_n (pc' := 2) dX8_holdsOn_1 rfl rfl ?_
  refine gcv1 (pc' := 5) cwX8_136 cf8 dX8_holdsOn_2 rfl hl8 (Nat.le_of_ble_eq_true rfl) (Nat.le_of_ble_eq_true rfl) (Nat.le_of_ble_eq_true rfl) (Nat.le_of_ble_eq_true rfl) (Nat.le_of_ble_eq_true rfl) (kX8_date hM hw ?_)
  refine g_iload_n (pc' := 6) dX8_holdsOn_5 rfl rfl ?_
  refine gcs1 (pc' := 9) cwX8_140 dX8_holdsOn_6 rfl (Nat.le_of_ble_eq_true rfl) (Nat.le_of_ble_eq_true rfl) (Nat.le_of_ble_eq_true rfl) (Nat.le_of_ble_eq_true rfl) (Nat.le_of_ble_eq_true rfl) (kX8_weekdayOf (by omega) ?_)
  refine gistore_n3 (pc' := 10) dX8_holdsOn_9 rfl (Nat.le_of_ble_eq_true rfl) rfl ?_
  refine g_aload_n (pc' := 11) dX8_holdsOn_10 rfl rfl ?_
  refine g_iload_n (pc' := 12) dX8_holdsOn_11 rfl rfl ?_
  refine g_iconst (pc' := 13) (v := 2) dX8_holdsOn_12 rfl rfl ?_
  refine g_aload_n (pc' := 14) dX8_holdsOn_13 rfl rfl ?_
  refine ggX8_133 (pc' := 17) rfl dX8_holdsOn_14 rfl hMT.1 ?_
  rw [e4, show (2 : Int32) = nI 2 from rfl]
  refine gcv3 (pc' := 20) cwX8_143 cf8 dX8_holdsOn_17 rfl hMT.1 (Nat.le_of_ble_eq_true rfl) (Nat.le_of_ble_eq_true rfl) (Nat.le_of_ble_eq_true rfl) (Nat.le_of_ble_eq_true rfl) (Nat.le_of_ble_eq_true rfl) (kX8_has (f := 2) (v := dD w) hMT hXT.1 hXT.2.1 hXT.2.2.1 hj (by decide) (hXT.2.2.2.2 2 (by decide)) hF2 he2 (by omega) ?_)
  refine gistore4 (pc' := 22) dX8_holdsOn_20 rfl (Nat.le_of_ble_eq_true rfl) rfl ?_
  refine g_aload_n (pc' := 23) dX8_holdsOn_22 rfl rfl ?_
  refine g_iload_n (pc' := 24) dX8_holdsOn_23 rfl rfl ?_
  refine g_iconst (pc' := 25) (v := 4) dX8_holdsOn_24 rfl rfl ?_
  refine g_iload_n (pc' := 26) dX8_holdsOn_25 rfl rfl ?_
  rw [show (4 : Int32) = nI 4 from rfl]
  refine gcv3 (pc' := 29) cwX8_143 cf8 dX8_holdsOn_26 rfl hMT.1 (Nat.le_of_ble_eq_true rfl) (Nat.le_of_ble_eq_true rfl) (Nat.le_of_ble_eq_true rfl) (Nat.le_of_ble_eq_true rfl) (Nat.le_of_ble_eq_true rfl) (kX8_has (f := 4) (v := (w + 6) % 7) hMT hXT.1 hXT.2.1 hXT.2.2.1 hj (by decide) (hXT.2.2.2.2 4 (by decide)) hF4 he4 (by omega) ?_)
  refine g_if_ne dX8_holdsOn_29 (tg := 47) (pc' := 32) (by decide) rfl (fun h29 => ?_) (fun h29 => ?_)
  · refine g_iconst (pc' := 48) (v := 1) dX8_holdsOn_47 rfl rfl ?_
    refine g_goto dX8_holdsOn_48 (pc' := 52) (by decide) ?_
    try rw [show (0 : Int32) = nI 0 from rfl, nI_eq (by omega) (by decide)] at h33
    refine gistore5 (pc' := 54) dX8_holdsOn_52 rfl (Nat.le_of_ble_eq_true rfl) rfl ?_
    refine g_aload_n (pc' := 55) dX8_holdsOn_54 rfl rfl ?_
    refine g_iload_n (pc' := 56) dX8_holdsOn_55 rfl rfl ?_
    refine g_iconst (pc' := 57) (v := 2) dX8_holdsOn_56 rfl rfl ?_
    rw [show (2 : Int32) = nI 2 from rfl]
    refine gcv2 (pc' := 60) cwX8_146 cf8 dX8_holdsOn_57 rfl hMT.1 (Nat.le_of_ble_eq_true rfl) (Nat.le_of_ble_eq_true rfl) (Nat.le_of_ble_eq_true rfl) (Nat.le_of_ble_eq_true rfl) (Nat.le_of_ble_eq_true rfl) (kX8_isFree (f := 2) hMT hXT.1 hXT.2.1 hXT.2.2.1 hj (by decide) (hXT.2.2.2.2 2 (by decide)) hF2 he2 ?_)
    refine g_if_ne dX8_holdsOn_60 (tg := 72) (pc' := 63) (by decide) rfl (fun h60 => ?_) (fun h60 => ?_)
    · refine g_iconst (pc' := 73) (v := 1) dX8_holdsOn_72 rfl rfl ?_
      refine g_goto dX8_holdsOn_73 (pc' := 77) (by decide) ?_
      refine gistore6 (pc' := 79) dX8_holdsOn_77 rfl (Nat.le_of_ble_eq_true rfl) rfl ?_
      refine g_aload_n (pc' := 80) dX8_holdsOn_79 rfl rfl ?_
      refine g_iload_n (pc' := 81) dX8_holdsOn_80 rfl rfl ?_
      refine g_iconst (pc' := 82) (v := 3) dX8_holdsOn_81 rfl rfl ?_
      refine g_aload_n (pc' := 83) dX8_holdsOn_82 rfl rfl ?_
      refine ggX8_127 (pc' := 86) rfl dX8_holdsOn_83 rfl hMT.1 ?_
      rw [e3, show (3 : Int32) = nI 3 from rfl]
      refine gcv3 (pc' := 89) cwX8_143 cf8 dX8_holdsOn_86 rfl hMT.1 (Nat.le_of_ble_eq_true rfl) (Nat.le_of_ble_eq_true rfl) (Nat.le_of_ble_eq_true rfl) (Nat.le_of_ble_eq_true rfl) (Nat.le_of_ble_eq_true rfl) (kX8_has (f := 3) (v := dM w) hMT hXT.1 hXT.2.1 hXT.2.2.1 hj (by decide) (hXT.2.2.2.2 3 (by decide)) hF3 he3 (by omega) ?_)
      refine g_if_eq dX8_holdsOn_89 (tg := 124) (pc' := 92) (by decide) rfl (fun h89 => ?_) (fun h89 => ?_)
      · refine g_iconst (pc' := 125) (v := 0) dX8_holdsOn_124 rfl rfl ?_
        refine g_iret dX8_holdsOn_125 rfl rfl (Nat.le_of_ble_eq_true rfl) (Nat.le_of_ble_eq_true rfl) ?_
        refine gq hQ ?_
        show bI (FM y 3 (dM w) (fsx y 3) && (if (decide (y (fsx y 2) = 42) || decide (y (fsx y 4) = 42)) = true then (FM y 2 (dD w) (fsx y 2) && (FM y 4 ((w + 6) % 7) (fsx y 4) || (decide ((w + 6) % 7 = 0) && FM y 4 7 (fsx y 4)))) else (FM y 2 (dD w) (fsx y 2) || (FM y 4 ((w + 6) % 7) (fsx y 4) || (decide ((w + 6) % 7 = 0) && FM y 4 7 (fsx y 4)))))) = _
        first | rw [bbp h29] | rw [bI_f.mp h29] | skip
        first | rw [bbp h60] | rw [bI_f.mp h60] | skip
        first | rw [bbp h89] | rw [bI_f.mp h89] | skip
        first | rfl | simp [bI]
      · refine g_iload (pc' := 94) dX8_holdsOn_92 rfl rfl ?_
        refine g_if_eq dX8_holdsOn_94 (tg := 110) (pc' := 97) (by decide) rfl (fun h94 => absurd h94 (by decide)) (fun h94 => ?_)
        refine g_iload (pc' := 99) dX8_holdsOn_97 rfl rfl ?_
        refine g_if_eq dX8_holdsOn_99 (tg := 124) (pc' := 102) (by decide) rfl (fun h99 => ?_) (fun h99 => ?_)
        · refine g_iconst (pc' := 125) (v := 0) dX8_holdsOn_124 rfl rfl ?_
          refine g_iret dX8_holdsOn_125 rfl rfl (Nat.le_of_ble_eq_true rfl) (Nat.le_of_ble_eq_true rfl) ?_
          refine gq hQ ?_
          show bI (FM y 3 (dM w) (fsx y 3) && (if (decide (y (fsx y 2) = 42) || decide (y (fsx y 4) = 42)) = true then (FM y 2 (dD w) (fsx y 2) && (FM y 4 ((w + 6) % 7) (fsx y 4) || (decide ((w + 6) % 7 = 0) && FM y 4 7 (fsx y 4)))) else (FM y 2 (dD w) (fsx y 2) || (FM y 4 ((w + 6) % 7) (fsx y 4) || (decide ((w + 6) % 7 = 0) && FM y 4 7 (fsx y 4)))))) = _
          first | rw [bbp h29] | rw [bI_f.mp h29] | skip
          first | rw [bbp h60] | rw [bI_f.mp h60] | skip
          first | rw [bbp h89] | rw [bI_f.mp h89] | skip
          first | rw [bbp h99] | rw [bI_f.mp h99] | skip
          first | rfl | simp [bI]
        · refine g_iload (pc' := 104) dX8_holdsOn_102 rfl rfl ?_
          refine g_if_eq dX8_holdsOn_104 (tg := 124) (pc' := 107) (by decide) rfl (fun h104 => absurd h104 (by decide)) (fun h104 => ?_)
          refine g_goto dX8_holdsOn_107 (pc' := 120) (by decide) ?_
          refine g_iconst (pc' := 121) (v := 1) dX8_holdsOn_120 rfl rfl ?_
          refine g_goto dX8_holdsOn_121 (pc' := 125) (by decide) ?_
          refine g_iret dX8_holdsOn_125 rfl rfl (Nat.le_of_ble_eq_true rfl) (Nat.le_of_ble_eq_true rfl) ?_
          refine gq hQ ?_
          show bI (FM y 3 (dM w) (fsx y 3) && (if (decide (y (fsx y 2) = 42) || decide (y (fsx y 4) = 42)) = true then (FM y 2 (dD w) (fsx y 2) && (FM y 4 ((w + 6) % 7) (fsx y 4) || (decide ((w + 6) % 7 = 0) && FM y 4 7 (fsx y 4)))) else (FM y 2 (dD w) (fsx y 2) || (FM y 4 ((w + 6) % 7) (fsx y 4) || (decide ((w + 6) % 7 = 0) && FM y 4 7 (fsx y 4)))))) = _
          first | rw [bbp h29] | rw [bI_f.mp h29] | skip
          first | rw [bbp h60] | rw [bI_f.mp h60] | skip
          first | rw [bbp h89] | rw [bI_f.mp h89] | skip
          first | rw [bbp h99] | rw [bI_f.mp h99] | skip
          first | rfl | simp [bI]
    · refine g_aload_n (pc' := 64) dX8_holdsOn_63 rfl rfl ?_
      refine g_iload_n (pc' := 65) dX8_holdsOn_64 rfl rfl ?_
      refine g_iconst (pc' := 66) (v := 4) dX8_holdsOn_65 rfl rfl ?_
      rw [show (4 : Int32) = nI 4 from rfl]
      refine gcv2 (pc' := 69) cwX8_146 cf8 dX8_holdsOn_66 rfl hMT.1 (Nat.le_of_ble_eq_true rfl) (Nat.le_of_ble_eq_true rfl) (Nat.le_of_ble_eq_true rfl) (Nat.le_of_ble_eq_true rfl) (Nat.le_of_ble_eq_true rfl) (kX8_isFree (f := 4) hMT hXT.1 hXT.2.1 hXT.2.2.1 hj (by decide) (hXT.2.2.2.2 4 (by decide)) hF4 he4 ?_)
      refine g_if_eq dX8_holdsOn_69 (tg := 76) (pc' := 72) (by decide) rfl (fun h69 => ?_) (fun h69 => ?_)
      · refine g_iconst (pc' := 77) (v := 0) dX8_holdsOn_76 rfl rfl ?_
        refine gistore6 (pc' := 79) dX8_holdsOn_77 rfl (Nat.le_of_ble_eq_true rfl) rfl ?_
        refine g_aload_n (pc' := 80) dX8_holdsOn_79 rfl rfl ?_
        refine g_iload_n (pc' := 81) dX8_holdsOn_80 rfl rfl ?_
        refine g_iconst (pc' := 82) (v := 3) dX8_holdsOn_81 rfl rfl ?_
        refine g_aload_n (pc' := 83) dX8_holdsOn_82 rfl rfl ?_
        refine ggX8_127 (pc' := 86) rfl dX8_holdsOn_83 rfl hMT.1 ?_
        rw [e3, show (3 : Int32) = nI 3 from rfl]
        refine gcv3 (pc' := 89) cwX8_143 cf8 dX8_holdsOn_86 rfl hMT.1 (Nat.le_of_ble_eq_true rfl) (Nat.le_of_ble_eq_true rfl) (Nat.le_of_ble_eq_true rfl) (Nat.le_of_ble_eq_true rfl) (Nat.le_of_ble_eq_true rfl) (kX8_has (f := 3) (v := dM w) hMT hXT.1 hXT.2.1 hXT.2.2.1 hj (by decide) (hXT.2.2.2.2 3 (by decide)) hF3 he3 (by omega) ?_)
        refine g_if_eq dX8_holdsOn_89 (tg := 124) (pc' := 92) (by decide) rfl (fun h89 => ?_) (fun h89 => ?_)
        · refine g_iconst (pc' := 125) (v := 0) dX8_holdsOn_124 rfl rfl ?_
          refine g_iret dX8_holdsOn_125 rfl rfl (Nat.le_of_ble_eq_true rfl) (Nat.le_of_ble_eq_true rfl) ?_
          refine gq hQ ?_
          show bI (FM y 3 (dM w) (fsx y 3) && (if (decide (y (fsx y 2) = 42) || decide (y (fsx y 4) = 42)) = true then (FM y 2 (dD w) (fsx y 2) && (FM y 4 ((w + 6) % 7) (fsx y 4) || (decide ((w + 6) % 7 = 0) && FM y 4 7 (fsx y 4)))) else (FM y 2 (dD w) (fsx y 2) || (FM y 4 ((w + 6) % 7) (fsx y 4) || (decide ((w + 6) % 7 = 0) && FM y 4 7 (fsx y 4)))))) = _
          first | rw [bbp h29] | rw [bI_f.mp h29] | skip
          first | rw [bbp h60] | rw [bI_f.mp h60] | skip
          first | rw [bbp h69] | rw [bI_f.mp h69] | skip
          first | rw [bbp h89] | rw [bI_f.mp h89] | skip
          first | rfl | simp [bI]
        · refine g_iload (pc' := 94) dX8_holdsOn_92 rfl rfl ?_
          refine g_if_eq dX8_holdsOn_94 (tg := 110) (pc' := 97) (by decide) rfl (fun h94 => ?_) (fun h94 => absurd (by decide) h94)
          refine g_iload (pc' := 112) dX8_holdsOn_110 rfl rfl ?_
          refine g_if_ne dX8_holdsOn_112 (tg := 120) (pc' := 115) (by decide) rfl (fun h112 => ?_) (fun h112 => ?_)
          · refine g_iconst (pc' := 121) (v := 1) dX8_holdsOn_120 rfl rfl ?_
            refine g_goto dX8_holdsOn_121 (pc' := 125) (by decide) ?_
            refine g_iret dX8_holdsOn_125 rfl rfl (Nat.le_of_ble_eq_true rfl) (Nat.le_of_ble_eq_true rfl) ?_
            refine gq hQ ?_
            show bI (FM y 3 (dM w) (fsx y 3) && (if (decide (y (fsx y 2) = 42) || decide (y (fsx y 4) = 42)) = true then (FM y 2 (dD w) (fsx y 2) && (FM y 4 ((w + 6) % 7) (fsx y 4) || (decide ((w + 6) % 7 = 0) && FM y 4 7 (fsx y 4)))) else (FM y 2 (dD w) (fsx y 2) || (FM y 4 ((w + 6) % 7) (fsx y 4) || (decide ((w + 6) % 7 = 0) && FM y 4 7 (fsx y 4)))))) = _
            first | rw [bbp h29] | rw [bI_f.mp h29] | skip
            first | rw [bbp h60] | rw [bI_f.mp h60] | skip
            first | rw [bbp h69] | rw [bI_f.mp h69] | skip
            first | rw [bbp h89] | rw [bI_f.mp h89] | skip
            first | rw [bbp h112] | rw [bI_f.mp h112] | skip
            first | rfl | simp [bI]
          · refine g_iload (pc' := 117) dX8_holdsOn_115 rfl rfl ?_
            refine g_if_eq dX8_holdsOn_117 (tg := 124) (pc' := 120) (by decide) rfl (fun h117 => absurd h117 (by decide)) (fun h117 => ?_)
            refine g_iconst (pc' := 121) (v := 1) dX8_holdsOn_120 rfl rfl ?_
            refine g_goto dX8_holdsOn_121 (pc' := 125) (by decide) ?_
            refine g_iret dX8_holdsOn_125 rfl rfl (Nat.le_of_ble_eq_true rfl) (Nat.le_of_ble_eq_true rfl) ?_
            refine gq hQ ?_
            show bI (FM y 3 (dM w) (fsx y 3) && (if (decide (y (fsx y 2) = 42) || decide (y (fsx y 4) = 42)) = true then (FM y 2 (dD w) (fsx y 2) && (FM y 4 ((w + 6) % 7) (fsx y 4) || (decide ((w + 6) % 7 = 0) && FM y 4 7 (fsx y 4)))) else (FM y 2 (dD w) (fsx y 2) || (FM y 4 ((w + 6) % 7) (fsx y 4) || (decide ((w + 6) % 7 = 0) && FM y 4 7 (fsx y 4)))))) = _
            first | rw [bbp h29] | rw [bI_f.mp h29] | skip
            first | rw [bbp h60] | rw [bI_f.mp h60] | skip
            first | rw [bbp h69] | rw [bI_f.mp h69] | skip
            first | rw [bbp h89] | rw [bI_f.mp h89] | skip
            first | rw [bbp h112] | rw [bI_f.mp h112] | skip
            first | rfl | simp [bI]
      · refine g_iconst (pc' := 73) (v := 1) dX8_holdsOn_72 rfl rfl ?_
        refine g_goto dX8_holdsOn_73 (pc' := 77) (by decide) ?_
        refine gistore6 (pc' := 79) dX8_holdsOn_77 rfl (Nat.le_of_ble_eq_true rfl) rfl ?_
        refine g_aload_n (pc' := 80) dX8_holdsOn_79 rfl rfl ?_
        refine g_iload_n (pc' := 81) dX8_holdsOn_80 rfl rfl ?_
        refine g_iconst (pc' := 82) (v := 3) dX8_holdsOn_81 rfl rfl ?_
        refine g_aload_n (pc' := 83) dX8_holdsOn_82 rfl rfl ?_
        refine ggX8_127 (pc' := 86) rfl dX8_holdsOn_83 rfl hMT.1 ?_
        rw [e3, show (3 : Int32) = nI 3 from rfl]
        refine gcv3 (pc' := 89) cwX8_143 cf8 dX8_holdsOn_86 rfl hMT.1 (Nat.le_of_ble_eq_true rfl) (Nat.le_of_ble_eq_true rfl) (Nat.le_of_ble_eq_true rfl) (Nat.le_of_ble_eq_true rfl) (Nat.le_of_ble_eq_true rfl) (kX8_has (f := 3) (v := dM w) hMT hXT.1 hXT.2.1 hXT.2.2.1 hj (by decide) (hXT.2.2.2.2 3 (by decide)) hF3 he3 (by omega) ?_)
        refine g_if_eq dX8_holdsOn_89 (tg := 124) (pc' := 92) (by decide) rfl (fun h89 => ?_) (fun h89 => ?_)
        · refine g_iconst (pc' := 125) (v := 0) dX8_holdsOn_124 rfl rfl ?_
          refine g_iret dX8_holdsOn_125 rfl rfl (Nat.le_of_ble_eq_true rfl) (Nat.le_of_ble_eq_true rfl) ?_
          refine gq hQ ?_
          show bI (FM y 3 (dM w) (fsx y 3) && (if (decide (y (fsx y 2) = 42) || decide (y (fsx y 4) = 42)) = true then (FM y 2 (dD w) (fsx y 2) && (FM y 4 ((w + 6) % 7) (fsx y 4) || (decide ((w + 6) % 7 = 0) && FM y 4 7 (fsx y 4)))) else (FM y 2 (dD w) (fsx y 2) || (FM y 4 ((w + 6) % 7) (fsx y 4) || (decide ((w + 6) % 7 = 0) && FM y 4 7 (fsx y 4)))))) = _
          first | rw [bbp h29] | rw [bI_f.mp h29] | skip
          first | rw [bbp h60] | rw [bI_f.mp h60] | skip
          first | rw [bbp h69] | rw [bI_f.mp h69] | skip
          first | rw [bbp h89] | rw [bI_f.mp h89] | skip
          first | rfl | simp [bI]
        · refine g_iload (pc' := 94) dX8_holdsOn_92 rfl rfl ?_
          refine g_if_eq dX8_holdsOn_94 (tg := 110) (pc' := 97) (by decide) rfl (fun h94 => absurd h94 (by decide)) (fun h94 => ?_)
          refine g_iload (pc' := 99) dX8_holdsOn_97 rfl rfl ?_
          refine g_if_eq dX8_holdsOn_99 (tg := 124) (pc' := 102) (by decide) rfl (fun h99 => ?_) (fun h99 => ?_)
          · refine g_iconst (pc' := 125) (v := 0) dX8_holdsOn_124 rfl rfl ?_
            refine g_iret dX8_holdsOn_125 rfl rfl (Nat.le_of_ble_eq_true rfl) (Nat.le_of_ble_eq_true rfl) ?_
            refine gq hQ ?_
            show bI (FM y 3 (dM w) (fsx y 3) && (if (decide (y (fsx y 2) = 42) || decide (y (fsx y 4) = 42)) = true then (FM y 2 (dD w) (fsx y 2) && (FM y 4 ((w + 6) % 7) (fsx y 4) || (decide ((w + 6) % 7 = 0) && FM y 4 7 (fsx y 4)))) else (FM y 2 (dD w) (fsx y 2) || (FM y 4 ((w + 6) % 7) (fsx y 4) || (decide ((w + 6) % 7 = 0) && FM y 4 7 (fsx y 4)))))) = _
            first | rw [bbp h29] | rw [bI_f.mp h29] | skip
            first | rw [bbp h60] | rw [bI_f.mp h60] | skip
            first | rw [bbp h69] | rw [bI_f.mp h69] | skip
            first | rw [bbp h89] | rw [bI_f.mp h89] | skip
            first | rw [bbp h99] | rw [bI_f.mp h99] | skip
            first | rfl | simp [bI]
          · refine g_iload (pc' := 104) dX8_holdsOn_102 rfl rfl ?_
            refine g_if_eq dX8_holdsOn_104 (tg := 124) (pc' := 107) (by decide) rfl (fun h104 => absurd h104 (by decide)) (fun h104 => ?_)
            refine g_goto dX8_holdsOn_107 (pc' := 120) (by decide) ?_
            refine g_iconst (pc' := 121) (v := 1) dX8_holdsOn_120 rfl rfl ?_
            refine g_goto dX8_holdsOn_121 (pc' := 125) (by decide) ?_
            refine g_iret dX8_holdsOn_125 rfl rfl (Nat.le_of_ble_eq_true rfl) (Nat.le_of_ble_eq_true rfl) ?_
            refine gq hQ ?_
            show bI (FM y 3 (dM w) (fsx y 3) && (if (decide (y (fsx y 2) = 42) || decide (y (fsx y 4) = 42)) = true then (FM y 2 (dD w) (fsx y 2) && (FM y 4 ((w + 6) % 7) (fsx y 4) || (decide ((w + 6) % 7 = 0) && FM y 4 7 (fsx y 4)))) else (FM y 2 (dD w) (fsx y 2) || (FM y 4 ((w + 6) % 7) (fsx y 4) || (decide ((w + 6) % 7 = 0) && FM y 4 7 (fsx y 4)))))) = _
            first | rw [bbp h29] | rw [bI_f.mp h29] | skip
            first | rw [bbp h60] | rw [bI_f.mp h60] | skip
            first | rw [bbp h69] | rw [bI_f.mp h69] | skip
            first | rw [bbp h89] | rw [bI_f.mp h89] | skip
            first | rw [bbp h99] | rw [bI_f.mp h99] | skip
            first | rfl | simp [bI]
  · refine g_iload_n (pc' := 33) dX8_holdsOn_32 rfl rfl ?_
    refine g_if_ne dX8_holdsOn_33 (tg := 51) (pc' := 36) (by decide) rfl (fun h33 => ?_) (fun h33 => ?_)
    · refine g_iconst (pc' := 52) (v := 0) dX8_holdsOn_51 rfl rfl ?_
      try rw [show (0 : Int32) = nI 0 from rfl, nI_eq (by omega) (by decide)] at h33
      refine gistore5 (pc' := 54) dX8_holdsOn_52 rfl (Nat.le_of_ble_eq_true rfl) rfl ?_
      refine g_aload_n (pc' := 55) dX8_holdsOn_54 rfl rfl ?_
      refine g_iload_n (pc' := 56) dX8_holdsOn_55 rfl rfl ?_
      refine g_iconst (pc' := 57) (v := 2) dX8_holdsOn_56 rfl rfl ?_
      rw [show (2 : Int32) = nI 2 from rfl]
      refine gcv2 (pc' := 60) cwX8_146 cf8 dX8_holdsOn_57 rfl hMT.1 (Nat.le_of_ble_eq_true rfl) (Nat.le_of_ble_eq_true rfl) (Nat.le_of_ble_eq_true rfl) (Nat.le_of_ble_eq_true rfl) (Nat.le_of_ble_eq_true rfl) (kX8_isFree (f := 2) hMT hXT.1 hXT.2.1 hXT.2.2.1 hj (by decide) (hXT.2.2.2.2 2 (by decide)) hF2 he2 ?_)
      refine g_if_ne dX8_holdsOn_60 (tg := 72) (pc' := 63) (by decide) rfl (fun h60 => ?_) (fun h60 => ?_)
      · refine g_iconst (pc' := 73) (v := 1) dX8_holdsOn_72 rfl rfl ?_
        refine g_goto dX8_holdsOn_73 (pc' := 77) (by decide) ?_
        refine gistore6 (pc' := 79) dX8_holdsOn_77 rfl (Nat.le_of_ble_eq_true rfl) rfl ?_
        refine g_aload_n (pc' := 80) dX8_holdsOn_79 rfl rfl ?_
        refine g_iload_n (pc' := 81) dX8_holdsOn_80 rfl rfl ?_
        refine g_iconst (pc' := 82) (v := 3) dX8_holdsOn_81 rfl rfl ?_
        refine g_aload_n (pc' := 83) dX8_holdsOn_82 rfl rfl ?_
        refine ggX8_127 (pc' := 86) rfl dX8_holdsOn_83 rfl hMT.1 ?_
        rw [e3, show (3 : Int32) = nI 3 from rfl]
        refine gcv3 (pc' := 89) cwX8_143 cf8 dX8_holdsOn_86 rfl hMT.1 (Nat.le_of_ble_eq_true rfl) (Nat.le_of_ble_eq_true rfl) (Nat.le_of_ble_eq_true rfl) (Nat.le_of_ble_eq_true rfl) (Nat.le_of_ble_eq_true rfl) (kX8_has (f := 3) (v := dM w) hMT hXT.1 hXT.2.1 hXT.2.2.1 hj (by decide) (hXT.2.2.2.2 3 (by decide)) hF3 he3 (by omega) ?_)
        refine g_if_eq dX8_holdsOn_89 (tg := 124) (pc' := 92) (by decide) rfl (fun h89 => ?_) (fun h89 => ?_)
        · refine g_iconst (pc' := 125) (v := 0) dX8_holdsOn_124 rfl rfl ?_
          refine g_iret dX8_holdsOn_125 rfl rfl (Nat.le_of_ble_eq_true rfl) (Nat.le_of_ble_eq_true rfl) ?_
          refine gq hQ ?_
          show bI (FM y 3 (dM w) (fsx y 3) && (if (decide (y (fsx y 2) = 42) || decide (y (fsx y 4) = 42)) = true then (FM y 2 (dD w) (fsx y 2) && (FM y 4 ((w + 6) % 7) (fsx y 4) || (decide ((w + 6) % 7 = 0) && FM y 4 7 (fsx y 4)))) else (FM y 2 (dD w) (fsx y 2) || (FM y 4 ((w + 6) % 7) (fsx y 4) || (decide ((w + 6) % 7 = 0) && FM y 4 7 (fsx y 4)))))) = _
          first | rw [bbp h29] | rw [bI_f.mp h29] | skip
          first | rw [decide_eq_true h33] | rw [decide_eq_false h33] | skip
          first | rw [bbp h60] | rw [bI_f.mp h60] | skip
          first | rw [bbp h89] | rw [bI_f.mp h89] | skip
          first | rfl | simp [bI]
        · refine g_iload (pc' := 94) dX8_holdsOn_92 rfl rfl ?_
          refine g_if_eq dX8_holdsOn_94 (tg := 110) (pc' := 97) (by decide) rfl (fun h94 => absurd h94 (by decide)) (fun h94 => ?_)
          refine g_iload (pc' := 99) dX8_holdsOn_97 rfl rfl ?_
          refine g_if_eq dX8_holdsOn_99 (tg := 124) (pc' := 102) (by decide) rfl (fun h99 => ?_) (fun h99 => ?_)
          · refine g_iconst (pc' := 125) (v := 0) dX8_holdsOn_124 rfl rfl ?_
            refine g_iret dX8_holdsOn_125 rfl rfl (Nat.le_of_ble_eq_true rfl) (Nat.le_of_ble_eq_true rfl) ?_
            refine gq hQ ?_
            show bI (FM y 3 (dM w) (fsx y 3) && (if (decide (y (fsx y 2) = 42) || decide (y (fsx y 4) = 42)) = true then (FM y 2 (dD w) (fsx y 2) && (FM y 4 ((w + 6) % 7) (fsx y 4) || (decide ((w + 6) % 7 = 0) && FM y 4 7 (fsx y 4)))) else (FM y 2 (dD w) (fsx y 2) || (FM y 4 ((w + 6) % 7) (fsx y 4) || (decide ((w + 6) % 7 = 0) && FM y 4 7 (fsx y 4)))))) = _
            first | rw [bbp h29] | rw [bI_f.mp h29] | skip
            first | rw [decide_eq_true h33] | rw [decide_eq_false h33] | skip
            first | rw [bbp h60] | rw [bI_f.mp h60] | skip
            first | rw [bbp h89] | rw [bI_f.mp h89] | skip
            first | rw [bbp h99] | rw [bI_f.mp h99] | skip
            first | rfl | simp [bI]
          · refine g_iload (pc' := 104) dX8_holdsOn_102 rfl rfl ?_
            refine g_if_eq dX8_holdsOn_104 (tg := 124) (pc' := 107) (by decide) rfl (fun h104 => ?_) (fun h104 => absurd (by decide) h104)
            refine g_iconst (pc' := 125) (v := 0) dX8_holdsOn_124 rfl rfl ?_
            refine g_iret dX8_holdsOn_125 rfl rfl (Nat.le_of_ble_eq_true rfl) (Nat.le_of_ble_eq_true rfl) ?_
            refine gq hQ ?_
            show bI (FM y 3 (dM w) (fsx y 3) && (if (decide (y (fsx y 2) = 42) || decide (y (fsx y 4) = 42)) = true then (FM y 2 (dD w) (fsx y 2) && (FM y 4 ((w + 6) % 7) (fsx y 4) || (decide ((w + 6) % 7 = 0) && FM y 4 7 (fsx y 4)))) else (FM y 2 (dD w) (fsx y 2) || (FM y 4 ((w + 6) % 7) (fsx y 4) || (decide ((w + 6) % 7 = 0) && FM y 4 7 (fsx y 4)))))) = _
            first | rw [bbp h29] | rw [bI_f.mp h29] | skip
            first | rw [decide_eq_true h33] | rw [decide_eq_false h33] | skip
            first | rw [bbp h60] | rw [bI_f.mp h60] | skip
            first | rw [bbp h89] | rw [bI_f.mp h89] | skip
            first | rw [bbp h99] | rw [bI_f.mp h99] | skip
            first | rfl | simp [bI]
      · refine g_aload_n (pc' := 64) dX8_holdsOn_63 rfl rfl ?_
        refine g_iload_n (pc' := 65) dX8_holdsOn_64 rfl rfl ?_
        refine g_iconst (pc' := 66) (v := 4) dX8_holdsOn_65 rfl rfl ?_
        rw [show (4 : Int32) = nI 4 from rfl]
        refine gcv2 (pc' := 69) cwX8_146 cf8 dX8_holdsOn_66 rfl hMT.1 (Nat.le_of_ble_eq_true rfl) (Nat.le_of_ble_eq_true rfl) (Nat.le_of_ble_eq_true rfl) (Nat.le_of_ble_eq_true rfl) (Nat.le_of_ble_eq_true rfl) (kX8_isFree (f := 4) hMT hXT.1 hXT.2.1 hXT.2.2.1 hj (by decide) (hXT.2.2.2.2 4 (by decide)) hF4 he4 ?_)
        refine g_if_eq dX8_holdsOn_69 (tg := 76) (pc' := 72) (by decide) rfl (fun h69 => ?_) (fun h69 => ?_)
        · refine g_iconst (pc' := 77) (v := 0) dX8_holdsOn_76 rfl rfl ?_
          refine gistore6 (pc' := 79) dX8_holdsOn_77 rfl (Nat.le_of_ble_eq_true rfl) rfl ?_
          refine g_aload_n (pc' := 80) dX8_holdsOn_79 rfl rfl ?_
          refine g_iload_n (pc' := 81) dX8_holdsOn_80 rfl rfl ?_
          refine g_iconst (pc' := 82) (v := 3) dX8_holdsOn_81 rfl rfl ?_
          refine g_aload_n (pc' := 83) dX8_holdsOn_82 rfl rfl ?_
          refine ggX8_127 (pc' := 86) rfl dX8_holdsOn_83 rfl hMT.1 ?_
          rw [e3, show (3 : Int32) = nI 3 from rfl]
          refine gcv3 (pc' := 89) cwX8_143 cf8 dX8_holdsOn_86 rfl hMT.1 (Nat.le_of_ble_eq_true rfl) (Nat.le_of_ble_eq_true rfl) (Nat.le_of_ble_eq_true rfl) (Nat.le_of_ble_eq_true rfl) (Nat.le_of_ble_eq_true rfl) (kX8_has (f := 3) (v := dM w) hMT hXT.1 hXT.2.1 hXT.2.2.1 hj (by decide) (hXT.2.2.2.2 3 (by decide)) hF3 he3 (by omega) ?_)
          refine g_if_eq dX8_holdsOn_89 (tg := 124) (pc' := 92) (by decide) rfl (fun h89 => ?_) (fun h89 => ?_)
          · refine g_iconst (pc' := 125) (v := 0) dX8_holdsOn_124 rfl rfl ?_
            refine g_iret dX8_holdsOn_125 rfl rfl (Nat.le_of_ble_eq_true rfl) (Nat.le_of_ble_eq_true rfl) ?_
            refine gq hQ ?_
            show bI (FM y 3 (dM w) (fsx y 3) && (if (decide (y (fsx y 2) = 42) || decide (y (fsx y 4) = 42)) = true then (FM y 2 (dD w) (fsx y 2) && (FM y 4 ((w + 6) % 7) (fsx y 4) || (decide ((w + 6) % 7 = 0) && FM y 4 7 (fsx y 4)))) else (FM y 2 (dD w) (fsx y 2) || (FM y 4 ((w + 6) % 7) (fsx y 4) || (decide ((w + 6) % 7 = 0) && FM y 4 7 (fsx y 4)))))) = _
            first | rw [bbp h29] | rw [bI_f.mp h29] | skip
            first | rw [decide_eq_true h33] | rw [decide_eq_false h33] | skip
            first | rw [bbp h60] | rw [bI_f.mp h60] | skip
            first | rw [bbp h69] | rw [bI_f.mp h69] | skip
            first | rw [bbp h89] | rw [bI_f.mp h89] | skip
            first | rfl | simp [bI]
          · refine g_iload (pc' := 94) dX8_holdsOn_92 rfl rfl ?_
            refine g_if_eq dX8_holdsOn_94 (tg := 110) (pc' := 97) (by decide) rfl (fun h94 => ?_) (fun h94 => absurd (by decide) h94)
            refine g_iload (pc' := 112) dX8_holdsOn_110 rfl rfl ?_
            refine g_if_ne dX8_holdsOn_112 (tg := 120) (pc' := 115) (by decide) rfl (fun h112 => ?_) (fun h112 => ?_)
            · refine g_iconst (pc' := 121) (v := 1) dX8_holdsOn_120 rfl rfl ?_
              refine g_goto dX8_holdsOn_121 (pc' := 125) (by decide) ?_
              refine g_iret dX8_holdsOn_125 rfl rfl (Nat.le_of_ble_eq_true rfl) (Nat.le_of_ble_eq_true rfl) ?_
              refine gq hQ ?_
              show bI (FM y 3 (dM w) (fsx y 3) && (if (decide (y (fsx y 2) = 42) || decide (y (fsx y 4) = 42)) = true then (FM y 2 (dD w) (fsx y 2) && (FM y 4 ((w + 6) % 7) (fsx y 4) || (decide ((w + 6) % 7 = 0) && FM y 4 7 (fsx y 4)))) else (FM y 2 (dD w) (fsx y 2) || (FM y 4 ((w + 6) % 7) (fsx y 4) || (decide ((w + 6) % 7 = 0) && FM y 4 7 (fsx y 4)))))) = _
              first | rw [bbp h29] | rw [bI_f.mp h29] | skip
              first | rw [decide_eq_true h33] | rw [decide_eq_false h33] | skip
              first | rw [bbp h60] | rw [bI_f.mp h60] | skip
              first | rw [bbp h69] | rw [bI_f.mp h69] | skip
              first | rw [bbp h89] | rw [bI_f.mp h89] | skip
              first | rw [bbp h112] | rw [bI_f.mp h112] | skip
              first | rfl | simp [bI]
            · refine g_iload (pc' := 117) dX8_holdsOn_115 rfl rfl ?_
              refine g_if_eq dX8_holdsOn_117 (tg := 124) (pc' := 120) (by decide) rfl (fun h117 => ?_) (fun h117 => absurd (by decide) h117)
              refine g_iconst (pc' := 125) (v := 0) dX8_holdsOn_124 rfl rfl ?_
              refine g_iret dX8_holdsOn_125 rfl rfl (Nat.le_of_ble_eq_true rfl) (Nat.le_of_ble_eq_true rfl) ?_
              refine gq hQ ?_
              show bI (FM y 3 (dM w) (fsx y 3) && (if (decide (y (fsx y 2) = 42) || decide (y (fsx y 4) = 42)) = true then (FM y 2 (dD w) (fsx y 2) && (FM y 4 ((w + 6) % 7) (fsx y 4) || (decide ((w + 6) % 7 = 0) && FM y 4 7 (fsx y 4)))) else (FM y 2 (dD w) (fsx y 2) || (FM y 4 ((w + 6) % 7) (fsx y 4) || (decide ((w + 6) % 7 = 0) && FM y 4 7 (fsx y 4)))))) = _
              first | rw [bbp h29] | rw [bI_f.mp h29] | skip
              first | rw [decide_eq_true h33] | rw [decide_eq_false h33] | skip
              first | rw [bbp h60] | rw [bI_f.mp h60] | skip
              first | rw [bbp h69] | rw [bI_f.mp h69] | skip
              first | rw [bbp h89] | rw [bI_f.mp h89] | skip
              first | rw [bbp h112] | rw [bI_f.mp h112] | skip
              first | rfl | simp [bI]
        · refine g_iconst (pc' := 73) (v := 1) dX8_holdsOn_72 rfl rfl ?_
          refine g_goto dX8_holdsOn_73 (pc' := 77) (by decide) ?_
          refine gistore6 (pc' := 79) dX8_holdsOn_77 rfl (Nat.le_of_ble_eq_true rfl) rfl ?_
          refine g_aload_n (pc' := 80) dX8_holdsOn_79 rfl rfl ?_
          refine g_iload_n (pc' := 81) dX8_holdsOn_80 rfl rfl ?_
          refine g_iconst (pc' := 82) (v := 3) dX8_holdsOn_81 rfl rfl ?_
          refine g_aload_n (pc' := 83) dX8_holdsOn_82 rfl rfl ?_
          refine ggX8_127 (pc' := 86) rfl dX8_holdsOn_83 rfl hMT.1 ?_
          rw [e3, show (3 : Int32) = nI 3 from rfl]
          refine gcv3 (pc' := 89) cwX8_143 cf8 dX8_holdsOn_86 rfl hMT.1 (Nat.le_of_ble_eq_true rfl) (Nat.le_of_ble_eq_true rfl) (Nat.le_of_ble_eq_true rfl) (Nat.le_of_ble_eq_true rfl) (Nat.le_of_ble_eq_true rfl) (kX8_has (f := 3) (v := dM w) hMT hXT.1 hXT.2.1 hXT.2.2.1 hj (by decide) (hXT.2.2.2.2 3 (by decide)) hF3 he3 (by omega) ?_)
          refine g_if_eq dX8_holdsOn_89 (tg := 124) (pc' := 92) (by decide) rfl (fun h89 => ?_) (fun h89 => ?_)
          · refine g_iconst (pc' := 125) (v := 0) dX8_holdsOn_124 rfl rfl ?_
            refine g_iret dX8_holdsOn_125 rfl rfl (Nat.le_of_ble_eq_true rfl) (Nat.le_of_ble_eq_true rfl) ?_
            refine gq hQ ?_
            show bI (FM y 3 (dM w) (fsx y 3) && (if (decide (y (fsx y 2) = 42) || decide (y (fsx y 4) = 42)) = true then (FM y 2 (dD w) (fsx y 2) && (FM y 4 ((w + 6) % 7) (fsx y 4) || (decide ((w + 6) % 7 = 0) && FM y 4 7 (fsx y 4)))) else (FM y 2 (dD w) (fsx y 2) || (FM y 4 ((w + 6) % 7) (fsx y 4) || (decide ((w + 6) % 7 = 0) && FM y 4 7 (fsx y 4)))))) = _
            first | rw [bbp h29] | rw [bI_f.mp h29] | skip
            first | rw [decide_eq_true h33] | rw [decide_eq_false h33] | skip
            first | rw [bbp h60] | rw [bI_f.mp h60] | skip
            first | rw [bbp h69] | rw [bI_f.mp h69] | skip
            first | rw [bbp h89] | rw [bI_f.mp h89] | skip
            first | rfl | simp [bI]
          · refine g_iload (pc' := 94) dX8_holdsOn_92 rfl rfl ?_
            refine g_if_eq dX8_holdsOn_94 (tg := 110) (pc' := 97) (by decide) rfl (fun h94 => absurd h94 (by decide)) (fun h94 => ?_)
            refine g_iload (pc' := 99) dX8_holdsOn_97 rfl rfl ?_
            refine g_if_eq dX8_holdsOn_99 (tg := 124) (pc' := 102) (by decide) rfl (fun h99 => ?_) (fun h99 => ?_)
            · refine g_iconst (pc' := 125) (v := 0) dX8_holdsOn_124 rfl rfl ?_
              refine g_iret dX8_holdsOn_125 rfl rfl (Nat.le_of_ble_eq_true rfl) (Nat.le_of_ble_eq_true rfl) ?_
              refine gq hQ ?_
              show bI (FM y 3 (dM w) (fsx y 3) && (if (decide (y (fsx y 2) = 42) || decide (y (fsx y 4) = 42)) = true then (FM y 2 (dD w) (fsx y 2) && (FM y 4 ((w + 6) % 7) (fsx y 4) || (decide ((w + 6) % 7 = 0) && FM y 4 7 (fsx y 4)))) else (FM y 2 (dD w) (fsx y 2) || (FM y 4 ((w + 6) % 7) (fsx y 4) || (decide ((w + 6) % 7 = 0) && FM y 4 7 (fsx y 4)))))) = _
              first | rw [bbp h29] | rw [bI_f.mp h29] | skip
              first | rw [decide_eq_true h33] | rw [decide_eq_false h33] | skip
              first | rw [bbp h60] | rw [bI_f.mp h60] | skip
              first | rw [bbp h69] | rw [bI_f.mp h69] | skip
              first | rw [bbp h89] | rw [bI_f.mp h89] | skip
              first | rw [bbp h99] | rw [bI_f.mp h99] | skip
              first | rfl | simp [bI]
            · refine g_iload (pc' := 104) dX8_holdsOn_102 rfl rfl ?_
              refine g_if_eq dX8_holdsOn_104 (tg := 124) (pc' := 107) (by decide) rfl (fun h104 => ?_) (fun h104 => absurd (by decide) h104)
              refine g_iconst (pc' := 125) (v := 0) dX8_holdsOn_124 rfl rfl ?_
              refine g_iret dX8_holdsOn_125 rfl rfl (Nat.le_of_ble_eq_true rfl) (Nat.le_of_ble_eq_true rfl) ?_
              refine gq hQ ?_
              show bI (FM y 3 (dM w) (fsx y 3) && (if (decide (y (fsx y 2) = 42) || decide (y (fsx y 4) = 42)) = true then (FM y 2 (dD w) (fsx y 2) && (FM y 4 ((w + 6) % 7) (fsx y 4) || (decide ((w + 6) % 7 = 0) && FM y 4 7 (fsx y 4)))) else (FM y 2 (dD w) (fsx y 2) || (FM y 4 ((w + 6) % 7) (fsx y 4) || (decide ((w + 6) % 7 = 0) && FM y 4 7 (fsx y 4)))))) = _
              first | rw [bbp h29] | rw [bI_f.mp h29] | skip
              first | rw [decide_eq_true h33] | rw [decide_eq_false h33] | skip
              first | rw [bbp h60] | rw [bI_f.mp h60] | skip
              first | rw [bbp h69] | rw [bI_f.mp h69] | skip
              first | rw [bbp h89] | rw [bI_f.mp h89] | skip
              first | rw [bbp h99] | rw [bI_f.mp h99] | skip
              first | rfl | simp [bI]
    · refine g_aload_n (pc' := 37) dX8_holdsOn_36 rfl rfl ?_
      refine g_iload_n (pc' := 38) dX8_holdsOn_37 rfl rfl ?_
      refine g_iconst (pc' := 39) (v := 4) dX8_holdsOn_38 rfl rfl ?_
      refine g_bipush (pc' := 41) (v := 7) dX8_holdsOn_39 rfl rfl ?_
      rw [show (4 : Int32) = nI 4 from rfl, show (7 : Int32) = nI 7 from rfl]
      refine gcv3 (pc' := 44) cwX8_143 cf8 dX8_holdsOn_41 rfl hMT.1 (Nat.le_of_ble_eq_true rfl) (Nat.le_of_ble_eq_true rfl) (Nat.le_of_ble_eq_true rfl) (Nat.le_of_ble_eq_true rfl) (Nat.le_of_ble_eq_true rfl) (kX8_has (f := 4) (v := 7) hMT hXT.1 hXT.2.1 hXT.2.2.1 hj (by decide) (hXT.2.2.2.2 4 (by decide)) hF4 he4 (by omega) ?_)
      refine g_if_eq dX8_holdsOn_44 (tg := 51) (pc' := 47) (by decide) rfl (fun h44 => ?_) (fun h44 => ?_)
      · refine g_iconst (pc' := 52) (v := 0) dX8_holdsOn_51 rfl rfl ?_
        try rw [show (0 : Int32) = nI 0 from rfl, nI_eq (by omega) (by decide)] at h33
        refine gistore5 (pc' := 54) dX8_holdsOn_52 rfl (Nat.le_of_ble_eq_true rfl) rfl ?_
        refine g_aload_n (pc' := 55) dX8_holdsOn_54 rfl rfl ?_
        refine g_iload_n (pc' := 56) dX8_holdsOn_55 rfl rfl ?_
        refine g_iconst (pc' := 57) (v := 2) dX8_holdsOn_56 rfl rfl ?_
        rw [show (2 : Int32) = nI 2 from rfl]
        refine gcv2 (pc' := 60) cwX8_146 cf8 dX8_holdsOn_57 rfl hMT.1 (Nat.le_of_ble_eq_true rfl) (Nat.le_of_ble_eq_true rfl) (Nat.le_of_ble_eq_true rfl) (Nat.le_of_ble_eq_true rfl) (Nat.le_of_ble_eq_true rfl) (kX8_isFree (f := 2) hMT hXT.1 hXT.2.1 hXT.2.2.1 hj (by decide) (hXT.2.2.2.2 2 (by decide)) hF2 he2 ?_)
        refine g_if_ne dX8_holdsOn_60 (tg := 72) (pc' := 63) (by decide) rfl (fun h60 => ?_) (fun h60 => ?_)
        · refine g_iconst (pc' := 73) (v := 1) dX8_holdsOn_72 rfl rfl ?_
          refine g_goto dX8_holdsOn_73 (pc' := 77) (by decide) ?_
          refine gistore6 (pc' := 79) dX8_holdsOn_77 rfl (Nat.le_of_ble_eq_true rfl) rfl ?_
          refine g_aload_n (pc' := 80) dX8_holdsOn_79 rfl rfl ?_
          refine g_iload_n (pc' := 81) dX8_holdsOn_80 rfl rfl ?_
          refine g_iconst (pc' := 82) (v := 3) dX8_holdsOn_81 rfl rfl ?_
          refine g_aload_n (pc' := 83) dX8_holdsOn_82 rfl rfl ?_
          refine ggX8_127 (pc' := 86) rfl dX8_holdsOn_83 rfl hMT.1 ?_
          rw [e3, show (3 : Int32) = nI 3 from rfl]
          refine gcv3 (pc' := 89) cwX8_143 cf8 dX8_holdsOn_86 rfl hMT.1 (Nat.le_of_ble_eq_true rfl) (Nat.le_of_ble_eq_true rfl) (Nat.le_of_ble_eq_true rfl) (Nat.le_of_ble_eq_true rfl) (Nat.le_of_ble_eq_true rfl) (kX8_has (f := 3) (v := dM w) hMT hXT.1 hXT.2.1 hXT.2.2.1 hj (by decide) (hXT.2.2.2.2 3 (by decide)) hF3 he3 (by omega) ?_)
          refine g_if_eq dX8_holdsOn_89 (tg := 124) (pc' := 92) (by decide) rfl (fun h89 => ?_) (fun h89 => ?_)
          · refine g_iconst (pc' := 125) (v := 0) dX8_holdsOn_124 rfl rfl ?_
            refine g_iret dX8_holdsOn_125 rfl rfl (Nat.le_of_ble_eq_true rfl) (Nat.le_of_ble_eq_true rfl) ?_
            refine gq hQ ?_
            show bI (FM y 3 (dM w) (fsx y 3) && (if (decide (y (fsx y 2) = 42) || decide (y (fsx y 4) = 42)) = true then (FM y 2 (dD w) (fsx y 2) && (FM y 4 ((w + 6) % 7) (fsx y 4) || (decide ((w + 6) % 7 = 0) && FM y 4 7 (fsx y 4)))) else (FM y 2 (dD w) (fsx y 2) || (FM y 4 ((w + 6) % 7) (fsx y 4) || (decide ((w + 6) % 7 = 0) && FM y 4 7 (fsx y 4)))))) = _
            first | rw [bbp h29] | rw [bI_f.mp h29] | skip
            first | rw [decide_eq_true h33] | rw [decide_eq_false h33] | skip
            first | rw [bbp h44] | rw [bI_f.mp h44] | skip
            first | rw [bbp h60] | rw [bI_f.mp h60] | skip
            first | rw [bbp h89] | rw [bI_f.mp h89] | skip
            first | rfl | simp [bI]
          · refine g_iload (pc' := 94) dX8_holdsOn_92 rfl rfl ?_
            refine g_if_eq dX8_holdsOn_94 (tg := 110) (pc' := 97) (by decide) rfl (fun h94 => absurd h94 (by decide)) (fun h94 => ?_)
            refine g_iload (pc' := 99) dX8_holdsOn_97 rfl rfl ?_
            refine g_if_eq dX8_holdsOn_99 (tg := 124) (pc' := 102) (by decide) rfl (fun h99 => ?_) (fun h99 => ?_)
            · refine g_iconst (pc' := 125) (v := 0) dX8_holdsOn_124 rfl rfl ?_
              refine g_iret dX8_holdsOn_125 rfl rfl (Nat.le_of_ble_eq_true rfl) (Nat.le_of_ble_eq_true rfl) ?_
              refine gq hQ ?_
              show bI (FM y 3 (dM w) (fsx y 3) && (if (decide (y (fsx y 2) = 42) || decide (y (fsx y 4) = 42)) = true then (FM y 2 (dD w) (fsx y 2) && (FM y 4 ((w + 6) % 7) (fsx y 4) || (decide ((w + 6) % 7 = 0) && FM y 4 7 (fsx y 4)))) else (FM y 2 (dD w) (fsx y 2) || (FM y 4 ((w + 6) % 7) (fsx y 4) || (decide ((w + 6) % 7 = 0) && FM y 4 7 (fsx y 4)))))) = _
              first | rw [bbp h29] | rw [bI_f.mp h29] | skip
              first | rw [decide_eq_true h33] | rw [decide_eq_false h33] | skip
              first | rw [bbp h44] | rw [bI_f.mp h44] | skip
              first | rw [bbp h60] | rw [bI_f.mp h60] | skip
              first | rw [bbp h89] | rw [bI_f.mp h89] | skip
              first | rw [bbp h99] | rw [bI_f.mp h99] | skip
              first | rfl | simp [bI]
            · refine g_iload (pc' := 104) dX8_holdsOn_102 rfl rfl ?_
              refine g_if_eq dX8_holdsOn_104 (tg := 124) (pc' := 107) (by decide) rfl (fun h104 => ?_) (fun h104 => absurd (by decide) h104)
              refine g_iconst (pc' := 125) (v := 0) dX8_holdsOn_124 rfl rfl ?_
              refine g_iret dX8_holdsOn_125 rfl rfl (Nat.le_of_ble_eq_true rfl) (Nat.le_of_ble_eq_true rfl) ?_
              refine gq hQ ?_
              show bI (FM y 3 (dM w) (fsx y 3) && (if (decide (y (fsx y 2) = 42) || decide (y (fsx y 4) = 42)) = true then (FM y 2 (dD w) (fsx y 2) && (FM y 4 ((w + 6) % 7) (fsx y 4) || (decide ((w + 6) % 7 = 0) && FM y 4 7 (fsx y 4)))) else (FM y 2 (dD w) (fsx y 2) || (FM y 4 ((w + 6) % 7) (fsx y 4) || (decide ((w + 6) % 7 = 0) && FM y 4 7 (fsx y 4)))))) = _
              first | rw [bbp h29] | rw [bI_f.mp h29] | skip
              first | rw [decide_eq_true h33] | rw [decide_eq_false h33] | skip
              first | rw [bbp h44] | rw [bI_f.mp h44] | skip
              first | rw [bbp h60] | rw [bI_f.mp h60] | skip
              first | rw [bbp h89] | rw [bI_f.mp h89] | skip
              first | rw [bbp h99] | rw [bI_f.mp h99] | skip
              first | rfl | simp [bI]
        · refine g_aload_n (pc' := 64) dX8_holdsOn_63 rfl rfl ?_
          refine g_iload_n (pc' := 65) dX8_holdsOn_64 rfl rfl ?_
          refine g_iconst (pc' := 66) (v := 4) dX8_holdsOn_65 rfl rfl ?_
          rw [show (4 : Int32) = nI 4 from rfl]
          refine gcv2 (pc' := 69) cwX8_146 cf8 dX8_holdsOn_66 rfl hMT.1 (Nat.le_of_ble_eq_true rfl) (Nat.le_of_ble_eq_true rfl) (Nat.le_of_ble_eq_true rfl) (Nat.le_of_ble_eq_true rfl) (Nat.le_of_ble_eq_true rfl) (kX8_isFree (f := 4) hMT hXT.1 hXT.2.1 hXT.2.2.1 hj (by decide) (hXT.2.2.2.2 4 (by decide)) hF4 he4 ?_)
          refine g_if_eq dX8_holdsOn_69 (tg := 76) (pc' := 72) (by decide) rfl (fun h69 => ?_) (fun h69 => ?_)
          · refine g_iconst (pc' := 77) (v := 0) dX8_holdsOn_76 rfl rfl ?_
            refine gistore6 (pc' := 79) dX8_holdsOn_77 rfl (Nat.le_of_ble_eq_true rfl) rfl ?_
            refine g_aload_n (pc' := 80) dX8_holdsOn_79 rfl rfl ?_
            refine g_iload_n (pc' := 81) dX8_holdsOn_80 rfl rfl ?_
            refine g_iconst (pc' := 82) (v := 3) dX8_holdsOn_81 rfl rfl ?_
            refine g_aload_n (pc' := 83) dX8_holdsOn_82 rfl rfl ?_
            refine ggX8_127 (pc' := 86) rfl dX8_holdsOn_83 rfl hMT.1 ?_
            rw [e3, show (3 : Int32) = nI 3 from rfl]
            refine gcv3 (pc' := 89) cwX8_143 cf8 dX8_holdsOn_86 rfl hMT.1 (Nat.le_of_ble_eq_true rfl) (Nat.le_of_ble_eq_true rfl) (Nat.le_of_ble_eq_true rfl) (Nat.le_of_ble_eq_true rfl) (Nat.le_of_ble_eq_true rfl) (kX8_has (f := 3) (v := dM w) hMT hXT.1 hXT.2.1 hXT.2.2.1 hj (by decide) (hXT.2.2.2.2 3 (by decide)) hF3 he3 (by omega) ?_)
            refine g_if_eq dX8_holdsOn_89 (tg := 124) (pc' := 92) (by decide) rfl (fun h89 => ?_) (fun h89 => ?_)
            · refine g_iconst (pc' := 125) (v := 0) dX8_holdsOn_124 rfl rfl ?_
              refine g_iret dX8_holdsOn_125 rfl rfl (Nat.le_of_ble_eq_true rfl) (Nat.le_of_ble_eq_true rfl) ?_
              refine gq hQ ?_
              show bI (FM y 3 (dM w) (fsx y 3) && (if (decide (y (fsx y 2) = 42) || decide (y (fsx y 4) = 42)) = true then (FM y 2 (dD w) (fsx y 2) && (FM y 4 ((w + 6) % 7) (fsx y 4) || (decide ((w + 6) % 7 = 0) && FM y 4 7 (fsx y 4)))) else (FM y 2 (dD w) (fsx y 2) || (FM y 4 ((w + 6) % 7) (fsx y 4) || (decide ((w + 6) % 7 = 0) && FM y 4 7 (fsx y 4)))))) = _
              first | rw [bbp h29] | rw [bI_f.mp h29] | skip
              first | rw [decide_eq_true h33] | rw [decide_eq_false h33] | skip
              first | rw [bbp h44] | rw [bI_f.mp h44] | skip
              first | rw [bbp h60] | rw [bI_f.mp h60] | skip
              first | rw [bbp h69] | rw [bI_f.mp h69] | skip
              first | rw [bbp h89] | rw [bI_f.mp h89] | skip
              first | rfl | simp [bI]
            · refine g_iload (pc' := 94) dX8_holdsOn_92 rfl rfl ?_
              refine g_if_eq dX8_holdsOn_94 (tg := 110) (pc' := 97) (by decide) rfl (fun h94 => ?_) (fun h94 => absurd (by decide) h94)
              refine g_iload (pc' := 112) dX8_holdsOn_110 rfl rfl ?_
              refine g_if_ne dX8_holdsOn_112 (tg := 120) (pc' := 115) (by decide) rfl (fun h112 => ?_) (fun h112 => ?_)
              · refine g_iconst (pc' := 121) (v := 1) dX8_holdsOn_120 rfl rfl ?_
                refine g_goto dX8_holdsOn_121 (pc' := 125) (by decide) ?_
                refine g_iret dX8_holdsOn_125 rfl rfl (Nat.le_of_ble_eq_true rfl) (Nat.le_of_ble_eq_true rfl) ?_
                refine gq hQ ?_
                show bI (FM y 3 (dM w) (fsx y 3) && (if (decide (y (fsx y 2) = 42) || decide (y (fsx y 4) = 42)) = true then (FM y 2 (dD w) (fsx y 2) && (FM y 4 ((w + 6) % 7) (fsx y 4) || (decide ((w + 6) % 7 = 0) && FM y 4 7 (fsx y 4)))) else (FM y 2 (dD w) (fsx y 2) || (FM y 4 ((w + 6) % 7) (fsx y 4) || (decide ((w + 6) % 7 = 0) && FM y 4 7 (fsx y 4)))))) = _
                first | rw [bbp h29] | rw [bI_f.mp h29] | skip
                first | rw [decide_eq_true h33] | rw [decide_eq_false h33] | skip
                first | rw [bbp h44] | rw [bI_f.mp h44] | skip
                first | rw [bbp h60] | rw [bI_f.mp h60] | skip
                first | rw [bbp h69] | rw [bI_f.mp h69] | skip
                first | rw [bbp h89] | rw [bI_f.mp h89] | skip
                first | rw [bbp h112] | rw [bI_f.mp h112] | skip
                first | rfl | simp [bI]
              · refine g_iload (pc' := 117) dX8_holdsOn_115 rfl rfl ?_
                refine g_if_eq dX8_holdsOn_117 (tg := 124) (pc' := 120) (by decide) rfl (fun h117 => ?_) (fun h117 => absurd (by decide) h117)
                refine g_iconst (pc' := 125) (v := 0) dX8_holdsOn_124 rfl rfl ?_
                refine g_iret dX8_holdsOn_125 rfl rfl (Nat.le_of_ble_eq_true rfl) (Nat.le_of_ble_eq_true rfl) ?_
                refine gq hQ ?_
                show bI (FM y 3 (dM w) (fsx y 3) && (if (decide (y (fsx y 2) = 42) || decide (y (fsx y 4) = 42)) = true then (FM y 2 (dD w) (fsx y 2) && (FM y 4 ((w + 6) % 7) (fsx y 4) || (decide ((w + 6) % 7 = 0) && FM y 4 7 (fsx y 4)))) else (FM y 2 (dD w) (fsx y 2) || (FM y 4 ((w + 6) % 7) (fsx y 4) || (decide ((w + 6) % 7 = 0) && FM y 4 7 (fsx y 4)))))) = _
                first | rw [bbp h29] | rw [bI_f.mp h29] | skip
                first | rw [decide_eq_true h33] | rw [decide_eq_false h33] | skip
                first | rw [bbp h44] | rw [bI_f.mp h44] | skip
                first | rw [bbp h60] | rw [bI_f.mp h60] | skip
                first | rw [bbp h69] | rw [bI_f.mp h69] | skip
                first | rw [bbp h89] | rw [bI_f.mp h89] | skip
                first | rw [bbp h112] | rw [bI_f.mp h112] | skip
                first | rfl | simp [bI]
          · refine g_iconst (pc' := 73) (v := 1) dX8_holdsOn_72 rfl rfl ?_
            refine g_goto dX8_holdsOn_73 (pc' := 77) (by decide) ?_
            refine gistore6 (pc' := 79) dX8_holdsOn_77 rfl (Nat.le_of_ble_eq_true rfl) rfl ?_
            refine g_aload_n (pc' := 80) dX8_holdsOn_79 rfl rfl ?_
            refine g_iload_n (pc' := 81) dX8_holdsOn_80 rfl rfl ?_
            refine g_iconst (pc' := 82) (v := 3) dX8_holdsOn_81 rfl rfl ?_
            refine g_aload_n (pc' := 83) dX8_holdsOn_82 rfl rfl ?_
            refine ggX8_127 (pc' := 86) rfl dX8_holdsOn_83 rfl hMT.1 ?_
            rw [e3, show (3 : Int32) = nI 3 from rfl]
            refine gcv3 (pc' := 89) cwX8_143 cf8 dX8_holdsOn_86 rfl hMT.1 (Nat.le_of_ble_eq_true rfl) (Nat.le_of_ble_eq_true rfl) (Nat.le_of_ble_eq_true rfl) (Nat.le_of_ble_eq_true rfl) (Nat.le_of_ble_eq_true rfl) (kX8_has (f := 3) (v := dM w) hMT hXT.1 hXT.2.1 hXT.2.2.1 hj (by decide) (hXT.2.2.2.2 3 (by decide)) hF3 he3 (by omega) ?_)
            refine g_if_eq dX8_holdsOn_89 (tg := 124) (pc' := 92) (by decide) rfl (fun h89 => ?_) (fun h89 => ?_)
            · refine g_iconst (pc' := 125) (v := 0) dX8_holdsOn_124 rfl rfl ?_
              refine g_iret dX8_holdsOn_125 rfl rfl (Nat.le_of_ble_eq_true rfl) (Nat.le_of_ble_eq_true rfl) ?_
              refine gq hQ ?_
              show bI (FM y 3 (dM w) (fsx y 3) && (if (decide (y (fsx y 2) = 42) || decide (y (fsx y 4) = 42)) = true then (FM y 2 (dD w) (fsx y 2) && (FM y 4 ((w + 6) % 7) (fsx y 4) || (decide ((w + 6) % 7 = 0) && FM y 4 7 (fsx y 4)))) else (FM y 2 (dD w) (fsx y 2) || (FM y 4 ((w + 6) % 7) (fsx y 4) || (decide ((w + 6) % 7 = 0) && FM y 4 7 (fsx y 4)))))) = _
              first | rw [bbp h29] | rw [bI_f.mp h29] | skip
              first | rw [decide_eq_true h33] | rw [decide_eq_false h33] | skip
              first | rw [bbp h44] | rw [bI_f.mp h44] | skip
              first | rw [bbp h60] | rw [bI_f.mp h60] | skip
              first | rw [bbp h69] | rw [bI_f.mp h69] | skip
              first | rw [bbp h89] | rw [bI_f.mp h89] | skip
              first | rfl | simp [bI]
            · refine g_iload (pc' := 94) dX8_holdsOn_92 rfl rfl ?_
              refine g_if_eq dX8_holdsOn_94 (tg := 110) (pc' := 97) (by decide) rfl (fun h94 => absurd h94 (by decide)) (fun h94 => ?_)
              refine g_iload (pc' := 99) dX8_holdsOn_97 rfl rfl ?_
              refine g_if_eq dX8_holdsOn_99 (tg := 124) (pc' := 102) (by decide) rfl (fun h99 => ?_) (fun h99 => ?_)
              · refine g_iconst (pc' := 125) (v := 0) dX8_holdsOn_124 rfl rfl ?_
                refine g_iret dX8_holdsOn_125 rfl rfl (Nat.le_of_ble_eq_true rfl) (Nat.le_of_ble_eq_true rfl) ?_
                refine gq hQ ?_
                show bI (FM y 3 (dM w) (fsx y 3) && (if (decide (y (fsx y 2) = 42) || decide (y (fsx y 4) = 42)) = true then (FM y 2 (dD w) (fsx y 2) && (FM y 4 ((w + 6) % 7) (fsx y 4) || (decide ((w + 6) % 7 = 0) && FM y 4 7 (fsx y 4)))) else (FM y 2 (dD w) (fsx y 2) || (FM y 4 ((w + 6) % 7) (fsx y 4) || (decide ((w + 6) % 7 = 0) && FM y 4 7 (fsx y 4)))))) = _
                first | rw [bbp h29] | rw [bI_f.mp h29] | skip
                first | rw [decide_eq_true h33] | rw [decide_eq_false h33] | skip
                first | rw [bbp h44] | rw [bI_f.mp h44] | skip
                first | rw [bbp h60] | rw [bI_f.mp h60] | skip
                first | rw [bbp h69] | rw [bI_f.mp h69] | skip
                first | rw [bbp h89] | rw [bI_f.mp h89] | skip
                first | rw [bbp h99] | rw [bI_f.mp h99] | skip
                first | rfl | simp [bI]
              · refine g_iload (pc' := 104) dX8_holdsOn_102 rfl rfl ?_
                refine g_if_eq dX8_holdsOn_104 (tg := 124) (pc' := 107) (by decide) rfl (fun h104 => ?_) (fun h104 => absurd (by decide) h104)
                refine g_iconst (pc' := 125) (v := 0) dX8_holdsOn_124 rfl rfl ?_
                refine g_iret dX8_holdsOn_125 rfl rfl (Nat.le_of_ble_eq_true rfl) (Nat.le_of_ble_eq_true rfl) ?_
                refine gq hQ ?_
                show bI (FM y 3 (dM w) (fsx y 3) && (if (decide (y (fsx y 2) = 42) || decide (y (fsx y 4) = 42)) = true then (FM y 2 (dD w) (fsx y 2) && (FM y 4 ((w + 6) % 7) (fsx y 4) || (decide ((w + 6) % 7 = 0) && FM y 4 7 (fsx y 4)))) else (FM y 2 (dD w) (fsx y 2) || (FM y 4 ((w + 6) % 7) (fsx y 4) || (decide ((w + 6) % 7 = 0) && FM y 4 7 (fsx y 4)))))) = _
                first | rw [bbp h29] | rw [bI_f.mp h29] | skip
                first | rw [decide_eq_true h33] | rw [decide_eq_false h33] | skip
                first | rw [bbp h44] | rw [bI_f.mp h44] | skip
                first | rw [bbp h60] | rw [bI_f.mp h60] | skip
                first | rw [bbp h69] | rw [bI_f.mp h69] | skip
                first | rw [bbp h89] | rw [bI_f.mp h89] | skip
                first | rw [bbp h99] | rw [bI_f.mp h99] | skip
                first | rfl | simp [bI]
      · refine g_iconst (pc' := 48) (v := 1) dX8_holdsOn_47 rfl rfl ?_
        refine g_goto dX8_holdsOn_48 (pc' := 52) (by decide) ?_
        try rw [show (0 : Int32) = nI 0 from rfl, nI_eq (by omega) (by decide)] at h33
        refine gistore5 (pc' := 54) dX8_holdsOn_52 rfl (Nat.le_of_ble_eq_true rfl) rfl ?_
        refine g_aload_n (pc' := 55) dX8_holdsOn_54 rfl rfl ?_
        refine g_iload_n (pc' := 56) dX8_holdsOn_55 rfl rfl ?_
        refine g_iconst (pc' := 57) (v := 2) dX8_holdsOn_56 rfl rfl ?_
        rw [show (2 : Int32) = nI 2 from rfl]
        refine gcv2 (pc' := 60) cwX8_146 cf8 dX8_holdsOn_57 rfl hMT.1 (Nat.le_of_ble_eq_true rfl) (Nat.le_of_ble_eq_true rfl) (Nat.le_of_ble_eq_true rfl) (Nat.le_of_ble_eq_true rfl) (Nat.le_of_ble_eq_true rfl) (kX8_isFree (f := 2) hMT hXT.1 hXT.2.1 hXT.2.2.1 hj (by decide) (hXT.2.2.2.2 2 (by decide)) hF2 he2 ?_)
        refine g_if_ne dX8_holdsOn_60 (tg := 72) (pc' := 63) (by decide) rfl (fun h60 => ?_) (fun h60 => ?_)
        · refine g_iconst (pc' := 73) (v := 1) dX8_holdsOn_72 rfl rfl ?_
          refine g_goto dX8_holdsOn_73 (pc' := 77) (by decide) ?_
          refine gistore6 (pc' := 79) dX8_holdsOn_77 rfl (Nat.le_of_ble_eq_true rfl) rfl ?_
          refine g_aload_n (pc' := 80) dX8_holdsOn_79 rfl rfl ?_
          refine g_iload_n (pc' := 81) dX8_holdsOn_80 rfl rfl ?_
          refine g_iconst (pc' := 82) (v := 3) dX8_holdsOn_81 rfl rfl ?_
          refine g_aload_n (pc' := 83) dX8_holdsOn_82 rfl rfl ?_
          refine ggX8_127 (pc' := 86) rfl dX8_holdsOn_83 rfl hMT.1 ?_
          rw [e3, show (3 : Int32) = nI 3 from rfl]
          refine gcv3 (pc' := 89) cwX8_143 cf8 dX8_holdsOn_86 rfl hMT.1 (Nat.le_of_ble_eq_true rfl) (Nat.le_of_ble_eq_true rfl) (Nat.le_of_ble_eq_true rfl) (Nat.le_of_ble_eq_true rfl) (Nat.le_of_ble_eq_true rfl) (kX8_has (f := 3) (v := dM w) hMT hXT.1 hXT.2.1 hXT.2.2.1 hj (by decide) (hXT.2.2.2.2 3 (by decide)) hF3 he3 (by omega) ?_)
          refine g_if_eq dX8_holdsOn_89 (tg := 124) (pc' := 92) (by decide) rfl (fun h89 => ?_) (fun h89 => ?_)
          · refine g_iconst (pc' := 125) (v := 0) dX8_holdsOn_124 rfl rfl ?_
            refine g_iret dX8_holdsOn_125 rfl rfl (Nat.le_of_ble_eq_true rfl) (Nat.le_of_ble_eq_true rfl) ?_
            refine gq hQ ?_
            show bI (FM y 3 (dM w) (fsx y 3) && (if (decide (y (fsx y 2) = 42) || decide (y (fsx y 4) = 42)) = true then (FM y 2 (dD w) (fsx y 2) && (FM y 4 ((w + 6) % 7) (fsx y 4) || (decide ((w + 6) % 7 = 0) && FM y 4 7 (fsx y 4)))) else (FM y 2 (dD w) (fsx y 2) || (FM y 4 ((w + 6) % 7) (fsx y 4) || (decide ((w + 6) % 7 = 0) && FM y 4 7 (fsx y 4)))))) = _
            first | rw [bbp h29] | rw [bI_f.mp h29] | skip
            first | rw [decide_eq_true h33] | rw [decide_eq_false h33] | skip
            first | rw [bbp h44] | rw [bI_f.mp h44] | skip
            first | rw [bbp h60] | rw [bI_f.mp h60] | skip
            first | rw [bbp h89] | rw [bI_f.mp h89] | skip
            first | rfl | simp [bI]
          · refine g_iload (pc' := 94) dX8_holdsOn_92 rfl rfl ?_
            refine g_if_eq dX8_holdsOn_94 (tg := 110) (pc' := 97) (by decide) rfl (fun h94 => absurd h94 (by decide)) (fun h94 => ?_)
            refine g_iload (pc' := 99) dX8_holdsOn_97 rfl rfl ?_
            refine g_if_eq dX8_holdsOn_99 (tg := 124) (pc' := 102) (by decide) rfl (fun h99 => ?_) (fun h99 => ?_)
            · refine g_iconst (pc' := 125) (v := 0) dX8_holdsOn_124 rfl rfl ?_
              refine g_iret dX8_holdsOn_125 rfl rfl (Nat.le_of_ble_eq_true rfl) (Nat.le_of_ble_eq_true rfl) ?_
              refine gq hQ ?_
              show bI (FM y 3 (dM w) (fsx y 3) && (if (decide (y (fsx y 2) = 42) || decide (y (fsx y 4) = 42)) = true then (FM y 2 (dD w) (fsx y 2) && (FM y 4 ((w + 6) % 7) (fsx y 4) || (decide ((w + 6) % 7 = 0) && FM y 4 7 (fsx y 4)))) else (FM y 2 (dD w) (fsx y 2) || (FM y 4 ((w + 6) % 7) (fsx y 4) || (decide ((w + 6) % 7 = 0) && FM y 4 7 (fsx y 4)))))) = _
              first | rw [bbp h29] | rw [bI_f.mp h29] | skip
              first | rw [decide_eq_true h33] | rw [decide_eq_false h33] | skip
              first | rw [bbp h44] | rw [bI_f.mp h44] | skip
              first | rw [bbp h60] | rw [bI_f.mp h60] | skip
              first | rw [bbp h89] | rw [bI_f.mp h89] | skip
              first | rw [bbp h99] | rw [bI_f.mp h99] | skip
              first | rfl | simp [bI]
            · refine g_iload (pc' := 104) dX8_holdsOn_102 rfl rfl ?_
              refine g_if_eq dX8_holdsOn_104 (tg := 124) (pc' := 107) (by decide) rfl (fun h104 => absurd h104 (by decide)) (fun h104 => ?_)
              refine g_goto dX8_holdsOn_107 (pc' := 120) (by decide) ?_
              refine g_iconst (pc' := 121) (v := 1) dX8_holdsOn_120 rfl rfl ?_
              refine g_goto dX8_holdsOn_121 (pc' := 125) (by decide) ?_
              refine g_iret dX8_holdsOn_125 rfl rfl (Nat.le_of_ble_eq_true rfl) (Nat.le_of_ble_eq_true rfl) ?_
              refine gq hQ ?_
              show bI (FM y 3 (dM w) (fsx y 3) && (if (decide (y (fsx y 2) = 42) || decide (y (fsx y 4) = 42)) = true then (FM y 2 (dD w) (fsx y 2) && (FM y 4 ((w + 6) % 7) (fsx y 4) || (decide ((w + 6) % 7 = 0) && FM y 4 7 (fsx y 4)))) else (FM y 2 (dD w) (fsx y 2) || (FM y 4 ((w + 6) % 7) (fsx y 4) || (decide ((w + 6) % 7 = 0) && FM y 4 7 (fsx y 4)))))) = _
              first | rw [bbp h29] | rw [bI_f.mp h29] | skip
              first | rw [decide_eq_true h33] | rw [decide_eq_false h33] | skip
              first | rw [bbp h44] | rw [bI_f.mp h44] | skip
              first | rw [bbp h60] | rw [bI_f.mp h60] | skip
              first | rw [bbp h89] | rw [bI_f.mp h89] | skip
              first | rw [bbp h99] | rw [bI_f.mp h99] | skip
              first | rfl | simp [bI]
        · refine g_aload_n (pc' := 64) dX8_holdsOn_63 rfl rfl ?_
          refine g_iload_n (pc' := 65) dX8_holdsOn_64 rfl rfl ?_
          refine g_iconst (pc' := 66) (v := 4) dX8_holdsOn_65 rfl rfl ?_
          rw [show (4 : Int32) = nI 4 from rfl]
          refine gcv2 (pc' := 69) cwX8_146 cf8 dX8_holdsOn_66 rfl hMT.1 (Nat.le_of_ble_eq_true rfl) (Nat.le_of_ble_eq_true rfl) (Nat.le_of_ble_eq_true rfl) (Nat.le_of_ble_eq_true rfl) (Nat.le_of_ble_eq_true rfl) (kX8_isFree (f := 4) hMT hXT.1 hXT.2.1 hXT.2.2.1 hj (by decide) (hXT.2.2.2.2 4 (by decide)) hF4 he4 ?_)
          refine g_if_eq dX8_holdsOn_69 (tg := 76) (pc' := 72) (by decide) rfl (fun h69 => ?_) (fun h69 => ?_)
          · refine g_iconst (pc' := 77) (v := 0) dX8_holdsOn_76 rfl rfl ?_
            refine gistore6 (pc' := 79) dX8_holdsOn_77 rfl (Nat.le_of_ble_eq_true rfl) rfl ?_
            refine g_aload_n (pc' := 80) dX8_holdsOn_79 rfl rfl ?_
            refine g_iload_n (pc' := 81) dX8_holdsOn_80 rfl rfl ?_
            refine g_iconst (pc' := 82) (v := 3) dX8_holdsOn_81 rfl rfl ?_
            refine g_aload_n (pc' := 83) dX8_holdsOn_82 rfl rfl ?_
            refine ggX8_127 (pc' := 86) rfl dX8_holdsOn_83 rfl hMT.1 ?_
            rw [e3, show (3 : Int32) = nI 3 from rfl]
            refine gcv3 (pc' := 89) cwX8_143 cf8 dX8_holdsOn_86 rfl hMT.1 (Nat.le_of_ble_eq_true rfl) (Nat.le_of_ble_eq_true rfl) (Nat.le_of_ble_eq_true rfl) (Nat.le_of_ble_eq_true rfl) (Nat.le_of_ble_eq_true rfl) (kX8_has (f := 3) (v := dM w) hMT hXT.1 hXT.2.1 hXT.2.2.1 hj (by decide) (hXT.2.2.2.2 3 (by decide)) hF3 he3 (by omega) ?_)
            refine g_if_eq dX8_holdsOn_89 (tg := 124) (pc' := 92) (by decide) rfl (fun h89 => ?_) (fun h89 => ?_)
            · refine g_iconst (pc' := 125) (v := 0) dX8_holdsOn_124 rfl rfl ?_
              refine g_iret dX8_holdsOn_125 rfl rfl (Nat.le_of_ble_eq_true rfl) (Nat.le_of_ble_eq_true rfl) ?_
              refine gq hQ ?_
              show bI (FM y 3 (dM w) (fsx y 3) && (if (decide (y (fsx y 2) = 42) || decide (y (fsx y 4) = 42)) = true then (FM y 2 (dD w) (fsx y 2) && (FM y 4 ((w + 6) % 7) (fsx y 4) || (decide ((w + 6) % 7 = 0) && FM y 4 7 (fsx y 4)))) else (FM y 2 (dD w) (fsx y 2) || (FM y 4 ((w + 6) % 7) (fsx y 4) || (decide ((w + 6) % 7 = 0) && FM y 4 7 (fsx y 4)))))) = _
              first | rw [bbp h29] | rw [bI_f.mp h29] | skip
              first | rw [decide_eq_true h33] | rw [decide_eq_false h33] | skip
              first | rw [bbp h44] | rw [bI_f.mp h44] | skip
              first | rw [bbp h60] | rw [bI_f.mp h60] | skip
              first | rw [bbp h69] | rw [bI_f.mp h69] | skip
              first | rw [bbp h89] | rw [bI_f.mp h89] | skip
              first | rfl | simp [bI]
            · refine g_iload (pc' := 94) dX8_holdsOn_92 rfl rfl ?_
              refine g_if_eq dX8_holdsOn_94 (tg := 110) (pc' := 97) (by decide) rfl (fun h94 => ?_) (fun h94 => absurd (by decide) h94)
              refine g_iload (pc' := 112) dX8_holdsOn_110 rfl rfl ?_
              refine g_if_ne dX8_holdsOn_112 (tg := 120) (pc' := 115) (by decide) rfl (fun h112 => ?_) (fun h112 => ?_)
              · refine g_iconst (pc' := 121) (v := 1) dX8_holdsOn_120 rfl rfl ?_
                refine g_goto dX8_holdsOn_121 (pc' := 125) (by decide) ?_
                refine g_iret dX8_holdsOn_125 rfl rfl (Nat.le_of_ble_eq_true rfl) (Nat.le_of_ble_eq_true rfl) ?_
                refine gq hQ ?_
                show bI (FM y 3 (dM w) (fsx y 3) && (if (decide (y (fsx y 2) = 42) || decide (y (fsx y 4) = 42)) = true then (FM y 2 (dD w) (fsx y 2) && (FM y 4 ((w + 6) % 7) (fsx y 4) || (decide ((w + 6) % 7 = 0) && FM y 4 7 (fsx y 4)))) else (FM y 2 (dD w) (fsx y 2) || (FM y 4 ((w + 6) % 7) (fsx y 4) || (decide ((w + 6) % 7 = 0) && FM y 4 7 (fsx y 4)))))) = _
                first | rw [bbp h29] | rw [bI_f.mp h29] | skip
                first | rw [decide_eq_true h33] | rw [decide_eq_false h33] | skip
                first | rw [bbp h44] | rw [bI_f.mp h44] | skip
                first | rw [bbp h60] | rw [bI_f.mp h60] | skip
                first | rw [bbp h69] | rw [bI_f.mp h69] | skip
                first | rw [bbp h89] | rw [bI_f.mp h89] | skip
                first | rw [bbp h112] | rw [bI_f.mp h112] | skip
                first | rfl | simp [bI]
              · refine g_iload (pc' := 117) dX8_holdsOn_115 rfl rfl ?_
                refine g_if_eq dX8_holdsOn_117 (tg := 124) (pc' := 120) (by decide) rfl (fun h117 => absurd h117 (by decide)) (fun h117 => ?_)
                refine g_iconst (pc' := 121) (v := 1) dX8_holdsOn_120 rfl rfl ?_
                refine g_goto dX8_holdsOn_121 (pc' := 125) (by decide) ?_
                refine g_iret dX8_holdsOn_125 rfl rfl (Nat.le_of_ble_eq_true rfl) (Nat.le_of_ble_eq_true rfl) ?_
                refine gq hQ ?_
                show bI (FM y 3 (dM w) (fsx y 3) && (if (decide (y (fsx y 2) = 42) || decide (y (fsx y 4) = 42)) = true then (FM y 2 (dD w) (fsx y 2) && (FM y 4 ((w + 6) % 7) (fsx y 4) || (decide ((w + 6) % 7 = 0) && FM y 4 7 (fsx y 4)))) else (FM y 2 (dD w) (fsx y 2) || (FM y 4 ((w + 6) % 7) (fsx y 4) || (decide ((w + 6) % 7 = 0) && FM y 4 7 (fsx y 4)))))) = _
                first | rw [bbp h29] | rw [bI_f.mp h29] | skip
                first | rw [decide_eq_true h33] | rw [decide_eq_false h33] | skip
                first | rw [bbp h44] | rw [bI_f.mp h44] | skip
                first | rw [bbp h60] | rw [bI_f.mp h60] | skip
                first | rw [bbp h69] | rw [bI_f.mp h69] | skip
                first | rw [bbp h89] | rw [bI_f.mp h89] | skip
                first | rw [bbp h112] | rw [bI_f.mp h112] | skip
                first | rfl | simp [bI]
          · refine g_iconst (pc' := 73) (v := 1) dX8_holdsOn_72 rfl rfl ?_
            refine g_goto dX8_holdsOn_73 (pc' := 77) (by decide) ?_
            refine gistore6 (pc' := 79) dX8_holdsOn_77 rfl (Nat.le_of_ble_eq_true rfl) rfl ?_
            refine g_aload_n (pc' := 80) dX8_holdsOn_79 rfl rfl ?_
            refine g_iload_n (pc' := 81) dX8_holdsOn_80 rfl rfl ?_
            refine g_iconst (pc' := 82) (v := 3) dX8_holdsOn_81 rfl rfl ?_
            refine g_aload_n (pc' := 83) dX8_holdsOn_82 rfl rfl ?_
            refine ggX8_127 (pc' := 86) rfl dX8_holdsOn_83 rfl hMT.1 ?_
            rw [e3, show (3 : Int32) = nI 3 from rfl]
            refine gcv3 (pc' := 89) cwX8_143 cf8 dX8_holdsOn_86 rfl hMT.1 (Nat.le_of_ble_eq_true rfl) (Nat.le_of_ble_eq_true rfl) (Nat.le_of_ble_eq_true rfl) (Nat.le_of_ble_eq_true rfl) (Nat.le_of_ble_eq_true rfl) (kX8_has (f := 3) (v := dM w) hMT hXT.1 hXT.2.1 hXT.2.2.1 hj (by decide) (hXT.2.2.2.2 3 (by decide)) hF3 he3 (by omega) ?_)
            refine g_if_eq dX8_holdsOn_89 (tg := 124) (pc' := 92) (by decide) rfl (fun h89 => ?_) (fun h89 => ?_)
            · refine g_iconst (pc' := 125) (v := 0) dX8_holdsOn_124 rfl rfl ?_
              refine g_iret dX8_holdsOn_125 rfl rfl (Nat.le_of_ble_eq_true rfl) (Nat.le_of_ble_eq_true rfl) ?_
              refine gq hQ ?_
              show bI (FM y 3 (dM w) (fsx y 3) && (if (decide (y (fsx y 2) = 42) || decide (y (fsx y 4) = 42)) = true then (FM y 2 (dD w) (fsx y 2) && (FM y 4 ((w + 6) % 7) (fsx y 4) || (decide ((w + 6) % 7 = 0) && FM y 4 7 (fsx y 4)))) else (FM y 2 (dD w) (fsx y 2) || (FM y 4 ((w + 6) % 7) (fsx y 4) || (decide ((w + 6) % 7 = 0) && FM y 4 7 (fsx y 4)))))) = _
              first | rw [bbp h29] | rw [bI_f.mp h29] | skip
              first | rw [decide_eq_true h33] | rw [decide_eq_false h33] | skip
              first | rw [bbp h44] | rw [bI_f.mp h44] | skip
              first | rw [bbp h60] | rw [bI_f.mp h60] | skip
              first | rw [bbp h69] | rw [bI_f.mp h69] | skip
              first | rw [bbp h89] | rw [bI_f.mp h89] | skip
              first | rfl | simp [bI]
            · refine g_iload (pc' := 94) dX8_holdsOn_92 rfl rfl ?_
              refine g_if_eq dX8_holdsOn_94 (tg := 110) (pc' := 97) (by decide) rfl (fun h94 => absurd h94 (by decide)) (fun h94 => ?_)
              refine g_iload (pc' := 99) dX8_holdsOn_97 rfl rfl ?_
              refine g_if_eq dX8_holdsOn_99 (tg := 124) (pc' := 102) (by decide) rfl (fun h99 => ?_) (fun h99 => ?_)
              · refine g_iconst (pc' := 125) (v := 0) dX8_holdsOn_124 rfl rfl ?_
                refine g_iret dX8_holdsOn_125 rfl rfl (Nat.le_of_ble_eq_true rfl) (Nat.le_of_ble_eq_true rfl) ?_
                refine gq hQ ?_
                show bI (FM y 3 (dM w) (fsx y 3) && (if (decide (y (fsx y 2) = 42) || decide (y (fsx y 4) = 42)) = true then (FM y 2 (dD w) (fsx y 2) && (FM y 4 ((w + 6) % 7) (fsx y 4) || (decide ((w + 6) % 7 = 0) && FM y 4 7 (fsx y 4)))) else (FM y 2 (dD w) (fsx y 2) || (FM y 4 ((w + 6) % 7) (fsx y 4) || (decide ((w + 6) % 7 = 0) && FM y 4 7 (fsx y 4)))))) = _
                first | rw [bbp h29] | rw [bI_f.mp h29] | skip
                first | rw [decide_eq_true h33] | rw [decide_eq_false h33] | skip
                first | rw [bbp h44] | rw [bI_f.mp h44] | skip
                first | rw [bbp h60] | rw [bI_f.mp h60] | skip
                first | rw [bbp h69] | rw [bI_f.mp h69] | skip
                first | rw [bbp h89] | rw [bI_f.mp h89] | skip
                first | rw [bbp h99] | rw [bI_f.mp h99] | skip
                first | rfl | simp [bI]
              · refine g_iload (pc' := 104) dX8_holdsOn_102 rfl rfl ?_
                refine g_if_eq dX8_holdsOn_104 (tg := 124) (pc' := 107) (by decide) rfl (fun h104 => absurd h104 (by decide)) (fun h104 => ?_)
                refine g_goto dX8_holdsOn_107 (pc' := 120) (by decide) ?_
                refine g_iconst (pc' := 121) (v := 1) dX8_holdsOn_120 rfl rfl ?_
                refine g_goto dX8_holdsOn_121 (pc' := 125) (by decide) ?_
                refine g_iret dX8_holdsOn_125 rfl rfl (Nat.le_of_ble_eq_true rfl) (Nat.le_of_ble_eq_true rfl) ?_
                refine gq hQ ?_
                show bI (FM y 3 (dM w) (fsx y 3) && (if (decide (y (fsx y 2) = 42) || decide (y (fsx y 4) = 42)) = true then (FM y 2 (dD w) (fsx y 2) && (FM y 4 ((w + 6) % 7) (fsx y 4) || (decide ((w + 6) % 7 = 0) && FM y 4 7 (fsx y 4)))) else (FM y 2 (dD w) (fsx y 2) || (FM y 4 ((w + 6) % 7) (fsx y 4) || (decide ((w + 6) % 7 = 0) && FM y 4 7 (fsx y 4)))))) = _
                first | rw [bbp h29] | rw [bI_f.mp h29] | skip
                first | rw [decide_eq_true h33] | rw [decide_eq_false h33] | skip
                first | rw [bbp h44] | rw [bI_f.mp h44] | skip
                first | rw [bbp h60] | rw [bI_f.mp h60] | skip
                first | rw [bbp h69] | rw [bI_f.mp h69] | skip
                first | rw [bbp h89] | rw [bI_f.mp h89] | skip
                first | rw [bbp h99] | rw [bI_f.mp h99] | skip
                first | rfl | simp [bI]

set_option maxRecDepth 100000 in
set_option maxHeartbeats 2000000 in
theorem kX8_holdsAt {E : gE} {S : gS} {y : Nat → Nat} {L j m : Nat} {Q : Option gV → gS → Prop} (hM : ModS S) (hX : XM S j y L) (hj : j < 6) (hm : m < 20000000) (hQ : ∀ T, dK S T → Q (some (vI (bI (mHo y m)))) T) : gRun E mX8_holdsAt 8 0 0 [vR 8 0 0, vI (nI j), vI (nI m)] S [] Q := by
  refine gRun_of (ls := [some (vR 8 0 0), some (vI (nI j)), some (vI (nI m))]) rfl (Nat.le_of_ble_eq_true rfl) rfl (fun ad => ?_)
  obtain ⟨l8, l20, l21, l22, l23, l24, l25, l26, l27, l28, l29, l30, l31, l32, l33, l34, l35, r262, r265, r266, r267, r268, r269, r270, r271, r272, r273, r274, r275, r276, r277, r278, r280⟩ := id hM
  refine g_aload_n (pc' := 1) dX8_holdsAt_0 rfl rfl ?_
  refine g_iload_n (pc' := 2) dX8_holdsAt_1 rfl rfl ?_
  refine g_iload_n (pc' := 3) dX8_holdsAt_2 rfl rfl ?_
  refine g_sipush (pc' := 6) (v := 1440) dX8_holdsAt_3 rfl rfl ?_
  refine g_irem (pc' := 7) dX8_holdsAt_6 rfl (by decide) ?_
  rw [show (1440 : Int32) = nI 1440 from rfl, nI_rem (by omega) (by decide) (by decide)]
  refine gcv2 (pc' := 10) cwX8_150 cf8 dX8_holdsAt_7 rfl l8 (Nat.le_of_ble_eq_true rfl) (Nat.le_of_ble_eq_true rfl) (Nat.le_of_ble_eq_true rfl) (Nat.le_of_ble_eq_true rfl) (Nat.le_of_ble_eq_true rfl) (kX8_holdsIn hM hX hj (by omega) ?_)
  refine g_if_eq dX8_holdsAt_10 (tg := 30) (pc' := 13) (by decide) rfl (fun h10 => ?_) (fun h10 => ?_)
  · refine g_iconst (pc' := 31) (v := 0) dX8_holdsAt_30 rfl rfl ?_
    refine g_iret dX8_holdsAt_31 rfl rfl (Nat.le_of_ble_eq_true rfl) (Nat.le_of_ble_eq_true rfl) ?_
    first
      | exact gq (hQ _ dK.rf) (by rw [mHo, bI_f.mp h10]; rfl)
      | exact gq (hQ _ dK.rf.md) (by rw [mHo, bbp h10, bI_f.mp h23]; rfl)
      | exact gq (hQ _ dK.rf.md) (by rw [mHo, bbp h10, bbp h23]; rfl)
  · refine g_aload_n (pc' := 14) dX8_holdsAt_13 rfl rfl ?_
    refine g_iload_n (pc' := 15) dX8_holdsAt_14 rfl rfl ?_
    refine g_iload_n (pc' := 16) dX8_holdsAt_15 rfl rfl ?_
    refine g_sipush (pc' := 19) (v := 1440) dX8_holdsAt_16 rfl rfl ?_
    refine g_idiv (pc' := 20) dX8_holdsAt_19 rfl (by decide) ?_
    rw [show (1440 : Int32) = nI 1440 from rfl, pk_div (by omega) (by decide) (by decide)]
    refine gcv2 (pc' := 23) cwX8_153 cf8 dX8_holdsAt_20 rfl l8 (Nat.le_of_ble_eq_true rfl) (Nat.le_of_ble_eq_true rfl) (Nat.le_of_ble_eq_true rfl) (Nat.le_of_ble_eq_true rfl) (Nat.le_of_ble_eq_true rfl) (kX8_holdsOn hM hX hj (by omega) ?_)
    refine g_if_eq dX8_holdsAt_23 (tg := 30) (pc' := 26) (by decide) rfl (fun h23 => ?_) (fun h23 => ?_)
    · refine g_iconst (pc' := 31) (v := 0) dX8_holdsAt_30 rfl rfl ?_
      refine g_iret dX8_holdsAt_31 rfl rfl (Nat.le_of_ble_eq_true rfl) (Nat.le_of_ble_eq_true rfl) ?_
      first
        | exact gq (hQ _ dK.rf) (by rw [mHo, bI_f.mp h10]; rfl)
        | exact gq (hQ _ dK.rf.md) (by rw [mHo, bbp h10, bI_f.mp h23]; rfl)
        | exact gq (hQ _ dK.rf.md) (by rw [mHo, bbp h10, bbp h23]; rfl)
    · refine g_iconst (pc' := 27) (v := 1) dX8_holdsAt_26 rfl rfl ?_
      refine g_goto dX8_holdsAt_27 (pc' := 31) (by decide) ?_
      refine g_iret dX8_holdsAt_31 rfl rfl (Nat.le_of_ble_eq_true rfl) (Nat.le_of_ble_eq_true rfl) ?_
      first
        | exact gq (hQ _ dK.rf) (by rw [mHo, bI_f.mp h10]; rfl)
        | exact gq (hQ _ dK.rf.md) (by rw [mHo, bbp h10, bI_f.mp h23]; rfl)
        | exact gq (hQ _ dK.rf.md) (by rw [mHo, bbp h10, bbp h23]; rfl)

set_option maxRecDepth 100000 in
set_option maxHeartbeats 2000000 in
theorem kX8_firstFrom {E : gE} {S : gS} {y : Nat → Nat} {L j from' e : Nat} {Q : Option gV → gS → Prop} (hM : ModS S) (hX : XM S j y L) (hj : j < 6) (hfr : from' ≤ 20002000) (he : e ≤ 20000000) (hQ : ∀ T, dK S T → Q (some (vI (fT (mHo y) (e - from') from'))) T) : gRun E mX8_firstFrom 8 0 0 [vR 8 0 0, vI (nI j), vI (nI from'), vI (nI e)] S [] Q := by
  refine gRun_of (ls := [some (vR 8 0 0), some (vI (nI j)), some (vI (nI from')), some (vI (nI e)), none, none]) rfl (Nat.le_of_ble_eq_true rfl) rfl (fun ad => ?_)
  have LP : ∀ (k a : Nat) (T : gS) (w : Option gV) (_ : e - a < k) (ha : a ≤ 20002000) (hK : dK S T) (hv2 : fT (mHo y) (e - a) a = fT (mHo y) (e - from') from'), gG E mX8_firstFrom (gBof 8 0 0 ad [] Q) 3 [some (vR 8 0 0), some (vI (nI j)), some (vI (nI from')), some (vI (nI e)), some (vI (nI a)), w] [] T 0 0 := by
    intro k
    induction k with
    | zero => intro a T w h; omega
    | succ k ih =>
      intro a T w hk ha hK hv2
      have hMT : ModS T := hM.rest hK.rest
      have hXT : XM T j y L := hX.rest (congrArg (fun z => z.2.1) hK.rest)
      have l8 := hMT.1
      rcases Nat.lt_or_ge a e with c | c
      · skip
        refine g_iload (pc' := 5) dX8_firstFrom_3 rfl rfl ?_
        refine g_iload_n (pc' := 6) dX8_firstFrom_5 rfl rfl ?_
        refine g_icmp_ge dX8_firstFrom_6 (tg := 98) (pc' := 9) (by decide) rfl (fun h6 => absurd h6 (by rw [nI_leI (by omega) (by omega)]; omega)) (fun h6 => ?_)
        refine g_aload_n (pc' := 10) dX8_firstFrom_9 rfl rfl ?_
        refine g_iload_n (pc' := 11) dX8_firstFrom_10 rfl rfl ?_
        refine g_iload (pc' := 13) dX8_firstFrom_11 rfl rfl ?_
        refine g_sipush (pc' := 16) (v := 1440) dX8_firstFrom_13 rfl rfl ?_
        refine g_idiv (pc' := 17) dX8_firstFrom_16 rfl (by decide) ?_
        rw [show (1440 : Int32) = nI 1440 from rfl, pk_div (by omega) (by decide) (by decide)]
        refine gcv2 (pc' := 20) cwX8_153 cf8 dX8_firstFrom_17 rfl hMT.1 (Nat.le_of_ble_eq_true rfl) (Nat.le_of_ble_eq_true rfl) (Nat.le_of_ble_eq_true rfl) (Nat.le_of_ble_eq_true rfl) (Nat.le_of_ble_eq_true rfl) (kX8_holdsOn hMT hXT hj (by omega) ?_)
        refine g_if_eq dX8_firstFrom_20 (tg := 80) (pc' := 23) (by decide) rfl (fun h20 => ?_) (fun h20 => ?_)
        · refine g_iload (pc' := 82) dX8_firstFrom_80 rfl rfl ?_
          refine g_iload (pc' := 84) dX8_firstFrom_82 rfl rfl ?_
          refine g_sipush (pc' := 87) (v := 1440) dX8_firstFrom_84 rfl rfl ?_
          refine g_irem (pc' := 88) dX8_firstFrom_87 rfl (by decide) ?_
          rw [show (1440 : Int32) = nI 1440 from rfl, nI_rem (by omega) (by decide) (by decide)]
          refine g_isub (pc' := 89) dX8_firstFrom_88 rfl ?_
          rw [pk_sub (Nat.mod_le _ _)]
          refine g_sipush (pc' := 92) (v := 1440) dX8_firstFrom_89 rfl rfl ?_
          refine g_iadd (pc' := 93) dX8_firstFrom_92 rfl ?_
          rw [show (1440 : Int32) = nI 1440 from rfl, nI_add]
          refine gistore4 (pc' := 95) dX8_firstFrom_93 rfl (Nat.le_of_ble_eq_true rfl) rfl ?_
          refine g_goto dX8_firstFrom_95 (pc' := 3) (by decide) ?_
          have hD := bI_f.mp h20
          have hno : ∀ i, a ≤ i → i < a - a % 1440 + 1440 → mHo y i = false := fun i h1 h2 => by rw [mHo, show i / 1440 = a / 1440 by omega, hD, Bool.and_false]
          refine ih (a - a % 1440 + 1440) _ _ (by omega) (by omega) hK.md ?_
          rw [← hv2]
          rcases Nat.lt_or_ge e (a - a % 1440 + 1440) with c3 | c3
          · rw [fT_no (fun i h1 h2 => hno i h1 (by omega)), show e - (a - a % 1440 + 1440) = 0 by omega]; rfl
          · rw [show e - a = (a - a % 1440 + 1440 - a) + (e - (a - a % 1440 + 1440)) by omega, fT_skip _ _ (fun i h1 h2 => hno i h1 (by omega)), show a + (a - a % 1440 + 1440 - a) = a - a % 1440 + 1440 by omega]
        · refine g_iload (pc' := 25) dX8_firstFrom_23 rfl rfl ?_
          refine g_iload (pc' := 27) dX8_firstFrom_25 rfl rfl ?_
          refine g_sipush (pc' := 30) (v := 1440) dX8_firstFrom_27 rfl rfl ?_
          refine g_irem (pc' := 31) dX8_firstFrom_30 rfl (by decide) ?_
          rw [show (1440 : Int32) = nI 1440 from rfl, nI_rem (by omega) (by decide) (by decide)]
          refine g_isub (pc' := 32) dX8_firstFrom_31 rfl ?_
          rw [pk_sub (Nat.mod_le _ _)]
          refine g_sipush (pc' := 35) (v := 1440) dX8_firstFrom_32 rfl rfl ?_
          refine g_iadd (pc' := 36) dX8_firstFrom_35 rfl ?_
          rw [show (1440 : Int32) = nI 1440 from rfl, nI_add]
          refine gistore5 (pc' := 38) dX8_firstFrom_36 rfl (Nat.le_of_ble_eq_true rfl) rfl ?_
          have hD := bbp h20
          have hM2 : ModS (tMD T (a / 1440)) := hMT.of rfl rfl
          have hX2 : XM (tMD T (a / 1440)) j y L := hXT.rest rfl
          have IN : ∀ (k2 b : Nat) (_ : a - a % 1440 + 1440 - b < k2) (_ : a ≤ b) (_ : b ≤ a - a % 1440 + 1440) (hv2 : -1 = -1 → fT (mHo y) (e - b) b = fT (mHo y) (e - from') from'), gG E mX8_firstFrom (gBof 8 0 0 ad [] Q) 38 [some (vR 8 0 0), some (vI (nI j)), some (vI (nI from')), some (vI (nI e)), some (vI (nI b)), some (vI (nI (a - a % 1440 + 1440)))] [] (tMD T (a / 1440)) 0 0 := by
            intro k2
            induction k2 with
            | zero => intro b h; omega
            | succ k2 ih2 =>
              intro b hb1 hb2 hb3 hv2
              have l8 := hM2.1
              rcases Nat.lt_or_ge b (a - a % 1440 + 1440) with c1 | c1
              · rcases Nat.lt_or_ge b e with c2 | c2
                · have hbd : b / 1440 = a / 1440 := by omega
                  have hs : fT (mHo y) (e - b) b = if mHo y b = true then nI b else fT (mHo y) (e - (b + 1)) (b + 1) := by rw [show e - b = (e - (b + 1)) + 1 by omega]; rfl
                  refine g_iload (pc' := 40) dX8_firstFrom_38 rfl rfl ?_
                  refine g_iload (pc' := 42) dX8_firstFrom_40 rfl rfl ?_
                  refine g_icmp_ge dX8_firstFrom_42 (tg := 77) (pc' := 45) (by decide) rfl (fun h42 => absurd h42 (by rw [nI_leI (by omega) (by omega)]; omega)) (fun h42 => ?_)
                  refine g_iload (pc' := 47) dX8_firstFrom_45 rfl rfl ?_
                  refine g_iload_n (pc' := 48) dX8_firstFrom_47 rfl rfl ?_
                  refine g_icmp_ge dX8_firstFrom_48 (tg := 77) (pc' := 51) (by decide) rfl (fun h48 => absurd h48 (by rw [nI_leI (by omega) (by omega)]; omega)) (fun h48 => ?_)
                  refine g_aload_n (pc' := 52) dX8_firstFrom_51 rfl rfl ?_
                  refine g_iload_n (pc' := 53) dX8_firstFrom_52 rfl rfl ?_
                  refine g_iload (pc' := 55) dX8_firstFrom_53 rfl rfl ?_
                  refine g_sipush (pc' := 58) (v := 1440) dX8_firstFrom_55 rfl rfl ?_
                  refine g_irem (pc' := 59) dX8_firstFrom_58 rfl (by decide) ?_
                  rw [show (1440 : Int32) = nI 1440 from rfl, nI_rem (by omega) (by decide) (by decide)]
                  refine gcv2 (pc' := 62) cwX8_150 cf8 dX8_firstFrom_59 rfl l8 (Nat.le_of_ble_eq_true rfl) (Nat.le_of_ble_eq_true rfl) (Nat.le_of_ble_eq_true rfl) (Nat.le_of_ble_eq_true rfl) (Nat.le_of_ble_eq_true rfl) (kX8_holdsIn hM2 hX2 hj (by omega) ?_)
                  refine g_if_eq dX8_firstFrom_62 (tg := 68) (pc' := 65) (by decide) rfl (fun h62 => ?_) (fun h62 => ?_)
                  · refine g_iload (pc' := 70) dX8_firstFrom_68 rfl rfl ?_
                    refine g_iconst (pc' := 71) (v := 1) dX8_firstFrom_70 rfl rfl ?_
                    refine g_iadd (pc' := 72) dX8_firstFrom_71 rfl ?_
                    rw [nI_1]
                    refine gistore4 (pc' := 74) dX8_firstFrom_72 rfl (Nat.le_of_ble_eq_true rfl) rfl ?_
                    refine g_goto dX8_firstFrom_74 (pc' := 38) (by decide) ?_
                    refine ih2 (b + 1) (by omega) (by omega) (by omega) (fun _ => ?_)
                    rw [← hv2 rfl, hs, if_neg (by rw [mHo, bI_f.mp h62, Bool.false_and]; decide)]
                  · refine g_iload (pc' := 67) dX8_firstFrom_65 rfl rfl ?_
                    refine g_iret dX8_firstFrom_67 rfl rfl (Nat.le_of_ble_eq_true rfl) (Nat.le_of_ble_eq_true rfl) ?_
                    exact gq (hQ _ hK.md) (by rw [← hv2 rfl, hs, if_pos (by rw [mHo, bbp h62, hbd, hD]; rfl)])
                · skip
                  refine g_iload (pc' := 40) dX8_firstFrom_38 rfl rfl ?_
                  refine g_iload (pc' := 42) dX8_firstFrom_40 rfl rfl ?_
                  refine g_icmp_ge dX8_firstFrom_42 (tg := 77) (pc' := 45) (by decide) rfl (fun h42 => absurd h42 (by rw [nI_leI (by omega) (by omega)]; omega)) (fun h42 => ?_)
                  refine g_iload (pc' := 47) dX8_firstFrom_45 rfl rfl ?_
                  refine g_iload_n (pc' := 48) dX8_firstFrom_47 rfl rfl ?_
                  refine g_icmp_ge dX8_firstFrom_48 (tg := 77) (pc' := 51) (by decide) rfl (fun h48 => ?_) (fun h48 => absurd (by rw [nI_leI (by omega) (by omega)]; exact c2) h48)
                  refine g_goto dX8_firstFrom_77 (pc' := 3) (by decide) ?_
                  exact ih b _ _ (by omega) (by omega) hK.md (hv2 rfl)
              · skip
                refine g_iload (pc' := 40) dX8_firstFrom_38 rfl rfl ?_
                refine g_iload (pc' := 42) dX8_firstFrom_40 rfl rfl ?_
                refine g_icmp_ge dX8_firstFrom_42 (tg := 77) (pc' := 45) (by decide) rfl (fun h42 => ?_) (fun h42 => absurd (by rw [nI_leI (by omega) (by omega)]; exact c1) h42)
                refine g_goto dX8_firstFrom_77 (pc' := 3) (by decide) ?_
                exact ih b _ _ (by omega) (by omega) hK.md (hv2 rfl)
          exact IN (1440 + 1) a (by omega) (Nat.le_refl _) (by omega) (fun _ => hv2)
      · have hv : fT (mHo y) (e - from') from' = -1 := by rw [← hv2, show e - a = 0 by omega]; rfl
        refine g_iload (pc' := 5) dX8_firstFrom_3 rfl rfl ?_
        refine g_iload_n (pc' := 6) dX8_firstFrom_5 rfl rfl ?_
        refine g_icmp_ge dX8_firstFrom_6 (tg := 98) (pc' := 9) (by decide) rfl (fun h6 => ?_) (fun h6 => absurd (by rw [nI_leI (by omega) (by omega)]; exact c) h6)
        refine g_iconst (pc' := 99) (v := (-1)) dX8_firstFrom_98 rfl rfl ?_
        refine g_iret dX8_firstFrom_99 rfl rfl (Nat.le_of_ble_eq_true rfl) (Nat.le_of_ble_eq_true rfl) ?_
        exact gq (hQ T hK) hv
  have l8 := hM.1
  refine g_iload_n (pc' := 1) dX8_firstFrom_0 rfl rfl ?_
  refine gistore4 (pc' := 3) dX8_firstFrom_1 rfl (Nat.le_of_ble_eq_true rfl) rfl ?_
  exact LP (e + 1) from' S none (by omega) hfr dK.rf rfl

