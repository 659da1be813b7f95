/-! READING AN ABSTRACT STATE; THE CLASS (1): Task, Log, Text -/
theorem fI_sfI {S : gS} {g j t g' j' t' : Nat} {v : Int32} : fI (sfI S g j t v) g' j' t' = if g' = g ∧ j' = j ∧ t' = t then v else fI S g' j' t' := rfl
theorem fR_sfI {S : gS} {g j t : Nat} {v : Int32} : fR (sfI S g j t v) = fR S := rfl
theorem aI_sfI {S : gS} {g j t : Nat} {v : Int32} : aI (sfI S g j t v) = aI S := rfl
theorem aL_sfI {S : gS} {g j t : Nat} {v : Int32} : aL (sfI S g j t v) = aL S := rfl
theorem aR_sfI {S : gS} {g j t : Nat} {v : Int32} : aR (sfI S g j t v) = aR S := rfl
theorem gL_sfI {S : gS} {g j t : Nat} {v : Int32} : gL (sfI S g j t v) = gL S := rfl
theorem fI_sfR {S : gS} {g j t : Nat} {v : Option gId} : fI (sfR S g j t v) = fI S := rfl
theorem fR_sfR {S : gS} {g j t g' j' t' : Nat} {v : Option gId} : fR (sfR S g j t v) g' j' t' = if g' = g ∧ j' = j ∧ t' = t then v else fR S g' j' t' := rfl
theorem aI_sfR {S : gS} {g j t : Nat} {v : Option gId} : aI (sfR S g j t v) = aI S := rfl
theorem aL_sfR {S : gS} {g j t : Nat} {v : Option gId} : aL (sfR S g j t v) = aL S := rfl
theorem aR_sfR {S : gS} {g j t : Nat} {v : Option gId} : aR (sfR S g j t v) = aR S := rfl
theorem gL_sfR {S : gS} {g j t : Nat} {v : Option gId} : gL (sfR S g j t v) = gL S := rfl
theorem fI_saI {S : gS} {g j t : Nat} {v : Int32} : fI (saI S g j t v) = fI S := rfl
theorem fR_saI {S : gS} {g j t : Nat} {v : Int32} : fR (saI S g j t v) = fR S := rfl
theorem aI_saI {S : gS} {g j t g' j' t' : Nat} {v : Int32} : aI (saI S g j t v) g' j' t' = if g' = g ∧ j' = j ∧ t' = t then v else aI S g' j' t' := rfl
theorem aL_saI {S : gS} {g j t : Nat} {v : Int32} : aL (saI S g j t v) = aL S := rfl
theorem aR_saI {S : gS} {g j t : Nat} {v : Int32} : aR (saI S g j t v) = aR S := rfl
theorem gL_saI {S : gS} {g j t : Nat} {v : Int32} : gL (saI S g j t v) = gL S := rfl
theorem fI_saL {S : gS} {g j t : Nat} {v : Int64} : fI (saL S g j t v) = fI S := rfl
theorem fR_saL {S : gS} {g j t : Nat} {v : Int64} : fR (saL S g j t v) = fR S := rfl
theorem aI_saL {S : gS} {g j t : Nat} {v : Int64} : aI (saL S g j t v) = aI S := rfl
theorem aL_saL {S : gS} {g j t g' j' t' : Nat} {v : Int64} : aL (saL S g j t v) g' j' t' = if g' = g ∧ j' = j ∧ t' = t then v else aL S g' j' t' := rfl
theorem aR_saL {S : gS} {g j t : Nat} {v : Int64} : aR (saL S g j t v) = aR S := rfl
theorem gL_saL {S : gS} {g j t : Nat} {v : Int64} : gL (saL S g j t v) = gL S := rfl
theorem fI_saR {S : gS} {g j t : Nat} {v : Option gId} : fI (saR S g j t v) = fI S := rfl
theorem fR_saR {S : gS} {g j t : Nat} {v : Option gId} : fR (saR S g j t v) = fR S := rfl
theorem aI_saR {S : gS} {g j t : Nat} {v : Option gId} : aI (saR S g j t v) = aI S := rfl
theorem aL_saR {S : gS} {g j t : Nat} {v : Option gId} : aL (saR S g j t v) = aL S := rfl
theorem aR_saR {S : gS} {g j t g' j' t' : Nat} {v : Option gId} : aR (saR S g j t v) g' j' t' = if g' = g ∧ j' = j ∧ t' = t then v else aR S g' j' t' := rfl
theorem gL_saR {S : gS} {g j t : Nat} {v : Option gId} : gL (saR S g j t v) = gL S := rfl
theorem gq {Q : Option gV → gS → Prop} {S : gS} {r r' : Int32} (h : Q (some (vI r)) S) (e : r = r') : Q (some (vI r')) S := e ▸ h
theorem gq2 {Q : Option gV → gS → Prop} {S S' : gS} {r r' : Int32} (h : Q (some (vI r)) S) (e : r = r') (e2 : S = S') : Q (some (vI r')) S' := e ▸ e2 ▸ h
theorem gqv {Q : Option gV → gS → Prop} {S S' : gS} (h : Q none S) (e2 : S = S') : Q none S' := e2 ▸ h
def bI (b : Bool) : Int32 := if b = true then 1 else 0
theorem bI_t {b : Bool} : bI b = 1 ↔ b = true := by cases b <;> decide
theorem bI_f {b : Bool} : bI b = 0 ↔ b = false := by cases b <;> decide
theorem bI_01 (b : Bool) : bI b = 0 ∨ bI b = 1 := by cases b <;> decide
theorem bI_nar (b : Bool) : narrow .boolean (.int (bI b)) = .int (bI b) := gz_n (bI_01 b)
theorem nI_rem {a d : Nat} (ha : a < 2 ^ 31) (h0 : 0 < d) (hd : d < 2 ^ 31) : nI a % nI d = nI (a % d) := by rw [← irem_eq_mod]; exact pk_rem ha h0 hd
theorem glt {a b : Int32} : a < b ↔ ¬ b ≤ a := Int32.not_le.symm
theorem bd_t {P : Prop} {_ : Decidable P} (h : P) : bI (decide P) = 1 := bI_t.mpr (decide_eq_true h)
theorem bd_f {P : Prop} {_ : Decidable P} (h : ¬ P) : bI (decide P) = 0 := bI_f.mpr (decide_eq_false h)
theorem nI_lit (n : Nat) : nI n = Int32.ofNat n := rfl
def tOver (S : gS) (j t : Nat) : Bool := decide (fI S 163 j t = 4 ∨ fI S 163 j t = 5 ∨ fI S 163 j t = 6)
set_option maxRecDepth 100000 in
theorem kX5_isOver {E : gE} {S : gS} {j t : Nat} {Q : Option gV → gS → Prop} (l5 : lv S 5 j t) (hQ : Q (some (vI (bI (tOver S j t)))) S) : gRun E mX5_isOver 1 0 0 [vR 5 j t] S [] Q := by
  refine gRun_of (ls := [some (vR 5 j t)]) rfl (Nat.le_of_ble_eq_true rfl) rfl (fun ad => ?_)
  refine g_aload_n (pc' := 1) dX5_isOver_0 rfl rfl ?_
  refine ggX5_9 (pc' := 4) rfl dX5_isOver_1 rfl l5 ?_
  refine g_iconst (pc' := 5) (v := 4) dX5_isOver_4 rfl rfl ?_
  refine g_icmp_eq dX5_isOver_5 (tg := 25) (pc' := 8) (by decide) rfl (fun h5 => ?_) (fun h5 => ?_)
  · refine g_iconst (pc' := 26) (v := 1) dX5_isOver_25 rfl rfl ?_
    refine g_goto dX5_isOver_26 (pc' := 30) (by decide) ?_
    refine g_iret dX5_isOver_30 rfl rfl (Nat.le_of_ble_eq_true rfl) (Nat.le_of_ble_eq_true rfl) ?_
    exact gq hQ (by simp [bI, tOver, h5])
  · refine g_aload_n (pc' := 9) dX5_isOver_8 rfl rfl ?_
    refine ggX5_9 (pc' := 12) rfl dX5_isOver_9 rfl l5 ?_
    refine g_iconst (pc' := 13) (v := 5) dX5_isOver_12 rfl rfl ?_
    refine g_icmp_eq dX5_isOver_13 (tg := 25) (pc' := 16) (by decide) rfl (fun h13 => ?_) (fun h13 => ?_)
    · refine g_iconst (pc' := 26) (v := 1) dX5_isOver_25 rfl rfl ?_
      refine g_goto dX5_isOver_26 (pc' := 30) (by decide) ?_
      refine g_iret dX5_isOver_30 rfl rfl (Nat.le_of_ble_eq_true rfl) (Nat.le_of_ble_eq_true rfl) ?_
      exact gq hQ (by simp [bI, tOver, h5, h13])
    · refine g_aload_n (pc' := 17) dX5_isOver_16 rfl rfl ?_
      refine ggX5_9 (pc' := 20) rfl dX5_isOver_17 rfl l5 ?_
      refine g_bipush (pc' := 22) (v := 6) dX5_isOver_20 rfl rfl ?_
      refine g_icmp_ne dX5_isOver_22 (tg := 29) (pc' := 25) (by decide) rfl (fun h22 => ?_) (fun h22 => ?_)
      · refine g_iconst (pc' := 30) (v := 0) dX5_isOver_29 rfl rfl ?_
        refine g_iret dX5_isOver_30 rfl rfl (Nat.le_of_ble_eq_true rfl) (Nat.le_of_ble_eq_true rfl) ?_
        exact gq hQ (by simp [bI, tOver, h5, h13, h22])
      · refine g_iconst (pc' := 26) (v := 1) dX5_isOver_25 rfl rfl ?_
        refine g_goto dX5_isOver_26 (pc' := 30) (by decide) ?_
        refine g_iret dX5_isOver_30 rfl rfl (Nat.le_of_ble_eq_true rfl) (Nat.le_of_ble_eq_true rfl) ?_
        exact gq hQ (by simp [bI, tOver, h5, h13, h22])

def tBegin (S : gS) (j t : Nat) : gS := sfI (sfI S 163 j t 1) 164 j t 0
set_option maxRecDepth 100000 in
theorem kX5_begin {E : gE} {S : gS} {j t : Nat} {Q : Option gV → gS → Prop} (l5 : lv S 5 j t) (hQ : Q none (tBegin S j t)) : gRun E mX5_begin 1 0 0 [vR 5 j t] S [] Q := by
  refine gRun_of (ls := [some (vR 5 j t)]) rfl (Nat.le_of_ble_eq_true rfl) rfl (fun ad => ?_)
  refine g_aload_n (pc' := 1) dX5_begin_0 rfl rfl ?_
  refine g_iconst (pc' := 2) (v := 1) dX5_begin_1 rfl rfl ?_
  refine gpX5_9 (pc' := 5) rfl dX5_begin_2 rfl l5 ?_
  refine g_aload_n (pc' := 6) dX5_begin_5 rfl rfl ?_
  refine g_iconst (pc' := 7) (v := 0) dX5_begin_6 rfl rfl ?_
  refine gpX5_15 (pc' := 10) rfl dX5_begin_7 rfl l5 ?_
  refine g_vret dX5_begin_10 rfl (Nat.le_of_ble_eq_true rfl) (Nat.le_of_ble_eq_true rfl) ?_
  exact hQ

def tReady (S : gS) (j t : Nat) (now done : Int32) : Bool := decide ((fI S 163 j t = 1 ∨ fI S 163 j t = 2 ∧ fI S 165 j t ≤ now) ∧ fI S 160 j t &&& (done ^^^ (-1)) = 0)
set_option maxRecDepth 100000 in
theorem kX5_isReady {E : gE} {S : gS} {j t : Nat} {now done : Int32} {Q : Option gV → gS → Prop} (l5 : lv S 5 j t) (hQ : Q (some (vI (bI (tReady S j t now done)))) S) : gRun E mX5_isReady 1 0 0 [vR 5 j t, vI now, vI done] S [] Q := by
  refine gRun_of (ls := [some (vR 5 j t), some (vI now), some (vI done), none]) rfl (Nat.le_of_ble_eq_true rfl) rfl (fun ad => ?_)
  refine g_aload_n (pc' := 1) dX5_isReady_0 rfl rfl ?_
  refine ggX5_9 (pc' := 4) rfl dX5_isReady_1 rfl l5 ?_
  refine g_iconst (pc' := 5) (v := 1) dX5_isReady_4 rfl rfl ?_
  refine g_icmp_eq dX5_isReady_5 (tg := 24) (pc' := 8) (by decide) rfl (fun h5 => ?_) (fun h5 => ?_)
  · refine g_iconst (pc' := 25) (v := 1) dX5_isReady_24 rfl rfl ?_
    refine g_goto dX5_isReady_25 (pc' := 29) (by decide) ?_
    refine gistore_n3 (pc' := 30) dX5_isReady_29 rfl (Nat.le_of_ble_eq_true rfl) rfl ?_
    refine g_iload_n (pc' := 31) dX5_isReady_30 rfl rfl ?_
    refine g_if_eq dX5_isReady_31 (tg := 49) (pc' := 34) (by decide) rfl (fun h31 => absurd h31 (by decide)) (fun h31 => ?_)
    refine g_aload_n (pc' := 35) dX5_isReady_34 rfl rfl ?_
    refine ggX5_21 (pc' := 38) rfl dX5_isReady_35 rfl l5 ?_
    refine g_iload_n (pc' := 39) dX5_isReady_38 rfl rfl ?_
    refine g_iconst (pc' := 40) (v := (-1)) dX5_isReady_39 rfl rfl ?_
    refine g_ixor (pc' := 41) dX5_isReady_40 rfl ?_
    refine g_iand (pc' := 42) dX5_isReady_41 rfl ?_
    refine g_if_ne dX5_isReady_42 (tg := 49) (pc' := 45) (by decide) rfl (fun h42 => ?_) (fun h42 => ?_)
    · refine g_iconst (pc' := 50) (v := 0) dX5_isReady_49 rfl rfl ?_
      refine g_iret dX5_isReady_50 rfl rfl (Nat.le_of_ble_eq_true rfl) (Nat.le_of_ble_eq_true rfl) ?_
      exact gq hQ (by simp only [bI, tReady, Int32.lt_iff_toInt_lt, Int32.le_iff_toInt_le] at *; simp_all <;> (intros; omega))
    · refine g_iconst (pc' := 46) (v := 1) dX5_isReady_45 rfl rfl ?_
      refine g_goto dX5_isReady_46 (pc' := 50) (by decide) ?_
      refine g_iret dX5_isReady_50 rfl rfl (Nat.le_of_ble_eq_true rfl) (Nat.le_of_ble_eq_true rfl) ?_
      exact gq hQ (by simp only [bI, tReady, Int32.lt_iff_toInt_lt, Int32.le_iff_toInt_le] at *; simp_all <;> (intros; omega))
  · refine g_aload_n (pc' := 9) dX5_isReady_8 rfl rfl ?_
    refine ggX5_9 (pc' := 12) rfl dX5_isReady_9 rfl l5 ?_
    refine g_iconst (pc' := 13) (v := 2) dX5_isReady_12 rfl rfl ?_
    refine g_icmp_ne dX5_isReady_13 (tg := 28) (pc' := 16) (by decide) rfl (fun h13 => ?_) (fun h13 => ?_)
    · refine g_iconst (pc' := 29) (v := 0) dX5_isReady_28 rfl rfl ?_
      refine gistore_n3 (pc' := 30) dX5_isReady_29 rfl (Nat.le_of_ble_eq_true rfl) rfl ?_
      refine g_iload_n (pc' := 31) dX5_isReady_30 rfl rfl ?_
      refine g_if_eq dX5_isReady_31 (tg := 49) (pc' := 34) (by decide) rfl (fun h31 => ?_) (fun h31 => absurd (by decide) h31)
      refine g_iconst (pc' := 50) (v := 0) dX5_isReady_49 rfl rfl ?_
      refine g_iret dX5_isReady_50 rfl rfl (Nat.le_of_ble_eq_true rfl) (Nat.le_of_ble_eq_true rfl) ?_
      exact gq hQ (by simp only [bI, tReady, Int32.lt_iff_toInt_lt, Int32.le_iff_toInt_le] at *; simp_all <;> (intros; omega))
    · refine g_aload_n (pc' := 17) dX5_isReady_16 rfl rfl ?_
      refine ggX5_18 (pc' := 20) rfl dX5_isReady_17 rfl l5 ?_
      refine g_iload_n (pc' := 21) dX5_isReady_20 rfl rfl ?_
      refine g_icmp_gt dX5_isReady_21 (tg := 28) (pc' := 24) (by decide) rfl (fun h21 => ?_) (fun h21 => ?_)
      · refine g_iconst (pc' := 29) (v := 0) dX5_isReady_28 rfl rfl ?_
        refine gistore_n3 (pc' := 30) dX5_isReady_29 rfl (Nat.le_of_ble_eq_true rfl) rfl ?_
        refine g_iload_n (pc' := 31) dX5_isReady_30 rfl rfl ?_
        refine g_if_eq dX5_isReady_31 (tg := 49) (pc' := 34) (by decide) rfl (fun h31 => ?_) (fun h31 => absurd (by decide) h31)
        refine g_iconst (pc' := 50) (v := 0) dX5_isReady_49 rfl rfl ?_
        refine g_iret dX5_isReady_50 rfl rfl (Nat.le_of_ble_eq_true rfl) (Nat.le_of_ble_eq_true rfl) ?_
        exact gq hQ (by simp only [bI, tReady, Int32.lt_iff_toInt_lt, Int32.le_iff_toInt_le] at *; simp_all <;> (intros; omega))
      · refine g_iconst (pc' := 25) (v := 1) dX5_isReady_24 rfl rfl ?_
        refine g_goto dX5_isReady_25 (pc' := 29) (by decide) ?_
        refine gistore_n3 (pc' := 30) dX5_isReady_29 rfl (Nat.le_of_ble_eq_true rfl) rfl ?_
        refine g_iload_n (pc' := 31) dX5_isReady_30 rfl rfl ?_
        refine g_if_eq dX5_isReady_31 (tg := 49) (pc' := 34) (by decide) rfl (fun h31 => absurd h31 (by decide)) (fun h31 => ?_)
        refine g_aload_n (pc' := 35) dX5_isReady_34 rfl rfl ?_
        refine ggX5_21 (pc' := 38) rfl dX5_isReady_35 rfl l5 ?_
        refine g_iload_n (pc' := 39) dX5_isReady_38 rfl rfl ?_
        refine g_iconst (pc' := 40) (v := (-1)) dX5_isReady_39 rfl rfl ?_
        refine g_ixor (pc' := 41) dX5_isReady_40 rfl ?_
        refine g_iand (pc' := 42) dX5_isReady_41 rfl ?_
        refine g_if_ne dX5_isReady_42 (tg := 49) (pc' := 45) (by decide) rfl (fun h42 => ?_) (fun h42 => ?_)
        · refine g_iconst (pc' := 50) (v := 0) dX5_isReady_49 rfl rfl ?_
          refine g_iret dX5_isReady_50 rfl rfl (Nat.le_of_ble_eq_true rfl) (Nat.le_of_ble_eq_true rfl) ?_
          exact gq hQ (by simp only [bI, tReady, Int32.lt_iff_toInt_lt, Int32.le_iff_toInt_le] at *; simp_all <;> (intros; omega))
        · refine g_iconst (pc' := 46) (v := 1) dX5_isReady_45 rfl rfl ?_
          refine g_goto dX5_isReady_46 (pc' := 50) (by decide) ?_
          refine g_iret dX5_isReady_50 rfl rfl (Nat.le_of_ble_eq_true rfl) (Nat.le_of_ble_eq_true rfl) ?_
          exact gq hQ (by simp only [bI, tReady, Int32.lt_iff_toInt_lt, Int32.le_iff_toInt_le] at *; simp_all <;> (intros; omega))

def tAgain (S : gS) (j t : Nat) : Bool := decide (fI S 164 j t + 1 < fI S 161 j t)
def tTry (S : gS) (j t : Nat) (now : Int32) : gS := if fI S 164 j t + 1 < fI S 161 j t then sfI (sfI (sfI S 164 j t (fI S 164 j t + 1)) 163 j t 2) 165 j t (now + (fI S 162 j t <<< (fI S 164 j t &&& 31))) else sfI S 164 j t (fI S 164 j t + 1)
set_option maxRecDepth 100000 in
theorem kX5_tryAgain {E : gE} {S : gS} {j t : Nat} {now : Int32} {Q : Option gV → gS → Prop} (l5 : lv S 5 j t) (hQ : Q (some (vI (bI (tAgain S j t)))) (tTry S j t now)) : gRun E mX5_tryAgain 1 0 0 [vR 5 j t, vI now] S [] Q := by
  refine gRun_of (ls := [some (vR 5 j t), some (vI now), none]) rfl (Nat.le_of_ble_eq_true rfl) rfl (fun ad => ?_)
  refine g_aload_n (pc' := 1) dX5_tryAgain_0 rfl rfl ?_
  refine ggX5_15 (pc' := 4) rfl dX5_tryAgain_1 rfl l5 ?_
  refine gistore_n2 (pc' := 5) dX5_tryAgain_4 rfl (Nat.le_of_ble_eq_true rfl) rfl ?_
  refine g_aload_n (pc' := 6) dX5_tryAgain_5 rfl rfl ?_
  refine g_dup (pc' := 7) dX5_tryAgain_6 rfl rfl ?_
  refine ggX5_15 (pc' := 10) rfl dX5_tryAgain_7 rfl l5 ?_
  refine g_iconst (pc' := 11) (v := 1) dX5_tryAgain_10 rfl rfl ?_
  refine g_iadd (pc' := 12) dX5_tryAgain_11 rfl ?_
  refine gpX5_15 (pc' := 15) rfl dX5_tryAgain_12 rfl l5 ?_
  refine g_aload_n (pc' := 16) dX5_tryAgain_15 rfl rfl ?_
  refine ggX5_15 (pc' := 19) rfl dX5_tryAgain_16 rfl l5 ?_
  refine g_aload_n (pc' := 20) dX5_tryAgain_19 rfl rfl ?_
  refine ggX5_24 (pc' := 23) rfl dX5_tryAgain_20 rfl l5 ?_
  refine g_icmp_lt dX5_tryAgain_23 (tg := 28) (pc' := 26) (by decide) rfl (fun h23 => ?_) (fun h23 => ?_)
  · refine g_aload_n (pc' := 29) dX5_tryAgain_28 rfl rfl ?_
    refine g_iconst (pc' := 30) (v := 2) dX5_tryAgain_29 rfl rfl ?_
    refine gpX5_9 (pc' := 33) rfl dX5_tryAgain_30 rfl l5 ?_
    refine g_aload_n (pc' := 34) dX5_tryAgain_33 rfl rfl ?_
    refine g_iload_n (pc' := 35) dX5_tryAgain_34 rfl rfl ?_
    refine g_aload_n (pc' := 36) dX5_tryAgain_35 rfl rfl ?_
    refine ggX5_27 (pc' := 39) rfl dX5_tryAgain_36 rfl l5 ?_
    refine g_iload_n (pc' := 40) dX5_tryAgain_39 rfl rfl ?_
    refine g_ishl (pc' := 41) dX5_tryAgain_40 rfl ?_
    refine g_iadd (pc' := 42) dX5_tryAgain_41 rfl ?_
    refine gpX5_18 (pc' := 45) rfl dX5_tryAgain_42 rfl l5 ?_
    refine g_iconst (pc' := 46) (v := 1) dX5_tryAgain_45 rfl rfl ?_
    refine g_iret dX5_tryAgain_46 rfl rfl (Nat.le_of_ble_eq_true rfl) (Nat.le_of_ble_eq_true rfl) ?_
    simp only [fI_sfI, fR_sfI, aI_sfI, aL_sfI, aR_sfI, gL_sfI, fI_sfR, fR_sfR, aI_sfR, aL_sfR, aR_sfR, gL_sfR, fI_saI, fR_saI, aI_saI, aL_saI, aR_saI, gL_saI, fI_saL, fR_saL, aI_saL, aL_saL, aR_saL, gL_saL, fI_saR, fR_saR, aI_saR, aL_saR, aR_saR, gL_saR, Nat.reduceEqDiff, reduceIte, and_self, and_true, true_and, false_and, and_false] at h23
    exact gq2 hQ (by simp only [bI, tAgain, Int32.lt_iff_toInt_lt, Int32.le_iff_toInt_le] at *; simp_all <;> (intros; omega)) (by unfold tTry; first | (rw [if_pos h23]; done) | (rw [if_pos h23]; simp [fI_sfI, fR_sfI, aI_sfI, aL_sfI, aR_sfI, gL_sfI, fI_sfR, fR_sfR, aI_sfR, aL_sfR, aR_sfR, gL_sfR, fI_saI, fR_saI, aI_saI, aL_saI, aR_saI, gL_saI, fI_saL, fR_saL, aI_saL, aL_saL, aR_saL, gL_saL, fI_saR, fR_saR, aI_saR, aL_saR, aR_saR, gL_saR]; done) | rw [if_neg h23])
  · refine g_iconst (pc' := 27) (v := 0) dX5_tryAgain_26 rfl rfl ?_
    refine g_iret dX5_tryAgain_27 rfl rfl (Nat.le_of_ble_eq_true rfl) (Nat.le_of_ble_eq_true rfl) ?_
    simp only [fI_sfI, fR_sfI, aI_sfI, aL_sfI, aR_sfI, gL_sfI, fI_sfR, fR_sfR, aI_sfR, aL_sfR, aR_sfR, gL_sfR, fI_saI, fR_saI, aI_saI, aL_saI, aR_saI, gL_saI, fI_saL, fR_saL, aI_saL, aL_saL, aR_saL, gL_saL, fI_saR, fR_saR, aI_saR, aL_saR, aR_saR, gL_saR, Nat.reduceEqDiff, reduceIte, and_self, and_true, true_and, false_and, and_false] at h23
    exact gq2 hQ (by simp only [bI, tAgain, Int32.lt_iff_toInt_lt, Int32.le_iff_toInt_le] at *; simp_all <;> (intros; omega)) (by unfold tTry; first | (rw [if_pos h23]; done) | (rw [if_pos h23]; simp [fI_sfI, fR_sfI, aI_sfI, aL_sfI, aR_sfI, gL_sfI, fI_sfR, fR_sfR, aI_sfR, aL_sfR, aR_sfR, gL_sfR, fI_saI, fR_saI, aI_saI, aL_saI, aR_saI, gL_saI, fI_saL, fR_saL, aI_saL, aL_saL, aR_saL, gL_saL, fI_saR, fR_saR, aI_saR, aL_saR, aR_saR, gL_saR]; done) | rw [if_neg h23])

set_option maxRecDepth 100000 in
theorem kX5_init {E : gE} {S : gS} {j t : Nat} {nd mt pz : Int32} {Q : Option gV → gS → Prop} (l5 : lv S 5 j t) (hQ : Q none (sfI (sfI (sfI (sfI (sfI (sfI S 163 j t 0) 164 j t 0) 165 j t 0) 160 j t nd) 161 j t mt) 162 j t pz)) : gRun E mX5_init 2 0 0 [vR 5 j t, vI nd, vI mt, vI pz] S [] Q := by
  refine gRun_of (ls := [some (vR 5 j t), some (vI nd), some (vI mt), some (vI pz)]) rfl (Nat.le_of_ble_eq_true rfl) rfl (fun ad => ?_)
  refine g_aload_n (pc' := 1) dX5_init_0 rfl rfl ?_
  refine g_objInit (pc' := 4) oiX5 oi1 oi2 dX5_init_1 rfl (Nat.le_of_ble_eq_true rfl) (Nat.le_of_ble_eq_true rfl) ?_
  refine g_aload_n (pc' := 5) dX5_init_4 rfl rfl ?_
  refine g_iconst (pc' := 6) (v := 0) dX5_init_5 rfl rfl ?_
  refine gpX5_9 (pc' := 9) rfl dX5_init_6 rfl l5 ?_
  refine g_aload_n (pc' := 10) dX5_init_9 rfl rfl ?_
  refine g_iconst (pc' := 11) (v := 0) dX5_init_10 rfl rfl ?_
  refine gpX5_15 (pc' := 14) rfl dX5_init_11 rfl l5 ?_
  refine g_aload_n (pc' := 15) dX5_init_14 rfl rfl ?_
  refine g_iconst (pc' := 16) (v := 0) dX5_init_15 rfl rfl ?_
  refine gpX5_18 (pc' := 19) rfl dX5_init_16 rfl l5 ?_
  refine g_aload_n (pc' := 20) dX5_init_19 rfl rfl ?_
  refine g_iload_n (pc' := 21) dX5_init_20 rfl rfl ?_
  refine gpX5_21 (pc' := 24) rfl rfl dX5_init_21 rfl l5 ?_
  refine g_aload_n (pc' := 25) dX5_init_24 rfl rfl ?_
  refine g_iload_n (pc' := 26) dX5_init_25 rfl rfl ?_
  refine gpX5_24 (pc' := 29) rfl rfl dX5_init_26 rfl l5 ?_
  refine g_aload_n (pc' := 30) dX5_init_29 rfl rfl ?_
  refine g_iload_n (pc' := 31) dX5_init_30 rfl rfl ?_
  refine gpX5_27 (pc' := 34) rfl rfl dX5_init_31 rfl l5 ?_
  refine g_vret dX5_init_34 rfl (Nat.le_of_ble_eq_true rfl) (Nat.le_of_ble_eq_true rfl) ?_
  exact hQ

def tLog (S : gS) (n : Nat) (k m j t : Int32) : gS := sfI (saI (saI (saI (saI S 13 0 (n % 64 * 4) k) 13 0 (n % 64 * 4 + 1) m) 13 0 (n % 64 * 4 + 2) j) 13 0 (n % 64 * 4 + 3) t) 97 0 0 (nI (n + 1))
theorem log_ix {n : Nat} (h : n < 2 ^ 30) (a : Nat) : nI n % 64 * 4 + nI a = nI (n % 64 * 4 + a) := by
  rw [show (64 : Int32) = nI 64 from rfl, nI_rem (by omega) (by decide) (by decide), show (4 : Int32) = nI 4 from rfl, pk_mul, nI_add]
theorem log_ix0 {n : Nat} (h : n < 2 ^ 30) : nI n % 64 * 4 = nI (n % 64 * 4) := by
  rw [show (64 : Int32) = nI 64 from rfl, nI_rem (by omega) (by decide) (by decide), show (4 : Int32) = nI 4 from rfl, pk_mul]
set_option maxRecDepth 100000 in
theorem kX3_add {E : gE} {S : gS} {n : Nat} {k m j t : Int32} {Q : Option gV → gS → Prop} (l3 : lv S 3 0 0) (l13 : lv S 13 0 0) (r96 : fR S 96 0 0 = some (13, 0, 0)) (hn : n < 2 ^ 30) (h97 : fI S 97 0 0 = nI n) (hQ : Q none (tLog S n k m j t)) : gRun E mX3_add 1 0 0 [vR 3 0 0, vI k, vI m, vI j, vI t] S [] Q := by
  refine gRun_of (ls := [some (vR 3 0 0), some (vI k), some (vI m), some (vI j), some (vI t), none]) rfl (Nat.le_of_ble_eq_true rfl) rfl (fun ad => ?_)
  refine g_aload_n (pc' := 1) dX3_add_0 rfl rfl ?_
  refine ggX3_13 (pc' := 4) rfl dX3_add_1 rfl l3 ?_
  refine g_bipush (pc' := 6) (v := 64) dX3_add_4 rfl rfl ?_
  refine g_irem (pc' := 7) dX3_add_6 rfl (by decide) ?_
  refine g_iconst (pc' := 8) (v := 4) dX3_add_7 rfl rfl ?_
  refine g_imul (pc' := 9) dX3_add_8 rfl ?_
  refine gistore5 (pc' := 11) dX3_add_9 rfl (Nat.le_of_ble_eq_true rfl) rfl ?_
  rw [h97, log_ix0 hn]
  refine g_aload_n (pc' := 12) dX3_add_11 rfl rfl ?_
  refine ggX3_9 (pc' := 15) rfl dX3_add_12 rfl l3 r96 ?_
  refine g_iload (pc' := 17) dX3_add_15 rfl rfl ?_
  refine g_iload_n (pc' := 18) dX3_add_17 rfl rfl ?_
  refine g_iast (pc' := 19) (n := n % 64 * 4) dX3_add_18 rfl (by decide) rfl rfl (show n % 64 * 4 < 256 by omega) l13 ?_
  refine g_aload_n (pc' := 20) dX3_add_19 rfl rfl ?_
  refine ggX3_9 (pc' := 23) rfl dX3_add_20 rfl l3 r96 ?_
  refine g_iload (pc' := 25) dX3_add_23 rfl rfl ?_
  refine g_iconst (pc' := 26) (v := 1) dX3_add_25 rfl rfl ?_
  refine g_iadd (pc' := 27) dX3_add_26 rfl ?_
  refine g_iload_n (pc' := 28) dX3_add_27 rfl rfl ?_
  refine g_iast (pc' := 29) (n := n % 64 * 4 + 1) dX3_add_28 rfl (by decide) rfl (nI_add _ 1) (show n % 64 * 4 + 1 < 256 by omega) l13 ?_
  refine g_aload_n (pc' := 30) dX3_add_29 rfl rfl ?_
  refine ggX3_9 (pc' := 33) rfl dX3_add_30 rfl l3 r96 ?_
  refine g_iload (pc' := 35) dX3_add_33 rfl rfl ?_
  refine g_iconst (pc' := 36) (v := 2) dX3_add_35 rfl rfl ?_
  refine g_iadd (pc' := 37) dX3_add_36 rfl ?_
  refine g_iload_n (pc' := 38) dX3_add_37 rfl rfl ?_
  refine g_iast (pc' := 39) (n := n % 64 * 4 + 2) dX3_add_38 rfl (by decide) rfl (nI_add _ 2) (show n % 64 * 4 + 2 < 256 by omega) l13 ?_
  refine g_aload_n (pc' := 40) dX3_add_39 rfl rfl ?_
  refine ggX3_9 (pc' := 43) rfl dX3_add_40 rfl l3 r96 ?_
  refine g_iload (pc' := 45) dX3_add_43 rfl rfl ?_
  refine g_iconst (pc' := 46) (v := 3) dX3_add_45 rfl rfl ?_
  refine g_iadd (pc' := 47) dX3_add_46 rfl ?_
  refine g_iload (pc' := 49) dX3_add_47 rfl rfl ?_
  refine g_iast (pc' := 50) (n := n % 64 * 4 + 3) dX3_add_49 rfl (by decide) rfl (nI_add _ 3) (show n % 64 * 4 + 3 < 256 by omega) l13 ?_
  
  refine g_aload_n (pc' := 51) dX3_add_50 rfl rfl ?_
  refine g_dup (pc' := 52) dX3_add_51 rfl rfl ?_
  refine ggX3_13 (pc' := 55) rfl dX3_add_52 rfl l3 ?_
  refine g_iconst (pc' := 56) (v := 1) dX3_add_55 rfl rfl ?_
  refine g_iadd (pc' := 57) dX3_add_56 rfl ?_
  refine gpX3_13 (pc' := 60) rfl dX3_add_57 rfl l3 ?_
  refine g_vret dX3_add_60 rfl (Nat.le_of_ble_eq_true rfl) (Nat.le_of_ble_eq_true rfl) ?_
  exact gqv hQ (by simp only [tLog, fI_sfI, fR_sfI, aI_sfI, aL_sfI, aR_sfI, gL_sfI, fI_sfR, fR_sfR, aI_sfR, aL_sfR, aR_sfR, gL_sfR, fI_saI, fR_saI, aI_saI, aL_saI, aR_saI, gL_saI, fI_saL, fR_saL, aI_saL, aL_saL, aR_saL, gL_saL, fI_saR, fR_saR, aI_saR, aL_saR, aR_saR, gL_saR]; rw [h97, nI_1])

set_option maxRecDepth 100000 in
theorem kX3_keeps {E : gE} {S : gS} {b : Int32} {Q : Option gV → gS → Prop} (l3 : lv S 3 0 0) (hQ : Q (some (vI (bI (decide (0 ≤ b ∧ b < 64 ∧ b < fI S 97 0 0))))) S) : gRun E mX3_keeps 1 0 0 [vR 3 0 0, vI b] S [] Q := by
  refine gRun_of (ls := [some (vR 3 0 0), some (vI b)]) rfl (Nat.le_of_ble_eq_true rfl) rfl (fun ad => ?_)
  refine g_iload_n (pc' := 1) dX3_keeps_0 rfl rfl ?_
  refine g_if_lt dX3_keeps_1 (tg := 22) (pc' := 4) (by decide) rfl (fun h1 => ?_) (fun h1 => ?_)
  · refine g_iconst (pc' := 23) (v := 0) dX3_keeps_22 rfl rfl ?_
    refine g_iret dX3_keeps_23 rfl rfl (Nat.le_of_ble_eq_true rfl) (Nat.le_of_ble_eq_true rfl) ?_
    exact gq hQ (by simp only [bI,  Int32.lt_iff_toInt_lt, Int32.le_iff_toInt_le] at *; simp_all <;> (intros; omega))
  · refine g_iload_n (pc' := 5) dX3_keeps_4 rfl rfl ?_
    refine g_bipush (pc' := 7) (v := 64) dX3_keeps_5 rfl rfl ?_
    refine g_icmp_ge dX3_keeps_7 (tg := 22) (pc' := 10) (by decide) rfl (fun h7 => ?_) (fun h7 => ?_)
    · refine g_iconst (pc' := 23) (v := 0) dX3_keeps_22 rfl rfl ?_
      refine g_iret dX3_keeps_23 rfl rfl (Nat.le_of_ble_eq_true rfl) (Nat.le_of_ble_eq_true rfl) ?_
      exact gq hQ (by simp only [bI,  Int32.lt_iff_toInt_lt, Int32.le_iff_toInt_le] at *; simp_all <;> (intros; omega))
    · refine g_iload_n (pc' := 11) dX3_keeps_10 rfl rfl ?_
      refine g_aload_n (pc' := 12) dX3_keeps_11 rfl rfl ?_
      refine ggX3_13 (pc' := 15) rfl dX3_keeps_12 rfl l3 ?_
      refine g_icmp_ge dX3_keeps_15 (tg := 22) (pc' := 18) (by decide) rfl (fun h15 => ?_) (fun h15 => ?_)
      · refine g_iconst (pc' := 23) (v := 0) dX3_keeps_22 rfl rfl ?_
        refine g_iret dX3_keeps_23 rfl rfl (Nat.le_of_ble_eq_true rfl) (Nat.le_of_ble_eq_true rfl) ?_
        exact gq hQ (by simp only [bI,  Int32.lt_iff_toInt_lt, Int32.le_iff_toInt_le] at *; simp_all <;> (intros; omega))
      · refine g_iconst (pc' := 19) (v := 1) dX3_keeps_18 rfl rfl ?_
        refine g_goto dX3_keeps_19 (pc' := 23) (by decide) ?_
        refine g_iret dX3_keeps_23 rfl rfl (Nat.le_of_ble_eq_true rfl) (Nat.le_of_ble_eq_true rfl) ?_
        exact gq hQ (by simp only [bI,  Int32.lt_iff_toInt_lt, Int32.le_iff_toInt_le] at *; simp_all <;> (intros; omega))

set_option maxRecDepth 100000 in
theorem kX3_read {E : gE} {S : gS} {n b p : Nat} {Q : Option gV → gS → Prop} (l3 : lv S 3 0 0) (l13 : lv S 13 0 0) (r96 : fR S 96 0 0 = some (13, 0, 0)) (hn : n < 2 ^ 30) (h97 : fI S 97 0 0 = nI n) (hb : b < n) (hp : p < 4) (hQ : Q (some (vI (aI S 13 0 ((n - 1 - b) % 64 * 4 + p)))) S) : gRun E mX3_read 1 0 0 [vR 3 0 0, vI (nI b), vI (nI p)] S [] Q := by
  refine gRun_of (ls := [some (vR 3 0 0), some (vI (nI b)), some (vI (nI p))]) rfl (Nat.le_of_ble_eq_true rfl) rfl (fun ad => ?_)
  refine g_aload_n (pc' := 1) dX3_read_0 rfl rfl ?_
  refine ggX3_9 (pc' := 4) rfl dX3_read_1 rfl l3 r96 ?_
  refine g_aload_n (pc' := 5) dX3_read_4 rfl rfl ?_
  refine ggX3_13 (pc' := 8) rfl dX3_read_5 rfl l3 ?_
  refine g_iconst (pc' := 9) (v := 1) dX3_read_8 rfl rfl ?_
  refine g_isub (pc' := 10) dX3_read_9 rfl ?_
  refine g_iload_n (pc' := 11) dX3_read_10 rfl rfl ?_
  refine g_isub (pc' := 12) dX3_read_11 rfl ?_
  refine g_bipush (pc' := 14) (v := 64) dX3_read_12 rfl rfl ?_
  refine g_irem (pc' := 15) dX3_read_14 rfl (by decide) ?_
  refine g_iconst (pc' := 16) (v := 4) dX3_read_15 rfl rfl ?_
  refine g_imul (pc' := 17) dX3_read_16 rfl ?_
  refine g_iload_n (pc' := 18) dX3_read_17 rfl rfl ?_
  refine g_iadd (pc' := 19) dX3_read_18 rfl ?_
  refine g_iald (pc' := 20) (n := (n - 1 - b) % 64 * 4 + p) dX3_read_19 rfl (by decide) rfl (by rw [h97, show (1 : Int32) = nI 1 from rfl, pk_sub (by omega), pk_sub (by omega), log_ix (by omega)]) (show (n - 1 - b) % 64 * 4 + p < 256 by omega) l13 ?_
  refine g_iret dX3_read_20 rfl rfl (Nat.le_of_ble_eq_true rfl) (Nat.le_of_ble_eq_true rfl) ?_
  exact hQ

set_option maxRecDepth 100000 in
theorem kX6_clear {E : gE} {S : gS} {Q : Option gV → gS → Prop} (l6 : lv S 6 0 0) (hQ : Q none (sfI S 193 0 0 0)) : gRun E mX6_clear 1 0 0 [vR 6 0 0] S [] Q := by
  refine gRun_of (ls := [some (vR 6 0 0)]) rfl (Nat.le_of_ble_eq_true rfl) rfl (fun ad => ?_)
  refine g_aload_n (pc' := 1) dX6_clear_0 rfl rfl ?_
  refine g_iconst (pc' := 2) (v := 0) dX6_clear_1 rfl rfl ?_
  refine gpX6_13 (pc' := 5) rfl dX6_clear_2 rfl l6 ?_
  refine g_vret dX6_clear_5 rfl (Nat.le_of_ble_eq_true rfl) (Nat.le_of_ble_eq_true rfl) ?_
  exact hQ

def tSign (S : gS) (len p : Nat) : Int32 := if p < len then aI S 10 0 p else 0
set_option maxRecDepth 100000 in
theorem kX6_signAt {E : gE} {S : gS} {n p : Nat} {Q : Option gV → gS → Prop} (l6 : lv S 6 0 0) (l10 : lv S 10 0 0) (r192 : fR S 192 0 0 = some (10, 0, 0)) (hn : n ≤ 60) (hp : p < 2 ^ 30) (h193 : fI S 193 0 0 = nI n) (hc : ∀ i, i < n → ∃ c : Nat, c < 65536 ∧ aI S 10 0 i = nI c) (hQ : Q (some (vI (tSign S n p))) S) : gRun E mX6_signAt 1 0 0 [vR 6 0 0, vI (nI p)] S [] Q := by
  refine gRun_of (ls := [some (vR 6 0 0), some (vI (nI p))]) rfl (Nat.le_of_ble_eq_true rfl) rfl (fun ad => ?_)
  refine g_iload_n (pc' := 1) dX6_signAt_0 rfl rfl ?_
  refine g_if_lt dX6_signAt_1 (tg := 21) (pc' := 4) (by decide) rfl (fun h1 => absurd h1 (nI_pos (by omega))) (fun h1 => ?_)
  refine g_iload_n (pc' := 5) dX6_signAt_4 rfl rfl ?_
  refine g_aload_n (pc' := 6) dX6_signAt_5 rfl rfl ?_
  refine ggX6_13 (pc' := 9) rfl dX6_signAt_6 rfl l6 ?_
  refine g_icmp_ge dX6_signAt_9 (tg := 21) (pc' := 12) (by decide) rfl (fun h9 => ?_) (fun h9 => ?_)
  · refine g_iconst (pc' := 22) (v := 0) dX6_signAt_21 rfl rfl ?_
    refine g_iret dX6_signAt_22 rfl (by first | rfl | (rw [hc2]; exact (pk_charN hc1).1)) (Nat.le_of_ble_eq_true rfl) (Nat.le_of_ble_eq_true rfl) ?_
    first
      | exact gq hQ (if_pos hpn)
      | exact gq hQ (by rw [h193, nI_leI (by omega) (by omega)] at h9; exact if_neg (Nat.not_lt.mpr h9))
  · rw [h193] at h9
    have hpn : p < n := by
      rcases Nat.lt_or_ge p n with q | q
      · exact q
      · exact absurd (nI_le q (by omega)) h9
    obtain ⟨c, hc1, hc2⟩ := hc p hpn
    refine g_aload_n (pc' := 13) dX6_signAt_12 rfl rfl ?_
    refine ggX6_9 (pc' := 16) rfl dX6_signAt_13 rfl l6 r192 ?_
    refine g_iload_n (pc' := 17) dX6_signAt_16 rfl rfl ?_
    refine g_cald (pc' := 18) (n := p) dX6_signAt_17 rfl (by decide) rfl rfl (show p < 60 by omega) l10 ?_
    refine g_goto dX6_signAt_18 (pc' := 22) (by decide) ?_
    refine g_iret dX6_signAt_22 rfl (by first | rfl | (rw [hc2]; exact (pk_charN hc1).1)) (Nat.le_of_ble_eq_true rfl) (Nat.le_of_ble_eq_true rfl) ?_
    first
      | exact gq hQ (if_pos hpn)
      | exact gq hQ (by rw [h193, nI_leI (by omega) (by omega)] at h9; exact if_neg (Nat.not_lt.mpr h9))

