/-! THE CLASS (6): counting, holding, firing, ending -/
theorem kLog {E : gE} {S : gS} {x : Nat} {k m j t : Int32} {Q : Option gV → gS → Prop} (l3 : lv S 3 0 0) (l13 : lv S 13 0 0) (r96 : fR S 96 0 0 = some (13, 0, 0)) (hx : fI S 97 0 0 = nI x) (hb : x + 1 < 2 ^ 30) (hQ : Q none (tLogS S k m j t)) : gRun E mX3_add 1 0 0 [vR 3 0 0, vI k, vI m, vI j, vI t] S [] Q :=
  kX3_add l3 l13 r96 (by omega) hx (by rw [tLogS, tl_of hx (by omega)] at hQ; exact hQ)
def tRun (S : gS) : Nat → Nat
  | 0 => 0
  | n + 1 => tRun S n + tCR S n (jc S n)
theorem tRun_le {S : gS} (h : ∀ j, j < jn S → jc S j ≤ 6) : ∀ n, n ≤ jn S → tRun S n ≤ 6 * n
  | 0, _ => Nat.le_refl _
  | n + 1, hn => by
    have h1 := tRun_le h n (by omega)
    have h2 := tCR_le S n (jc S n)
    have h3 := h n (by omega)
    show tRun S n + tCR S n (jc S n) ≤ 6 * (n + 1)
    omega
theorem DeskOk.jc6 {S : gS} (hD : DeskOk S) {j : Nat} (hj : j < jn S) : jc S j ≤ 6 := (hD.2.2.2 j hj).1.2.2.2.2.1
noncomputable def eHolds (S : gS) (j m : Nat) : Bool := eTime S j (m % 1440) && eDay S j (m / 1440)
noncomputable def tHS (S : gS) (j m : Nat) : gS := if eTime S j (m % 1440) = true then tTurn S (m / 1440) else S
def tClose (S : gS) (j : Nat) : gS := if ∀ t, t < jc S j → tOver S j t = true then tLogS (sfI S 68 j 0 0) 8 (fI S 231 0 0) (nI j) (-1) else S
def tFire (S : gS) (j : Nat) : gS := if fI S 68 j 0 = 0 then tClose (tLogS (tJBegin S j (jc S j)) 1 (fI S 231 0 0) (nI j) (-1)) j else tLogS (sfI S 70 j 0 (fI S 70 j 0 + 1)) 2 (fI S 231 0 0) (nI j) (-1)
def tLeave (j : Nat) : Nat → Nat → Int32 → gS → gS
  | 0, _, _, S => S
  | k + 1, t, lost, S => if fI S 160 j t &&& lost = 0 then tLeave j k (t + 1) lost S else if fI S 163 j t = 6 then tLeave j k (t + 1) (lost ||| (1 <<< (nI t &&& 31))) S else tLeave j k (t + 1) (lost ||| (1 <<< (nI t &&& 31))) (tLogS (sfI S 163 j t 6) 7 (fI S 231 0 0) (nI j) (nI t))
def tEnd0 (S : gS) (j t : Nat) (well : Int32) : gS := if well = 0 then (if tAgain S j t = true then tLogS (tTry S j t (fI S 231 0 0)) 5 (fI S 231 0 0) (nI j) (nI t) else tLeave j (jc S j - (t + 1)) (t + 1) (1 <<< (nI t &&& 31)) (tLogS (sfI (tTry S j t (fI S 231 0 0)) 163 j t 5) 6 (fI S 231 0 0) (nI j) (nI t))) else tLogS (sfI S 163 j t 4) 4 (fI S 231 0 0) (nI j) (nI t)
def tEnd (S : gS) (j t : Nat) (well : Int32) : gS := tClose (tEnd0 S j t well) j
theorem tAllB_go (S : gS) (j : Nat) : ∀ n, tGo d0 0 S (tAllB S j n)
  | 0 => tGo.rf
  | n + 1 => (tAllB_go S j n).tr ((tGo_sfI rfl (by decide)).tr (tGo_sfI rfl (by decide)))
theorem tJBegin_go {S : gS} {j c : Nat} : tGo d0 0 S (tJBegin S j c) := ((tGo_sfI rfl (by decide)).tr (tGo_sfI rfl (by decide))).tr (tAllB_go _ j c)
theorem tClose_go {S : gS} {j : Nat} : tGo d0 1 S (tClose S j) := by
  unfold tClose
  split
  · exact (tGo_sfI rfl (by decide)).tr tLogS_go
  · exact tGo.rf
theorem tFire_go {S : gS} {j : Nat} : tGo d0 2 S (tFire S j) := by
  unfold tFire
  split
  · exact (tJBegin_go.tr tLogS_go).tr tClose_go
  · exact ((tGo_sfI rfl (by decide)).tr tLogS_go).le (by decide)
theorem tTry_go {S : gS} {j t : Nat} {m : Int32} : tGo d0 0 S (tTry S j t m) := by
  unfold tTry
  split
  · exact ((tGo_sfI rfl (by decide)).tr (tGo_sfI rfl (by decide))).tr (tGo_sfI rfl (by decide))
  · exact tGo_sfI rfl (by decide)
theorem tLeave_go {j : Nat} : ∀ (k t : Nat) (lost : Int32) (S : gS), tGo d0 k S (tLeave j k t lost S)
  | 0, _, _, _ => tGo.rf
  | k + 1, t, lost, S => by
    unfold tLeave
    split
    · exact (tLeave_go k _ _ _).le (by omega)
    · split
      · exact (tLeave_go k _ _ _).le (by omega)
      · have := (((tGo_sfI (d := d0) (S := S) (g := 163) (j := j) (t := t) (v := 6) rfl (by decide)).tr tLogS_go).tr (tLeave_go (j := j) k (t + 1) (lost ||| (1 <<< (nI t &&& 31))) (tLogS (sfI S 163 j t 6) 7 (fI S 231 0 0) (nI j) (nI t))))
        exact this.le (by omega)
theorem tEnd0_go {S : gS} {j t : Nat} {w : Int32} (hc : jc S j ≤ 6) : tGo d0 7 S (tEnd0 S j t w) := by
  unfold tEnd0
  split
  · split
    · exact (tTry_go.tr tLogS_go).le (by decide)
    · exact (((tTry_go.tr (tGo_sfI rfl (by decide))).tr tLogS_go).tr (tLeave_go _ _ _ _)).le (by omega)
  · exact ((tGo_sfI rfl (by decide)).tr tLogS_go).le (by decide)
theorem tEnd_go {S : gS} {j t : Nat} {w : Int32} (hc : jc S j ≤ 6) : tGo d0 8 S (tEnd S j t w) := (tEnd0_go hc).tr tClose_go
theorem tTurn_go {S : gS} {w : Nat} : tGo d1 0 S (tTurn S w) := (((tGo_sfI rfl (by decide)).tr (tGo_sfI rfl (by decide))).tr (tGo_sfI rfl (by decide))).tr (tGo_sfI rfl (by decide))
theorem tHS_go {S : gS} {j m : Nat} : tGo d1 0 S (tHS S j m) := by
  unfold tHS; split
  · exact tTurn_go
  · exact tGo.rf
theorem DayOk.keep {S S' : gS} {w b : Nat} (h : DayOk S w) (k : tGo d0 b S S') : DayOk S' w := ⟨h.1, (k.1.2.2.2.2.1 0 0 0 rfl).trans h.2.1, (k.1.2.2.2.2.1 1 0 0 rfl).trans h.2.2.1, (k.1.2.2.2.2.1 2 0 0 rfl).trans h.2.2.2.1, (k.1.2.2.2.2.1 3 0 0 rfl).trans h.2.2.2.2⟩
theorem DeskOk.go {S S' : gS} {b : Nat} (h : DeskOk S) (k : tGo d0 b S S') : DeskOk S' := h.keep (k.1.up (fun _ z => d12 (d01 z)))
theorem DeskOk.go1 {S S' : gS} {b : Nat} (h : DeskOk S) (k : tGo d1 b S S') : DeskOk S' := h.keep (k.1.up (fun _ z => d12 z))
set_option maxRecDepth 100000 in
set_option maxHeartbeats 2000000 in
theorem kX7_isAnyRunUnderWay {E : gE} {S : gS} {Q : Option gV → gS → Prop} (hD : DeskOk S) (hQ : Q (some (vI (bI (decide (¬ ∀ j, j < jn S → fI S 68 j 0 = 0))))) S) : gRun E mX7_isAnyRunUnderWay 1 0 0 [vR 7 0 0] S [] Q := by
  refine gRun_of (ls := [some (vR 7 0 0), none]) rfl (Nat.le_of_ble_eq_true rfl) rfl (fun ad => ?_)
  obtain ⟨l7, l4, l6, l0, l3, l10, l11, l13, l14, r224, r225, r226, r227, r128, r129, r192, r96⟩ := id hD.1
  have hn := hD.2.1
  have hn6 := hD.2.2.1
  have L : ∀ k i : Nat, i + k = jn S → (∀ t, t < i → fI S 68 t 0 = 0) → gG E mX7_isAnyRunUnderWay (gBof 1 0 0 ad [] Q) 2 [some (vR 7 0 0), some (vI (nI i))] [] S 0 0 := by
    intro k
    induction k with
    | zero =>
      intro i hk hv
      refine g_iload_n (pc' := 3) dX7_isAnyRunUnderWay_2 rfl rfl ?_
      refine g_aload_n (pc' := 4) dX7_isAnyRunUnderWay_3 rfl rfl ?_
      refine ggX7_36 (pc' := 7) rfl dX7_isAnyRunUnderWay_4 rfl l7 ?_
      refine g_icmp_ge dX7_isAnyRunUnderWay_7 (tg := 30) (pc' := 10) (by decide) rfl (fun h7 => ?_) (fun h7 => absurd (by rw [hn, nI_leI (by omega) (by omega)]; omega) h7)
      refine g_iconst (pc' := 31) (v := 0) dX7_isAnyRunUnderWay_30 rfl rfl ?_
      refine g_iret dX7_isAnyRunUnderWay_31 rfl rfl (Nat.le_of_ble_eq_true rfl) (Nat.le_of_ble_eq_true rfl) ?_
      exact gq hQ (bd_f (fun z => z (fun j hj => hv j (by omega))))
    | succ k ih =>
      intro i hk hv
      refine g_iload_n (pc' := 3) dX7_isAnyRunUnderWay_2 rfl rfl ?_
      refine g_aload_n (pc' := 4) dX7_isAnyRunUnderWay_3 rfl rfl ?_
      refine ggX7_36 (pc' := 7) rfl dX7_isAnyRunUnderWay_4 rfl l7 ?_
      refine g_icmp_ge dX7_isAnyRunUnderWay_7 (tg := 30) (pc' := 10) (by decide) rfl (fun h7 => absurd h7 (by rw [hn, nI_leI (by omega) (by omega)]; omega)) (fun h7 => ?_)
      refine g_aload_n (pc' := 11) dX7_isAnyRunUnderWay_10 rfl rfl ?_
      refine ggX7_32 (pc' := 14) rfl dX7_isAnyRunUnderWay_11 rfl l7 r227 ?_
      refine g_iload_n (pc' := 15) dX7_isAnyRunUnderWay_14 rfl rfl ?_
      have hj : i < jn S := by omega
      obtain ⟨hJ, ra, l1, l12, r65, r32⟩ := hD.2.2.2 i hj
      have l2 := hJ.1
      refine g_aaldJ (pc' := 16) (n := i) dX7_isAnyRunUnderWay_15 rfl (by decide) rfl rfl (show i < 6 by omega) l14 ra ?_
      refine ggX7_96 (pc' := 19) rfl dX7_isAnyRunUnderWay_16 rfl l2 ?_
      refine g_if_eq dX7_isAnyRunUnderWay_19 (tg := 24) (pc' := 22) (by decide) rfl (fun h19 => ?_) (fun h19 => ?_)
      · refine giinc1 (pc' := 27) (c := 1) dX7_isAnyRunUnderWay_24 rfl rfl (Nat.le_of_ble_eq_true rfl) rfl ?_
        refine g_goto dX7_isAnyRunUnderWay_27 (pc' := 2) (by decide) ?_
        rw [nI_1]
        exact ih (i + 1) (by omega) (fun t ht => by
          rcases Nat.lt_or_ge t i with q | q
          · exact hv t q
          · rw [show t = i by omega]; exact h19)
      · refine g_iconst (pc' := 23) (v := 1) dX7_isAnyRunUnderWay_22 rfl rfl ?_
        refine g_iret dX7_isAnyRunUnderWay_23 rfl rfl (Nat.le_of_ble_eq_true rfl) (Nat.le_of_ble_eq_true rfl) ?_
        exact gq hQ (bd_t (fun z => h19 (z i hj)))
  refine g_iconst (pc' := 1) (v := 0) dX7_isAnyRunUnderWay_0 rfl rfl ?_
  refine gistore_n1 (pc' := 2) dX7_isAnyRunUnderWay_1 rfl (Nat.le_of_ble_eq_true rfl) rfl ?_
  exact L (jn S) 0 (by omega) (fun t h => absurd h (Nat.not_lt_zero t))

set_option maxRecDepth 100000 in
set_option maxHeartbeats 2000000 in
theorem kX7_countRunning {E : gE} {S : gS} {Q : Option gV → gS → Prop} (hD : DeskOk S) (hQ : Q (some (vI (nI (tRun S (jn S))))) S) : gRun E mX7_countRunning 2 0 0 [vR 7 0 0] S [] Q := by
  refine gRun_of (ls := [some (vR 7 0 0), none, none]) rfl (Nat.le_of_ble_eq_true rfl) rfl (fun ad => ?_)
  obtain ⟨l7, l4, l6, l0, l3, l10, l11, l13, l14, r224, r225, r226, r227, r128, r129, r192, r96⟩ := id hD.1
  have hn := hD.2.1
  have hn6 := hD.2.2.1
  have L : ∀ k i : Nat, i + k = jn S → gG E mX7_countRunning (gBof 2 0 0 ad [] Q) 4 [some (vR 7 0 0), some (vI (nI (tRun S i))), some (vI (nI i))] [] S 0 0 := by
    intro k
    induction k with
    | zero =>
      intro i hk
      refine g_iload_n (pc' := 5) dX7_countRunning_4 rfl rfl ?_
      refine g_aload_n (pc' := 6) dX7_countRunning_5 rfl rfl ?_
      refine ggX7_36 (pc' := 9) rfl dX7_countRunning_6 rfl l7 ?_
      refine g_icmp_ge dX7_countRunning_9 (tg := 30) (pc' := 12) (by decide) rfl (fun h9 => ?_) (fun h9 => absurd (by rw [hn, nI_leI (by omega) (by omega)]; omega) h9)
      refine g_iload_n (pc' := 31) dX7_countRunning_30 rfl rfl ?_
      refine g_iret dX7_countRunning_31 rfl rfl (Nat.le_of_ble_eq_true rfl) (Nat.le_of_ble_eq_true rfl) ?_
      have e : i = jn S := by omega
      subst e
      exact hQ
    | succ k ih =>
      intro i hk
      refine g_iload_n (pc' := 5) dX7_countRunning_4 rfl rfl ?_
      refine g_aload_n (pc' := 6) dX7_countRunning_5 rfl rfl ?_
      refine ggX7_36 (pc' := 9) rfl dX7_countRunning_6 rfl l7 ?_
      refine g_icmp_ge dX7_countRunning_9 (tg := 30) (pc' := 12) (by decide) rfl (fun h9 => absurd h9 (by rw [hn, nI_leI (by omega) (by omega)]; omega)) (fun h9 => ?_)
      refine g_iload_n (pc' := 13) dX7_countRunning_12 rfl rfl ?_
      refine g_aload_n (pc' := 14) dX7_countRunning_13 rfl rfl ?_
      refine ggX7_32 (pc' := 17) rfl dX7_countRunning_14 rfl l7 r227 ?_
      refine g_iload_n (pc' := 18) dX7_countRunning_17 rfl rfl ?_
      have hj : i < jn S := by omega
      obtain ⟨hJ, ra, l1, l12, r65, r32⟩ := hD.2.2.2 i hj
      have l2 := hJ.1
      refine g_aaldJ (pc' := 19) (n := i) dX7_countRunning_18 rfl (by decide) rfl rfl (show i < 6 by omega) l14 ra ?_
      refine gcv0 (pc' := 22) cwX7_189 cf2 dX7_countRunning_19 rfl l2 (Nat.le_of_ble_eq_true rfl) (Nat.le_of_ble_eq_true rfl) (Nat.le_of_ble_eq_true rfl) (Nat.le_of_ble_eq_true rfl) (Nat.le_of_ble_eq_true rfl) (kX2_countRunning hJ ?_)
      refine g_iadd (pc' := 23) dX7_countRunning_22 rfl ?_
      refine gistore_n1 (pc' := 24) dX7_countRunning_23 rfl (Nat.le_of_ble_eq_true rfl) rfl ?_
      refine giinc2 (pc' := 27) (c := 1) dX7_countRunning_24 rfl rfl (Nat.le_of_ble_eq_true rfl) rfl ?_
      refine g_goto dX7_countRunning_27 (pc' := 4) (by decide) ?_
      rw [nI_1, nI_add]
      exact ih (i + 1) (by omega)
  refine g_iconst (pc' := 1) (v := 0) dX7_countRunning_0 rfl rfl ?_
  refine gistore_n1 (pc' := 2) dX7_countRunning_1 rfl (Nat.le_of_ble_eq_true rfl) rfl ?_
  refine g_iconst (pc' := 3) (v := 0) dX7_countRunning_2 rfl rfl ?_
  refine gistore_n2 (pc' := 4) dX7_countRunning_3 rfl (Nat.le_of_ble_eq_true rfl) rfl ?_
  exact L (jn S) 0 (by omega)

set_option maxRecDepth 100000 in
set_option maxHeartbeats 2000000 in
theorem kX7_holdsAt {E : gE} {S : gS} {j m w : Nat} {Q : Option gV → gS → Prop} (l7 : lv S 7 0 0) (r225 : fR S 225 0 0 = some (0, 0, 0)) (l0 : lv S 0 0 0) (l1 : lv S 1 j 0) (l12 : lv S 12 j 0) (r32 : fR S 32 j 0 = some (12, j, 0)) (hd : DayOk S w) (hm : m < 20000000) (hQ : Q (some (vI (bI (eHolds S j m)))) (tHS S j m)) : gRun E mX7_holdsAt 5 0 0 [vR 7 0 0, vR 1 j 0, vI (nI m)] S [] Q := by
  refine gRun_of (ls := [some (vR 7 0 0), some (vR 1 j 0), some (vI (nI m))]) rfl (Nat.le_of_ble_eq_true rfl) rfl (fun ad => ?_)
  refine g_aload_n (pc' := 1) dX7_holdsAt_0 rfl rfl ?_
  refine g_iload_n (pc' := 2) dX7_holdsAt_1 rfl rfl ?_
  refine g_sipush (pc' := 5) (v := 1440) dX7_holdsAt_2 rfl rfl ?_
  refine g_irem (pc' := 6) dX7_holdsAt_5 rfl (by decide) ?_
  rw [show (1440 : Int32) = nI 1440 from rfl, nI_rem (by omega) (by decide) (by decide)]
  refine gcv1 (pc' := 9) cwX7_190 cf1 dX7_holdsAt_6 rfl l1 (Nat.le_of_ble_eq_true rfl) (Nat.le_of_ble_eq_true rfl) (Nat.le_of_ble_eq_true rfl) (Nat.le_of_ble_eq_true rfl) (Nat.le_of_ble_eq_true rfl) (kX1_hasTime (t := m % 1440) l1 l12 r32 (by omega) ?_)
  refine g_if_ne dX7_holdsAt_9 (tg := 14) (pc' := 12) (by decide) rfl (fun h9 => ?_) (fun h9 => ?_)
  · refine g_aload_n (pc' := 15) dX7_holdsAt_14 rfl rfl ?_
    refine ggX7_19 (pc' := 18) rfl dX7_holdsAt_15 rfl l7 r225 ?_
    refine g_iload_n (pc' := 19) dX7_holdsAt_18 rfl rfl ?_
    refine g_sipush (pc' := 22) (v := 1440) dX7_holdsAt_19 rfl rfl ?_
    refine g_idiv (pc' := 23) dX7_holdsAt_22 rfl (by decide) ?_
    rw [show (1440 : Int32) = nI 1440 from rfl, pk_div (by omega) (by decide) (by decide)]
    refine gcv1 (pc' := 26) cwX7_126 cf0 dX7_holdsAt_23 rfl l0 (Nat.le_of_ble_eq_true rfl) (Nat.le_of_ble_eq_true rfl) (Nat.le_of_ble_eq_true rfl) (Nat.le_of_ble_eq_true rfl) (Nat.le_of_ble_eq_true rfl) (kX0_turnTo (w := w) l0 hd (by omega) ?_)
    refine g_aload_n (pc' := 27) dX7_holdsAt_26 rfl rfl ?_
    refine g_aload_n (pc' := 28) dX7_holdsAt_27 rfl rfl ?_
    have l7 : lv (tTurn S (m / 1440)) 7 0 0 := l7
    refine ggX7_19 (pc' := 31) rfl dX7_holdsAt_28 rfl l7 r225 ?_
    refine gcv1 (pc' := 34) cwX7_195 cf1 dX7_holdsAt_31 rfl l1 (Nat.le_of_ble_eq_true rfl) (Nat.le_of_ble_eq_true rfl) (Nat.le_of_ble_eq_true rfl) (Nat.le_of_ble_eq_true rfl) (Nat.le_of_ble_eq_true rfl) (kX1_hasDay (w := m / 1440) l1 l12 r32 l0 (tTurn_ok (by omega)) ?_)
    refine g_iret dX7_holdsAt_34 rfl (bI_nar _) (Nat.le_of_ble_eq_true rfl) (Nat.le_of_ble_eq_true rfl) ?_
    rw [bI_f] at h9
    have h9 : eTime S j (m % 1440) = true := by simpa using h9
    exact gq2 hQ (by rw [eHolds, h9]; rfl) (by rw [tHS, if_pos h9])
  · refine g_iconst (pc' := 13) (v := 0) dX7_holdsAt_12 rfl rfl ?_
    refine g_iret dX7_holdsAt_13 rfl rfl (Nat.le_of_ble_eq_true rfl) (Nat.le_of_ble_eq_true rfl) ?_
    rw [bI_f] at h9
    exact gq2 hQ (by rw [eHolds, h9]; rfl) (by rw [tHS, if_neg (by rw [h9]; decide)])

set_option maxRecDepth 100000 in
set_option maxHeartbeats 2000000 in
theorem kX7_closeRunIfOver {E : gE} {S : gS} {j x : Nat} {Q : Option gV → gS → Prop} (hD : DeskOk S) (hj : j < jn S) (hx : fI S 97 0 0 = nI x) (hb : x + 1 < 2 ^ 30) (hQ : Q none (tClose S j)) : gRun E mX7_closeRunIfOver 3 0 0 [vR 7 0 0, vI (nI j)] S [] Q := by
  refine gRun_of (ls := [some (vR 7 0 0), some (vI (nI j))]) rfl (Nat.le_of_ble_eq_true rfl) rfl (fun ad => ?_)
  obtain ⟨l7, l4, l6, l0, l3, l10, l11, l13, l14, r224, r225, r226, r227, r128, r129, r192, r96⟩ := id hD.1
  have hn := hD.2.1
  have hn6 := hD.2.2.1
  obtain ⟨hJ, ra, l1, l12, r65, r32⟩ := hD.2.2.2 j hj
  have l2 := hJ.1
  refine g_aload_n (pc' := 1) dX7_closeRunIfOver_0 rfl rfl ?_
  refine ggX7_32 (pc' := 4) rfl dX7_closeRunIfOver_1 rfl l7 r227 ?_
  refine g_iload_n (pc' := 5) dX7_closeRunIfOver_4 rfl rfl ?_
  refine g_aaldJ (pc' := 6) (n := j) dX7_closeRunIfOver_5 rfl (by decide) rfl rfl (show j < 6 by omega) l14 ra ?_
  refine gcv0 (pc' := 9) cwX7_219 cf2 dX7_closeRunIfOver_6 rfl l2 (Nat.le_of_ble_eq_true rfl) (Nat.le_of_ble_eq_true rfl) (Nat.le_of_ble_eq_true rfl) (Nat.le_of_ble_eq_true rfl) (Nat.le_of_ble_eq_true rfl) (kX2_isAllOver hJ ?_)
  refine g_if_eq dX7_closeRunIfOver_9 (tg := 37) (pc' := 12) (by decide) rfl (fun h9 => ?_) (fun h9 => ?_)
  · refine g_vret dX7_closeRunIfOver_37 rfl (Nat.le_of_ble_eq_true rfl) (Nat.le_of_ble_eq_true rfl) ?_
    rw [bI_f] at h9
    first
      | (rw [decide_eq_false_iff_not] at h9
         exact gqv hQ (if_neg h9))
      | (rw [decide_eq_false_iff_not, Decidable.not_not] at h9
         exact gqv hQ (if_pos h9))
  · refine g_aload_n (pc' := 13) dX7_closeRunIfOver_12 rfl rfl ?_
    refine ggX7_32 (pc' := 16) rfl dX7_closeRunIfOver_13 rfl l7 r227 ?_
    refine g_iload_n (pc' := 17) dX7_closeRunIfOver_16 rfl rfl ?_
    refine g_aaldJ (pc' := 18) (n := j) dX7_closeRunIfOver_17 rfl (by decide) rfl rfl (show j < 6 by omega) l14 ra ?_
    refine g_iconst (pc' := 19) (v := 0) dX7_closeRunIfOver_18 rfl rfl ?_
    refine gpX7_96 (pc' := 22) rfl dX7_closeRunIfOver_19 rfl l2 (Or.inl rfl) ?_
    refine g_aload_n (pc' := 23) dX7_closeRunIfOver_22 rfl rfl ?_
    refine ggX7_26 (pc' := 26) rfl dX7_closeRunIfOver_23 rfl l7 r226 ?_
    refine g_bipush (pc' := 28) (v := 8) dX7_closeRunIfOver_26 rfl rfl ?_
    refine g_aload_n (pc' := 29) dX7_closeRunIfOver_28 rfl rfl ?_
    refine ggX7_46 (pc' := 32) rfl dX7_closeRunIfOver_29 rfl l7 ?_
    refine g_iload_n (pc' := 33) dX7_closeRunIfOver_32 rfl rfl ?_
    refine g_iconst (pc' := 34) (v := (-1)) dX7_closeRunIfOver_33 rfl rfl ?_
    refine gcv4 (pc' := 37) cwX7_209 cf3 dX7_closeRunIfOver_34 rfl l3 (Nat.le_of_ble_eq_true rfl) (Nat.le_of_ble_eq_true rfl) (Nat.le_of_ble_eq_true rfl) (Nat.le_of_ble_eq_true rfl) (Nat.le_of_ble_eq_true rfl) (kLog (x := x) l3 l13 r96 hx hb ?_)
    refine g_vret dX7_closeRunIfOver_37 rfl (Nat.le_of_ble_eq_true rfl) (Nat.le_of_ble_eq_true rfl) ?_
    rw [bI_f] at h9
    first
      | (rw [decide_eq_false_iff_not] at h9
         exact gqv hQ (if_neg h9))
      | (rw [decide_eq_false_iff_not, Decidable.not_not] at h9
         exact gqv hQ (if_pos h9))

set_option maxRecDepth 100000 in
set_option maxHeartbeats 2000000 in
theorem kX7_fire {E : gE} {S : gS} {j x : Nat} {Q : Option gV → gS → Prop} (hD : DeskOk S) (hj : j < jn S) (hx : fI S 97 0 0 = nI x) (hb : x + 2 < 2 ^ 30) (hQ : Q none (tFire S j)) : gRun E mX7_fire 4 0 0 [vR 7 0 0, vI (nI j)] S [] Q := by
  refine gRun_of (ls := [some (vR 7 0 0), some (vI (nI j))]) rfl (Nat.le_of_ble_eq_true rfl) rfl (fun ad => ?_)
  obtain ⟨l7, l4, l6, l0, l3, l10, l11, l13, l14, r224, r225, r226, r227, r128, r129, r192, r96⟩ := id hD.1
  have hn := hD.2.1
  have hn6 := hD.2.2.1
  obtain ⟨hJ, ra, l1, l12, r65, r32⟩ := hD.2.2.2 j hj
  have l2 := hJ.1
  refine g_aload_n (pc' := 1) dX7_fire_0 rfl rfl ?_
  refine ggX7_32 (pc' := 4) rfl dX7_fire_1 rfl l7 r227 ?_
  refine g_iload_n (pc' := 5) dX7_fire_4 rfl rfl ?_
  refine g_aaldJ (pc' := 6) (n := j) dX7_fire_5 rfl (by decide) rfl rfl (show j < 6 by omega) l14 ra ?_
  refine ggX7_96 (pc' := 9) rfl dX7_fire_6 rfl l2 ?_
  refine g_if_eq dX7_fire_9 (tg := 42) (pc' := 12) (by decide) rfl (fun h9 => ?_) (fun h9 => ?_)
  · refine g_aload_n (pc' := 43) dX7_fire_42 rfl rfl ?_
    refine ggX7_32 (pc' := 46) rfl dX7_fire_43 rfl l7 r227 ?_
    refine g_iload_n (pc' := 47) dX7_fire_46 rfl rfl ?_
    refine g_aaldJ (pc' := 48) (n := j) dX7_fire_47 rfl (by decide) rfl rfl (show j < 6 by omega) l14 ra ?_
    refine gcv0 (pc' := 51) cwX7_213 cf2 dX7_fire_48 rfl l2 (Nat.le_of_ble_eq_true rfl) (Nat.le_of_ble_eq_true rfl) (Nat.le_of_ble_eq_true rfl) (Nat.le_of_ble_eq_true rfl) (Nat.le_of_ble_eq_true rfl) (kX2_begin hJ ?_)
    have g1 := tJBegin_go (S := S) (j := j) (c := jc S j)
    have hD1 := hD.go g1
    obtain ⟨y, hx1, hy1, hy2⟩ := g1.2 x hx (by omega)
    have e1 : y = x := by omega
    subst e1
    obtain ⟨l7, l4, l6, l0, l3, l10, l11, l13, l14, r224, r225, r226, r227, r128, r129, r192, r96⟩ := id hD1.1
    refine g_aload_n (pc' := 52) dX7_fire_51 rfl rfl ?_
    refine ggX7_26 (pc' := 55) rfl dX7_fire_52 rfl l7 r226 ?_
    refine g_iconst (pc' := 56) (v := 1) dX7_fire_55 rfl rfl ?_
    refine g_aload_n (pc' := 57) dX7_fire_56 rfl rfl ?_
    refine ggX7_46 (pc' := 60) rfl dX7_fire_57 rfl l7 ?_
    rw [g1.1.2.2.2.2.1 231 0 0 rfl]
    refine g_iload_n (pc' := 61) dX7_fire_60 rfl rfl ?_
    refine g_iconst (pc' := 62) (v := (-1)) dX7_fire_61 rfl rfl ?_
    refine gcv4 (pc' := 65) cwX7_209 cf3 dX7_fire_62 rfl l3 (Nat.le_of_ble_eq_true rfl) (Nat.le_of_ble_eq_true rfl) (Nat.le_of_ble_eq_true rfl) (Nat.le_of_ble_eq_true rfl) (Nat.le_of_ble_eq_true rfl) (kLog (x := _) l3 l13 r96 hx1 (by omega) ?_)
    have hj2 : j < jn (tLogS (tJBegin S j (jc S j)) 1 (fI S 231 0 0) (nI j) (-1)) := by rw [tKeep_jn ((g1.tr tLogS_go).1.up (fun _ z => d12 (d01 z)))]; exact hj
    obtain ⟨y2, hx2, hy3, hy4⟩ := (tLogS_go (S := tJBegin S j (jc S j)) (k := 1) (m := fI S 231 0 0) (j := nI j) (t := -1)).2 y hx1 (by omega)
    have e2 : y2 = y + 1 := by
      have q : nI (tl (tJBegin S j (jc S j)) + 1) = nI y2 := hx2
      rw [tl_of hx1 (by omega), nI_eq (by omega) (by omega)] at q
      exact q.symm
    subst e2
    have l7 : lv (tLogS (tJBegin S j (jc S j)) 1 (fI S 231 0 0) (nI j) (-1)) 7 0 0 := l7
    refine g_aload_n (pc' := 66) dX7_fire_65 rfl rfl ?_
    refine g_iload_n (pc' := 67) dX7_fire_66 rfl rfl ?_
    refine gcv1 (pc' := 70) cwX7_216 cf7 dX7_fire_67 rfl l7 (Nat.le_of_ble_eq_true rfl) (Nat.le_of_ble_eq_true rfl) (Nat.le_of_ble_eq_true rfl) (Nat.le_of_ble_eq_true rfl) (Nat.le_of_ble_eq_true rfl) (kX7_closeRunIfOver (x := _) (hD1.go tLogS_go) hj2 hx2 (by omega) ?_)
    refine g_vret dX7_fire_70 rfl (Nat.le_of_ble_eq_true rfl) (Nat.le_of_ble_eq_true rfl) ?_
    exact gqv hQ (if_pos h9)
  · refine g_aload_n (pc' := 13) dX7_fire_12 rfl rfl ?_
    refine ggX7_32 (pc' := 16) rfl dX7_fire_13 rfl l7 r227 ?_
    refine g_iload_n (pc' := 17) dX7_fire_16 rfl rfl ?_
    refine g_aaldJ (pc' := 18) (n := j) dX7_fire_17 rfl (by decide) rfl rfl (show j < 6 by omega) l14 ra ?_
    refine g_dup (pc' := 19) dX7_fire_18 rfl rfl ?_
    refine ggX7_177 (pc' := 22) rfl dX7_fire_19 rfl l2 ?_
    refine g_iconst (pc' := 23) (v := 1) dX7_fire_22 rfl rfl ?_
    refine g_iadd (pc' := 24) dX7_fire_23 rfl ?_
    refine gpX7_177 (pc' := 27) rfl dX7_fire_24 rfl l2 ?_
    refine g_aload_n (pc' := 28) dX7_fire_27 rfl rfl ?_
    refine ggX7_26 (pc' := 31) rfl dX7_fire_28 rfl l7 r226 ?_
    refine g_iconst (pc' := 32) (v := 2) dX7_fire_31 rfl rfl ?_
    refine g_aload_n (pc' := 33) dX7_fire_32 rfl rfl ?_
    refine ggX7_46 (pc' := 36) rfl dX7_fire_33 rfl l7 ?_
    refine g_iload_n (pc' := 37) dX7_fire_36 rfl rfl ?_
    refine g_iconst (pc' := 38) (v := (-1)) dX7_fire_37 rfl rfl ?_
    refine gcv4 (pc' := 41) cwX7_209 cf3 dX7_fire_38 rfl l3 (Nat.le_of_ble_eq_true rfl) (Nat.le_of_ble_eq_true rfl) (Nat.le_of_ble_eq_true rfl) (Nat.le_of_ble_eq_true rfl) (Nat.le_of_ble_eq_true rfl) (kLog (x := _) l3 l13 r96 hx (by omega) ?_)
    refine g_vret dX7_fire_41 rfl (Nat.le_of_ble_eq_true rfl) (Nat.le_of_ble_eq_true rfl) ?_
    exact gqv hQ (if_neg h9)

