/-! THE CLASS (12): adding numbers, an item -/
theorem eBit_or (a b : Int64) (v : Nat) : eBit (a ||| b) v = (eBit a v || eBit b v) := by
  rw [eBit, eBit, eBit, Int64.toBitVec_or, BitVec.getLsbD_or]
theorem eBit_one {k v : Nat} (hk : k < 64) (hv : v < 64) : eBit ((1 : Int64) <<< ((nI k).toInt64 &&& 63)) v = decide (v = k) := by
  rw [show (1 : Int64) = lN 1 from rfl, wb_shl 1 hk, Nat.one_mul, eBit, wb_tb, BitVec.getLsbD_ofNat, Nat.testBit_two_pow]
  simp only [hv, decide_true, Bool.true_and]
  exact decide_eq_decide.mpr ⟨fun z => z.symm, fun z => z.symm⟩
theorem kp_lt {f n : Nat} (hn : n < 60) : kp f n < 64 := by unfold kp; split <;> omega
/-- a number among those of an item -/
def inIt (f lo hi st v : Nat) : Bool := decide (∃ n, n < hi + 1 ∧ lo ≤ n ∧ (n - lo) % st = 0 ∧ kp f n = v)
theorem tAdd_bit {f lo st v : Nat} (hv : v < 64) (hf : f < 5) : ∀ (k n : Nat) (S : gS) (_ : lo ≤ n) (_ : n + k ≤ 60), eBit (aL (tAdd f lo st k n S) 11 0 f) v = (eBit (aL S 11 0 f) v || decide (∃ m, m < n + k ∧ n ≤ m ∧ (m - lo) % st = 0 ∧ kp f m = v))
  | 0, n, S, _, _ => by
    rw [show decide (∃ m, m < n + 0 ∧ n ≤ m ∧ (m - lo) % st = 0 ∧ kp f m = v) = false from decide_eq_false (fun ⟨m, h1, h2, _⟩ => by omega), Bool.or_false]
    rfl
  | k + 1, n, S, h1, h2 => by
    rw [tAdd, tAdd_bit hv hf k (n + 1) _ (by omega) (by omega)]
    have e : ∀ b : Bool, (∀ h : b = decide ((n - lo) % st = 0 ∧ kp f n = v), (b || decide (∃ m, m < n + 1 + k ∧ n + 1 ≤ m ∧ (m - lo) % st = 0 ∧ kp f m = v)) = decide (∃ m, m < n + (k + 1) ∧ n ≤ m ∧ (m - lo) % st = 0 ∧ kp f m = v)) := by
      rintro b rfl
      rw [← Bool.decide_or]
      refine decide_eq_decide.mpr ⟨?_, ?_⟩
      · rintro (⟨q1, q2⟩ | ⟨m, q1, q2, q3⟩)
        · exact ⟨n, by omega, Nat.le_refl _, q1, q2⟩
        · exact ⟨m, by omega, by omega, q3⟩
      · rintro ⟨m, q1, q2, q3⟩
        rcases Nat.eq_or_lt_of_le q2 with rfl | q
        · exact Or.inl q3
        · exact Or.inr ⟨m, by omega, q, q3⟩
    by_cases c : (n - lo) % st = 0
    · rw [if_pos c, aL_saL, if_pos ⟨rfl, rfl, rfl⟩, eBit_or, eBit_one (kp_lt (by omega)) hv, Bool.or_assoc, e _ (by
        refine decide_eq_decide.mpr ⟨fun z => ⟨c, z.symm⟩, fun z => z.2.symm⟩)]
    · rw [if_neg c, ← e false (decide_eq_false (fun z => c z.1)).symm, Bool.false_or]
theorem tAdd_keep {f lo st : Nat} : ∀ (k n : Nat) (S : gS), fI (tAdd f lo st k n S) = fI S ∧ fR (tAdd f lo st k n S) = fR S ∧ gL (tAdd f lo st k n S) = gL S ∧ aR (tAdd f lo st k n S) = aR S ∧ aI (tAdd f lo st k n S) = aI S ∧ ∀ k' j' i', ¬ (k' = 11 ∧ j' = 0 ∧ i' = f) → aL (tAdd f lo st k n S) k' j' i' = aL S k' j' i'
  | 0, n, S => ⟨rfl, rfl, rfl, rfl, rfl, fun _ _ _ _ => rfl⟩
  | k + 1, n, S => by
    have h := tAdd_keep (f := f) (lo := lo) (st := st) k (n + 1) (if (n - lo) % st = 0 then saL S 11 0 f (aL S 11 0 f ||| (1 : Int64) <<< ((nI (kp f n)).toInt64 &&& 63)) else S)
    rw [tAdd]
    by_cases c : (n - lo) % st = 0
    · rw [if_pos c] at h ⊢
      exact ⟨h.1, h.2.1, h.2.2.1, h.2.2.2.1, h.2.2.2.2.1, fun k' j' i' z => (h.2.2.2.2.2 k' j' i' z).trans (if_neg z)⟩
    · rw [if_neg c] at h ⊢
      exact h
set_option maxRecDepth 100000 in
set_option maxHeartbeats 2000000 in
theorem kX4_addNumbers {E : gE} {S : gS} {f lo hi st : Nat} {Q : Option gV → gS → Prop} (l4 : lv S 4 0 0) (l11 : lv S 11 0 0) (r129 : fR S 129 0 0 = some (11, 0, 0)) (hf : f < 5) (hlo : lo ≤ hi) (hhi : hi < 60) (hst : 0 < st) (hst2 : st < 100) (hQ : Q none (tAdd f lo st (hi + 1 - lo) lo S)) : gRun E mX4_addNumbers 1 0 0 [vR 4 0 0, vI (nI f), vI (nI lo), vI (nI hi), vI (nI st)] S [] Q := by
  refine gRun_of (ls := [some (vR 4 0 0), some (vI (nI f)), some (vI (nI lo)), some (vI (nI hi)), some (vI (nI st)), none, none]) rfl (Nat.le_of_ble_eq_true rfl) rfl (fun ad => ?_)
  have L : ∀ (k n : Nat) (T : gS) (_ : n + k = hi + 1) (l4 : lv T 4 0 0) (l11 : lv T 11 0 0) (r129 : fR T 129 0 0 = some (11, 0, 0)) (hv : tAdd f lo st k n T = tAdd f lo st (hi + 1 - lo) lo S) (hn : lo ≤ n) (w : Option gV), gG E mX4_addNumbers (gBof 1 0 0 ad [] Q) 3 [some (vR 4 0 0), some (vI (nI f)), some (vI (nI lo)), some (vI (nI hi)), some (vI (nI st)), some (vI (nI n)), w] [] T 0 0 := by
    intro k
    induction k with
    | zero =>
      intro n T hk l4 l11 r129 hv hn w
      rw [← hv] at hQ
      change Q none T at hQ
      refine g_iload (pc' := 5) dX4_addNumbers_3 rfl rfl ?_
      refine g_iload_n (pc' := 6) dX4_addNumbers_5 rfl rfl ?_
      refine g_icmp_gt dX4_addNumbers_6 (tg := 55) (pc' := 9) (by decide) rfl (fun h6 => ?_) (fun h6 => absurd (by rw [nI_ltI (by omega) (by omega)]; omega) h6)
      refine g_vret dX4_addNumbers_55 rfl (Nat.le_of_ble_eq_true rfl) (Nat.le_of_ble_eq_true rfl) ?_
      exact hQ
    | succ k ih =>
      intro n T hk l4 l11 r129 hv hn w
      have fin : ∀ U, (if (n - lo) % st = 0 then saL T 11 0 f (aL T 11 0 f ||| (1 : Int64) <<< ((nI (kp f n)).toInt64 &&& 63)) else T) = U → ∀ w, gG E mX4_addNumbers (gBof 1 0 0 ad [] Q) 3 [some (vR 4 0 0), some (vI (nI f)), some (vI (nI lo)), some (vI (nI hi)), some (vI (nI st)), some (vI (nI (n + 1))), w] [] U 0 0 := by
        rintro U rfl w
        refine ih (n + 1) _ (by omega) ?_ ?_ ?_ hv (by omega) w
        all_goals split
        all_goals assumption
      refine g_iload (pc' := 5) dX4_addNumbers_3 rfl rfl ?_
      refine g_iload_n (pc' := 6) dX4_addNumbers_5 rfl rfl ?_
      refine g_icmp_gt dX4_addNumbers_6 (tg := 55) (pc' := 9) (by decide) rfl (fun h6 => absurd h6 (by rw [nI_ltI (by omega) (by omega)]; omega)) (fun h6 => ?_)
      refine g_iload (pc' := 11) dX4_addNumbers_9 rfl rfl ?_
      refine g_iload_n (pc' := 12) dX4_addNumbers_11 rfl rfl ?_
      refine g_isub (pc' := 13) dX4_addNumbers_12 rfl ?_
      refine g_iload (pc' := 15) dX4_addNumbers_13 rfl rfl ?_
      rw [pk_sub (by omega)]
      refine g_irem (pc' := 16) dX4_addNumbers_15 rfl (nI_ne0 (by omega) (by omega)) ?_
      rw [nI_rem (by omega) (by omega) (by omega)]
      refine g_if_ne dX4_addNumbers_16 (tg := 49) (pc' := 19) (by decide) rfl (fun h16 => ?_) (fun h16 => ?_)
      · refine giinc5 (pc' := 52) (c := 1) dX4_addNumbers_49 rfl rfl (Nat.le_of_ble_eq_true rfl) rfl ?_
        refine g_goto dX4_addNumbers_52 (pc' := 3) (by decide) ?_
        rw [nI_1]
        first
          | exact fin _ (if_neg (fun z => h16 ((nz (by have := Nat.mod_lt (n - lo) hst; omega)).mpr z))) _
          | (have hf4 : f = 4 := (nI_eq (b := 4) (by omega) (by decide)).mp (Decidable.not_not.mp h21)
             exact fin _ (by rw [if_pos hc0, kp, if_pos hf4]) _)
          | (have hf4 : f = 4 := (nI_eq (b := 4) (by omega) (by decide)).mp h21
             exact fin _ (by rw [if_pos hc0, kp, if_pos hf4]) _)
          | (have hf4 : ¬ f = 4 := fun z => h21 ((nI_eq (b := 4) (by omega) (by decide)).mpr z)
             exact fin _ (by rw [if_pos hc0, kp, if_neg hf4]) _)
      · have hc0 := (nz (by have := Nat.mod_lt (n - lo) hst; omega)).mp h16
        refine g_iload_n (pc' := 20) dX4_addNumbers_19 rfl rfl ?_
        refine g_iconst (pc' := 21) (v := 4) dX4_addNumbers_20 rfl rfl ?_
        refine g_icmp_ne dX4_addNumbers_21 (tg := 32) (pc' := 24) (by decide) rfl (fun h21 => ?_) (fun h21 => ?_)
        · refine g_iload (pc' := 34) dX4_addNumbers_32 rfl rfl ?_
          refine gistore6 (pc' := 36) dX4_addNumbers_34 rfl (Nat.le_of_ble_eq_true rfl) rfl ?_
          refine g_aload_n (pc' := 37) dX4_addNumbers_36 rfl rfl ?_
          refine ggX4_18 (pc' := 40) rfl dX4_addNumbers_37 rfl l4 r129 ?_
          refine g_iload_n (pc' := 41) dX4_addNumbers_40 rfl rfl ?_
          refine g_dup2 (pc' := 42) dX4_addNumbers_41 rfl rfl rfl ?_
          refine g_lald (pc' := 43) (n := f) dX4_addNumbers_42 rfl (by decide) rfl rfl (show f < 5 from hf) l11 ?_
          refine g_lconst (pc' := 44) (v := 1) dX4_addNumbers_43 rfl rfl ?_
          refine g_iload (pc' := 46) dX4_addNumbers_44 rfl rfl ?_
          refine g_lshl (pc' := 47) dX4_addNumbers_46 rfl ?_
          refine g_lor (pc' := 48) dX4_addNumbers_47 rfl ?_
          refine g_last (pc' := 49) (n := f) dX4_addNumbers_48 rfl (by decide) rfl rfl (show f < 5 from hf) l11 ?_
          refine giinc5 (pc' := 52) (c := 1) dX4_addNumbers_49 rfl rfl (Nat.le_of_ble_eq_true rfl) rfl ?_
          refine g_goto dX4_addNumbers_52 (pc' := 3) (by decide) ?_
          rw [nI_1]
          first
            | exact fin _ (if_neg (fun z => h16 ((nz (by have := Nat.mod_lt (n - lo) hst; omega)).mpr z))) _
            | (have hf4 : f = 4 := (nI_eq (b := 4) (by omega) (by decide)).mp (Decidable.not_not.mp h21)
               exact fin _ (by rw [if_pos hc0, kp, if_pos hf4]) _)
            | (have hf4 : f = 4 := (nI_eq (b := 4) (by omega) (by decide)).mp h21
               exact fin _ (by rw [if_pos hc0, kp, if_pos hf4]) _)
            | (have hf4 : ¬ f = 4 := fun z => h21 ((nI_eq (b := 4) (by omega) (by decide)).mpr z)
               exact fin _ (by rw [if_pos hc0, kp, if_neg hf4]) _)
        · refine g_iload (pc' := 26) dX4_addNumbers_24 rfl rfl ?_
          refine g_bipush (pc' := 28) (v := 7) dX4_addNumbers_26 rfl rfl ?_
          rw [show (7 : Int32) = nI 7 from rfl]
          refine g_irem (pc' := 29) dX4_addNumbers_28 rfl (by decide) ?_
          rw [nI_rem (by omega) (by decide) (by decide)]
          refine g_goto dX4_addNumbers_29 (pc' := 34) (by decide) ?_
          refine gistore6 (pc' := 36) dX4_addNumbers_34 rfl (Nat.le_of_ble_eq_true rfl) rfl ?_
          refine g_aload_n (pc' := 37) dX4_addNumbers_36 rfl rfl ?_
          refine ggX4_18 (pc' := 40) rfl dX4_addNumbers_37 rfl l4 r129 ?_
          refine g_iload_n (pc' := 41) dX4_addNumbers_40 rfl rfl ?_
          refine g_dup2 (pc' := 42) dX4_addNumbers_41 rfl rfl rfl ?_
          refine g_lald (pc' := 43) (n := f) dX4_addNumbers_42 rfl (by decide) rfl rfl (show f < 5 from hf) l11 ?_
          refine g_lconst (pc' := 44) (v := 1) dX4_addNumbers_43 rfl rfl ?_
          refine g_iload (pc' := 46) dX4_addNumbers_44 rfl rfl ?_
          refine g_lshl (pc' := 47) dX4_addNumbers_46 rfl ?_
          refine g_lor (pc' := 48) dX4_addNumbers_47 rfl ?_
          refine g_last (pc' := 49) (n := f) dX4_addNumbers_48 rfl (by decide) rfl rfl (show f < 5 from hf) l11 ?_
          refine giinc5 (pc' := 52) (c := 1) dX4_addNumbers_49 rfl rfl (Nat.le_of_ble_eq_true rfl) rfl ?_
          refine g_goto dX4_addNumbers_52 (pc' := 3) (by decide) ?_
          rw [nI_1]
          first
            | exact fin _ (if_neg (fun z => h16 ((nz (by have := Nat.mod_lt (n - lo) hst; omega)).mpr z))) _
            | (have hf4 : f = 4 := (nI_eq (b := 4) (by omega) (by decide)).mp (Decidable.not_not.mp h21)
               exact fin _ (by rw [if_pos hc0, kp, if_pos hf4]) _)
            | (have hf4 : f = 4 := (nI_eq (b := 4) (by omega) (by decide)).mp h21
               exact fin _ (by rw [if_pos hc0, kp, if_pos hf4]) _)
            | (have hf4 : ¬ f = 4 := fun z => h21 ((nI_eq (b := 4) (by omega) (by decide)).mpr z)
               exact fin _ (by rw [if_pos hc0, kp, if_neg hf4]) _)
  refine g_iload_n (pc' := 1) dX4_addNumbers_0 rfl rfl ?_
  refine gistore5 (pc' := 3) dX4_addNumbers_1 rfl (Nat.le_of_ble_eq_true rfl) rfl ?_
  exact L (hi + 1 - lo) lo S (by omega) l4 l11 r129 rfl (by omega) _

set_option maxRecDepth 100000 in
set_option maxHeartbeats 2000000 in
theorem kX4_readItem {E : gE} {S : gS} {x : Nat → Nat} {p f : Nat} {Q : Option gV → gS → Prop} (hR : RdOk S) (hx : xc S = x) (hf : f < 5) (hp : fI S 132 0 0 = nI p) (hp2 : p ≤ xl S) (hw : fI S 133 0 0 = -1) (hQf : ∀ q e, item x p f = .inl q → Q none (sfI (sfI S 132 0 0 (nI e)) 133 0 0 (nI q))) (hQ : ∀ e lo hi st, item x p f = .inr (e, lo, hi, st) → Q none (tAdd f lo st (hi + 1 - lo) lo (sfI S 132 0 0 (nI e)))) : gRun E mX4_readItem 4 0 0 [vR 4 0 0, vI (nI f)] S [] Q := by
  refine gRun_of (ls := [some (vR 4 0 0), some (vI (nI f)), none, none, none, none]) rfl (Nat.le_of_ble_eq_true rfl) rfl (fun ad => ?_)
  obtain ⟨l4, l6, l10, l11, r128, r129, r192, hX⟩ := id hR
  have hE : txE x (xl S) := by rw [← hx]; exact txE_of hX
  have h60 := hX.2.1
  have hlo := fLo_le f
  have hhi := fHi_le f
  have hne : ∀ a c : Nat, x a ≠ c → c < 2 ^ 31 → ¬ nI (x a) = nI c := fun a c h hc z => h ((nI_eq (by have := txE_le hE a; omega) hc).mp z)
  by_cases hs : x p = 42
  · have hpL : p < xl S := txE_nz hE (by omega)
    have hpos : p + 1 ≤ 60 := by omega
    by_cases hsl : x (p + 1) = 47
    · have hsL : p + 1 < xl S := txE_nz hE (by omega)
      have hd9 := dg_end hE (p := p + 1 + 1) (by omega)
      have hv9 := vl_le x (p + 1 + 1)
      by_cases hst : isN x (p + 1 + 1) 99 1 = true
      · have hst2 := isN_in hst
        have it : item x p f = .inr (p + 1 + 1 + dg x (p + 1 + 1), fLo f, fHi f, vl x (p + 1 + 1)) := by rw [item, if_pos hs, stp, if_pos hsl, if_neg (by omega)]
        refine gsX4_55 (pc' := 3) rfl dX4_readItem_0 rfl ?_
        refine g_iload_n (pc' := 4) dX4_readItem_3 rfl rfl ?_
        refine gt_0 (pc' := 5) (n := f) dX4_readItem_4 rfl rfl hf ?_
        rw [gt0 hf]
        refine gistore_n2 (pc' := 6) dX4_readItem_5 rfl (Nat.le_of_ble_eq_true rfl) rfl ?_
        refine gsX4_59 (pc' := 9) rfl dX4_readItem_6 rfl ?_
        refine g_iload_n (pc' := 10) dX4_readItem_9 rfl rfl ?_
        refine gt_1 (pc' := 11) (n := f) dX4_readItem_10 rfl rfl hf ?_
        rw [gt1 hf]
        refine gistore_n3 (pc' := 12) dX4_readItem_11 rfl (Nat.le_of_ble_eq_true rfl) rfl ?_
        refine g_iconst (pc' := 13) (v := 1) dX4_readItem_12 rfl rfl ?_
        refine gistore4 (pc' := 15) dX4_readItem_13 rfl (Nat.le_of_ble_eq_true rfl) rfl ?_
        refine g_aload_n (pc' := 16) dX4_readItem_15 rfl rfl ?_
        refine ggX4_12 (pc' := 19) rfl dX4_readItem_16 rfl l4 r128 ?_
        refine g_aload_n (pc' := 20) dX4_readItem_19 rfl rfl ?_
        refine ggX4_29 (pc' := 23) rfl dX4_readItem_20 rfl l4 ?_
        first
          | rw [fI_at]
          | rw [hp]
        refine gcv1 (pc' := 26) cwX4_45 cf6 dX4_readItem_23 rfl l6 (Nat.le_of_ble_eq_true rfl) (Nat.le_of_ble_eq_true rfl) (Nat.le_of_ble_eq_true rfl) (Nat.le_of_ble_eq_true rfl) (Nat.le_of_ble_eq_true rfl) (kSignX (S := S) (x := x) (p := p) hR hx (by omega) ?_)
        refine g_bipush (pc' := 28) (v := 42) dX4_readItem_26 rfl rfl ?_
        refine g_icmp_ne dX4_readItem_28 (tg := 44) (pc' := 31) (by decide) rfl (fun h28 => absurd (congrArg nI hs) h28) (fun h28 => ?_)
        refine g_aload_n (pc' := 32) dX4_readItem_31 rfl rfl ?_
        refine g_dup (pc' := 33) dX4_readItem_32 rfl rfl ?_
        refine ggX4_29 (pc' := 36) rfl dX4_readItem_33 rfl l4 ?_
        first
          | rw [fI_at]
          | rw [hp]
        refine g_iconst (pc' := 37) (v := 1) dX4_readItem_36 rfl rfl ?_
        refine g_iadd (pc' := 38) dX4_readItem_37 rfl ?_
        rw [nI_1]
        refine gpX4_29 (pc' := 41) rfl dX4_readItem_38 rfl l4 ?_
        refine g_goto dX4_readItem_41 (pc' := 109) (by decide) ?_
        refine g_iconst (pc' := 110) (v := 1) dX4_readItem_109 rfl rfl ?_
        refine gistore5 (pc' := 112) dX4_readItem_110 rfl (Nat.le_of_ble_eq_true rfl) rfl ?_
        refine g_aload_n (pc' := 113) dX4_readItem_112 rfl rfl ?_
        refine ggX4_33 (pc' := 116) rfl dX4_readItem_113 rfl l4 ?_
        refine g_iconst (pc' := 117) (v := (-1)) dX4_readItem_116 rfl rfl ?_
        refine g_icmp_ne dX4_readItem_117 (tg := 160) (pc' := 120) (by decide) rfl (fun h117 => absurd hw h117) (fun h117 => ?_)
        refine g_iload (pc' := 122) dX4_readItem_120 rfl rfl ?_
        refine g_if_eq dX4_readItem_122 (tg := 160) (pc' := 125) (by decide) rfl (fun h122 => absurd h122 (by decide)) (fun h122 => ?_)
        refine g_aload_n (pc' := 126) dX4_readItem_125 rfl rfl ?_
        refine ggX4_12 (pc' := 129) rfl dX4_readItem_126 rfl l4 r128 ?_
        refine g_aload_n (pc' := 130) dX4_readItem_129 rfl rfl ?_
        refine ggX4_29 (pc' := 133) rfl dX4_readItem_130 rfl l4 ?_
        first
          | rw [fI_at]
          | rw [hp]
        refine gcv1 (pc' := 136) cwX4_45 cf6 dX4_readItem_133 rfl l6 (Nat.le_of_ble_eq_true rfl) (Nat.le_of_ble_eq_true rfl) (Nat.le_of_ble_eq_true rfl) (Nat.le_of_ble_eq_true rfl) (Nat.le_of_ble_eq_true rfl) (kSignX (S := (sfI S 132 0 0 (nI (p + 1)))) (x := x) (p := p + 1) hR hx (by omega) ?_)
        refine g_bipush (pc' := 138) (v := 47) dX4_readItem_136 rfl rfl ?_
        refine g_icmp_ne dX4_readItem_138 (tg := 160) (pc' := 141) (by decide) rfl (fun h138 => absurd (congrArg nI hsl) h138) (fun h138 => ?_)
        refine g_aload_n (pc' := 142) dX4_readItem_141 rfl rfl ?_
        refine g_dup (pc' := 143) dX4_readItem_142 rfl rfl ?_
        refine ggX4_29 (pc' := 146) rfl dX4_readItem_143 rfl l4 ?_
        first
          | rw [fI_at]
          | rw [hp]
        refine g_iconst (pc' := 147) (v := 1) dX4_readItem_146 rfl rfl ?_
        refine g_iadd (pc' := 148) dX4_readItem_147 rfl ?_
        rw [nI_1]
        refine gpX4_29 (pc' := 151) rfl dX4_readItem_148 rfl l4 ?_
        rw [sfI_sfI]
        refine g_aload_n (pc' := 152) dX4_readItem_151 rfl rfl ?_
        refine g_iconst (pc' := 153) (v := 1) dX4_readItem_152 rfl rfl ?_
        refine g_bipush (pc' := 155) (v := 99) dX4_readItem_153 rfl rfl ?_
        refine gcv2 (pc' := 158) cwX4_62 cf4 dX4_readItem_155 rfl l4 (Nat.le_of_ble_eq_true rfl) (Nat.le_of_ble_eq_true rfl) (Nat.le_of_ble_eq_true rfl) (Nat.le_of_ble_eq_true rfl) (Nat.le_of_ble_eq_true rfl) (kX4_readNumber (S := (sfI S 132 0 0 (nI (p + 1 + 1)))) (x := x) (p := p + 1 + 1) (lo := 1) (hi := 99) hR hx rfl (by omega) (by omega) (by omega) ?_)
        rw [tNum, if_pos hst, sfI_sfI]
        refine gistore5 (pc' := 160) dX4_readItem_158 rfl (Nat.le_of_ble_eq_true rfl) rfl ?_
        refine g_aload_n (pc' := 161) dX4_readItem_160 rfl rfl ?_
        refine ggX4_33 (pc' := 164) rfl dX4_readItem_161 rfl l4 ?_
        refine g_iconst (pc' := 165) (v := (-1)) dX4_readItem_164 rfl rfl ?_
        refine g_icmp_ne dX4_readItem_165 (tg := 177) (pc' := 168) (by decide) rfl (fun h165 => absurd hw h165) (fun h165 => ?_)
        refine g_aload_n (pc' := 169) dX4_readItem_168 rfl rfl ?_
        refine g_iload_n (pc' := 170) dX4_readItem_169 rfl rfl ?_
        refine g_iload_n (pc' := 171) dX4_readItem_170 rfl rfl ?_
        refine g_iload_n (pc' := 172) dX4_readItem_171 rfl rfl ?_
        refine g_iload (pc' := 174) dX4_readItem_172 rfl rfl ?_
        refine gcv4 (pc' := 177) cwX4_66 cf4 dX4_readItem_174 rfl l4 (Nat.le_of_ble_eq_true rfl) (Nat.le_of_ble_eq_true rfl) (Nat.le_of_ble_eq_true rfl) (Nat.le_of_ble_eq_true rfl) (Nat.le_of_ble_eq_true rfl) (kX4_addNumbers (f := f) (lo := fLo f) (hi := fHi f) (st := vl x (p + 1 + 1)) l4 l11 r129 hf (by omega) (by omega) (by omega) (by omega) ?_)
        refine g_vret dX4_readItem_177 rfl (Nat.le_of_ble_eq_true rfl) (Nat.le_of_ble_eq_true rfl) ?_
        exact hQ _ _ _ _ it
      · have it : item x p f = .inl (p + 1 + 1) := by
          rw [item, if_pos hs, stp, if_pos hsl, if_pos (by
            rw [isN, decide_eq_true_eq] at hst
            omega)]
        refine gsX4_55 (pc' := 3) rfl dX4_readItem_0 rfl ?_
        refine g_iload_n (pc' := 4) dX4_readItem_3 rfl rfl ?_
        refine gt_0 (pc' := 5) (n := f) dX4_readItem_4 rfl rfl hf ?_
        rw [gt0 hf]
        refine gistore_n2 (pc' := 6) dX4_readItem_5 rfl (Nat.le_of_ble_eq_true rfl) rfl ?_
        refine gsX4_59 (pc' := 9) rfl dX4_readItem_6 rfl ?_
        refine g_iload_n (pc' := 10) dX4_readItem_9 rfl rfl ?_
        refine gt_1 (pc' := 11) (n := f) dX4_readItem_10 rfl rfl hf ?_
        rw [gt1 hf]
        refine gistore_n3 (pc' := 12) dX4_readItem_11 rfl (Nat.le_of_ble_eq_true rfl) rfl ?_
        refine g_iconst (pc' := 13) (v := 1) dX4_readItem_12 rfl rfl ?_
        refine gistore4 (pc' := 15) dX4_readItem_13 rfl (Nat.le_of_ble_eq_true rfl) rfl ?_
        refine g_aload_n (pc' := 16) dX4_readItem_15 rfl rfl ?_
        refine ggX4_12 (pc' := 19) rfl dX4_readItem_16 rfl l4 r128 ?_
        refine g_aload_n (pc' := 20) dX4_readItem_19 rfl rfl ?_
        refine ggX4_29 (pc' := 23) rfl dX4_readItem_20 rfl l4 ?_
        first
          | rw [fI_at]
          | rw [hp]
        refine gcv1 (pc' := 26) cwX4_45 cf6 dX4_readItem_23 rfl l6 (Nat.le_of_ble_eq_true rfl) (Nat.le_of_ble_eq_true rfl) (Nat.le_of_ble_eq_true rfl) (Nat.le_of_ble_eq_true rfl) (Nat.le_of_ble_eq_true rfl) (kSignX (S := S) (x := x) (p := p) hR hx (by omega) ?_)
        refine g_bipush (pc' := 28) (v := 42) dX4_readItem_26 rfl rfl ?_
        refine g_icmp_ne dX4_readItem_28 (tg := 44) (pc' := 31) (by decide) rfl (fun h28 => absurd (congrArg nI hs) h28) (fun h28 => ?_)
        refine g_aload_n (pc' := 32) dX4_readItem_31 rfl rfl ?_
        refine g_dup (pc' := 33) dX4_readItem_32 rfl rfl ?_
        refine ggX4_29 (pc' := 36) rfl dX4_readItem_33 rfl l4 ?_
        first
          | rw [fI_at]
          | rw [hp]
        refine g_iconst (pc' := 37) (v := 1) dX4_readItem_36 rfl rfl ?_
        refine g_iadd (pc' := 38) dX4_readItem_37 rfl ?_
        rw [nI_1]
        refine gpX4_29 (pc' := 41) rfl dX4_readItem_38 rfl l4 ?_
        refine g_goto dX4_readItem_41 (pc' := 109) (by decide) ?_
        refine g_iconst (pc' := 110) (v := 1) dX4_readItem_109 rfl rfl ?_
        refine gistore5 (pc' := 112) dX4_readItem_110 rfl (Nat.le_of_ble_eq_true rfl) rfl ?_
        refine g_aload_n (pc' := 113) dX4_readItem_112 rfl rfl ?_
        refine ggX4_33 (pc' := 116) rfl dX4_readItem_113 rfl l4 ?_
        refine g_iconst (pc' := 117) (v := (-1)) dX4_readItem_116 rfl rfl ?_
        refine g_icmp_ne dX4_readItem_117 (tg := 160) (pc' := 120) (by decide) rfl (fun h117 => absurd hw h117) (fun h117 => ?_)
        refine g_iload (pc' := 122) dX4_readItem_120 rfl rfl ?_
        refine g_if_eq dX4_readItem_122 (tg := 160) (pc' := 125) (by decide) rfl (fun h122 => absurd h122 (by decide)) (fun h122 => ?_)
        refine g_aload_n (pc' := 126) dX4_readItem_125 rfl rfl ?_
        refine ggX4_12 (pc' := 129) rfl dX4_readItem_126 rfl l4 r128 ?_
        refine g_aload_n (pc' := 130) dX4_readItem_129 rfl rfl ?_
        refine ggX4_29 (pc' := 133) rfl dX4_readItem_130 rfl l4 ?_
        first
          | rw [fI_at]
          | rw [hp]
        refine gcv1 (pc' := 136) cwX4_45 cf6 dX4_readItem_133 rfl l6 (Nat.le_of_ble_eq_true rfl) (Nat.le_of_ble_eq_true rfl) (Nat.le_of_ble_eq_true rfl) (Nat.le_of_ble_eq_true rfl) (Nat.le_of_ble_eq_true rfl) (kSignX (S := (sfI S 132 0 0 (nI (p + 1)))) (x := x) (p := p + 1) hR hx (by omega) ?_)
        refine g_bipush (pc' := 138) (v := 47) dX4_readItem_136 rfl rfl ?_
        refine g_icmp_ne dX4_readItem_138 (tg := 160) (pc' := 141) (by decide) rfl (fun h138 => absurd (congrArg nI hsl) h138) (fun h138 => ?_)
        refine g_aload_n (pc' := 142) dX4_readItem_141 rfl rfl ?_
        refine g_dup (pc' := 143) dX4_readItem_142 rfl rfl ?_
        refine ggX4_29 (pc' := 146) rfl dX4_readItem_143 rfl l4 ?_
        first
          | rw [fI_at]
          | rw [hp]
        refine g_iconst (pc' := 147) (v := 1) dX4_readItem_146 rfl rfl ?_
        refine g_iadd (pc' := 148) dX4_readItem_147 rfl ?_
        rw [nI_1]
        refine gpX4_29 (pc' := 151) rfl dX4_readItem_148 rfl l4 ?_
        rw [sfI_sfI]
        refine g_aload_n (pc' := 152) dX4_readItem_151 rfl rfl ?_
        refine g_iconst (pc' := 153) (v := 1) dX4_readItem_152 rfl rfl ?_
        refine g_bipush (pc' := 155) (v := 99) dX4_readItem_153 rfl rfl ?_
        refine gcv2 (pc' := 158) cwX4_62 cf4 dX4_readItem_155 rfl l4 (Nat.le_of_ble_eq_true rfl) (Nat.le_of_ble_eq_true rfl) (Nat.le_of_ble_eq_true rfl) (Nat.le_of_ble_eq_true rfl) (Nat.le_of_ble_eq_true rfl) (kX4_readNumber (S := (sfI S 132 0 0 (nI (p + 1 + 1)))) (x := x) (p := p + 1 + 1) (lo := 1) (hi := 99) hR hx rfl (by omega) (by omega) (by omega) ?_)
        rw [tNum, if_neg hst, sfI_sfI]
        refine gistore5 (pc' := 160) dX4_readItem_158 rfl (Nat.le_of_ble_eq_true rfl) rfl ?_
        refine g_aload_n (pc' := 161) dX4_readItem_160 rfl rfl ?_
        refine ggX4_33 (pc' := 164) rfl dX4_readItem_161 rfl l4 ?_
        rw [fI_at]
        refine g_iconst (pc' := 165) (v := (-1)) dX4_readItem_164 rfl rfl ?_
        refine g_icmp_ne dX4_readItem_165 (tg := 177) (pc' := 168) (by decide) rfl (fun h165 => ?_) (fun h165 => absurd h165 (nI_ne1 (by omega)))
        refine g_vret dX4_readItem_177 rfl (Nat.le_of_ble_eq_true rfl) (Nat.le_of_ble_eq_true rfl) ?_
        exact hQf _ _ it
    · have it : item x p f = .inr (p + 1, fLo f, fHi f, 1) := by rw [item, if_pos hs, stp, if_neg hsl]
      refine gsX4_55 (pc' := 3) rfl dX4_readItem_0 rfl ?_
      refine g_iload_n (pc' := 4) dX4_readItem_3 rfl rfl ?_
      refine gt_0 (pc' := 5) (n := f) dX4_readItem_4 rfl rfl hf ?_
      rw [gt0 hf]
      refine gistore_n2 (pc' := 6) dX4_readItem_5 rfl (Nat.le_of_ble_eq_true rfl) rfl ?_
      refine gsX4_59 (pc' := 9) rfl dX4_readItem_6 rfl ?_
      refine g_iload_n (pc' := 10) dX4_readItem_9 rfl rfl ?_
      refine gt_1 (pc' := 11) (n := f) dX4_readItem_10 rfl rfl hf ?_
      rw [gt1 hf]
      refine gistore_n3 (pc' := 12) dX4_readItem_11 rfl (Nat.le_of_ble_eq_true rfl) rfl ?_
      refine g_iconst (pc' := 13) (v := 1) dX4_readItem_12 rfl rfl ?_
      refine gistore4 (pc' := 15) dX4_readItem_13 rfl (Nat.le_of_ble_eq_true rfl) rfl ?_
      refine g_aload_n (pc' := 16) dX4_readItem_15 rfl rfl ?_
      refine ggX4_12 (pc' := 19) rfl dX4_readItem_16 rfl l4 r128 ?_
      refine g_aload_n (pc' := 20) dX4_readItem_19 rfl rfl ?_
      refine ggX4_29 (pc' := 23) rfl dX4_readItem_20 rfl l4 ?_
      first
        | rw [fI_at]
        | rw [hp]
      refine gcv1 (pc' := 26) cwX4_45 cf6 dX4_readItem_23 rfl l6 (Nat.le_of_ble_eq_true rfl) (Nat.le_of_ble_eq_true rfl) (Nat.le_of_ble_eq_true rfl) (Nat.le_of_ble_eq_true rfl) (Nat.le_of_ble_eq_true rfl) (kSignX (S := S) (x := x) (p := p) hR hx (by omega) ?_)
      refine g_bipush (pc' := 28) (v := 42) dX4_readItem_26 rfl rfl ?_
      refine g_icmp_ne dX4_readItem_28 (tg := 44) (pc' := 31) (by decide) rfl (fun h28 => absurd (congrArg nI hs) h28) (fun h28 => ?_)
      refine g_aload_n (pc' := 32) dX4_readItem_31 rfl rfl ?_
      refine g_dup (pc' := 33) dX4_readItem_32 rfl rfl ?_
      refine ggX4_29 (pc' := 36) rfl dX4_readItem_33 rfl l4 ?_
      first
        | rw [fI_at]
        | rw [hp]
      refine g_iconst (pc' := 37) (v := 1) dX4_readItem_36 rfl rfl ?_
      refine g_iadd (pc' := 38) dX4_readItem_37 rfl ?_
      rw [nI_1]
      refine gpX4_29 (pc' := 41) rfl dX4_readItem_38 rfl l4 ?_
      refine g_goto dX4_readItem_41 (pc' := 109) (by decide) ?_
      refine g_iconst (pc' := 110) (v := 1) dX4_readItem_109 rfl rfl ?_
      refine gistore5 (pc' := 112) dX4_readItem_110 rfl (Nat.le_of_ble_eq_true rfl) rfl ?_
      refine g_aload_n (pc' := 113) dX4_readItem_112 rfl rfl ?_
      refine ggX4_33 (pc' := 116) rfl dX4_readItem_113 rfl l4 ?_
      refine g_iconst (pc' := 117) (v := (-1)) dX4_readItem_116 rfl rfl ?_
      refine g_icmp_ne dX4_readItem_117 (tg := 160) (pc' := 120) (by decide) rfl (fun h117 => absurd hw h117) (fun h117 => ?_)
      refine g_iload (pc' := 122) dX4_readItem_120 rfl rfl ?_
      refine g_if_eq dX4_readItem_122 (tg := 160) (pc' := 125) (by decide) rfl (fun h122 => absurd h122 (by decide)) (fun h122 => ?_)
      refine g_aload_n (pc' := 126) dX4_readItem_125 rfl rfl ?_
      refine ggX4_12 (pc' := 129) rfl dX4_readItem_126 rfl l4 r128 ?_
      refine g_aload_n (pc' := 130) dX4_readItem_129 rfl rfl ?_
      refine ggX4_29 (pc' := 133) rfl dX4_readItem_130 rfl l4 ?_
      first
        | rw [fI_at]
        | rw [hp]
      refine gcv1 (pc' := 136) cwX4_45 cf6 dX4_readItem_133 rfl l6 (Nat.le_of_ble_eq_true rfl) (Nat.le_of_ble_eq_true rfl) (Nat.le_of_ble_eq_true rfl) (Nat.le_of_ble_eq_true rfl) (Nat.le_of_ble_eq_true rfl) (kSignX (S := (sfI S 132 0 0 (nI (p + 1)))) (x := x) (p := p + 1) hR hx (by omega) ?_)
      refine g_bipush (pc' := 138) (v := 47) dX4_readItem_136 rfl rfl ?_
      refine g_icmp_ne dX4_readItem_138 (tg := 160) (pc' := 141) (by decide) rfl (fun h138 => ?_) (fun h138 => absurd h138 (hne (p + 1) 47 hsl (by decide)))
      refine g_aload_n (pc' := 161) dX4_readItem_160 rfl rfl ?_
      refine ggX4_33 (pc' := 164) rfl dX4_readItem_161 rfl l4 ?_
      refine g_iconst (pc' := 165) (v := (-1)) dX4_readItem_164 rfl rfl ?_
      refine g_icmp_ne dX4_readItem_165 (tg := 177) (pc' := 168) (by decide) rfl (fun h165 => absurd hw h165) (fun h165 => ?_)
      refine g_aload_n (pc' := 169) dX4_readItem_168 rfl rfl ?_
      refine g_iload_n (pc' := 170) dX4_readItem_169 rfl rfl ?_
      refine g_iload_n (pc' := 171) dX4_readItem_170 rfl rfl ?_
      refine g_iload_n (pc' := 172) dX4_readItem_171 rfl rfl ?_
      refine g_iload (pc' := 174) dX4_readItem_172 rfl rfl ?_
      refine gcv4 (pc' := 177) cwX4_66 cf4 dX4_readItem_174 rfl l4 (Nat.le_of_ble_eq_true rfl) (Nat.le_of_ble_eq_true rfl) (Nat.le_of_ble_eq_true rfl) (Nat.le_of_ble_eq_true rfl) (Nat.le_of_ble_eq_true rfl) (kX4_addNumbers (f := f) (lo := fLo f) (hi := fHi f) (st := 1) l4 l11 r129 hf (by omega) (by omega) (by omega) (by omega) ?_)
      refine g_vret dX4_readItem_177 rfl (Nat.le_of_ble_eq_true rfl) (Nat.le_of_ble_eq_true rfl) ?_
      exact hQ _ _ _ _ it
  · have hd := dg_end hE hp2
    have hv := vl_le x p
    by_cases hn : isN x p (fHi f) (fLo f) = true
    · have hn2' := isN_in hn
      by_cases hm : x (p + dg x p) = 45
      · have hmL : p + dg x p < xl S := txE_nz hE (by omega)
        have hd2 := dg_end hE (p := p + dg x p + 1) (by omega)
        have hv2 := vl_le x (p + dg x p + 1)
        by_cases hn2 : isN x (p + dg x p + 1) (fHi f) (vl x p) = true
        · have hn3' := isN_in hn2
          have hpos : p + dg x p + 1 + dg x (p + dg x p + 1) ≤ 60 := by omega
          by_cases hsl : x (p + dg x p + 1 + dg x (p + dg x p + 1)) = 47
          · have hsL : p + dg x p + 1 + dg x (p + dg x p + 1) < xl S := txE_nz hE (by omega)
            have hd9 := dg_end hE (p := p + dg x p + 1 + dg x (p + dg x p + 1) + 1) (by omega)
            have hv9 := vl_le x (p + dg x p + 1 + dg x (p + dg x p + 1) + 1)
            by_cases hst : isN x (p + dg x p + 1 + dg x (p + dg x p + 1) + 1) 99 1 = true
            · have hst2 := isN_in hst
              have it : item x p f = .inr (p + dg x p + 1 + dg x (p + dg x p + 1) + 1 + dg x (p + dg x p + 1 + dg x (p + dg x p + 1) + 1), vl x p, vl x (p + dg x p + 1), vl x (p + dg x p + 1 + dg x (p + dg x p + 1) + 1)) := by rw [item, if_neg hs, if_pos hn, if_pos hm, if_pos hn2, stp, if_pos hsl, if_neg (by omega)]
              refine gsX4_55 (pc' := 3) rfl dX4_readItem_0 rfl ?_
              refine g_iload_n (pc' := 4) dX4_readItem_3 rfl rfl ?_
              refine gt_0 (pc' := 5) (n := f) dX4_readItem_4 rfl rfl hf ?_
              rw [gt0 hf]
              refine gistore_n2 (pc' := 6) dX4_readItem_5 rfl (Nat.le_of_ble_eq_true rfl) rfl ?_
              refine gsX4_59 (pc' := 9) rfl dX4_readItem_6 rfl ?_
              refine g_iload_n (pc' := 10) dX4_readItem_9 rfl rfl ?_
              refine gt_1 (pc' := 11) (n := f) dX4_readItem_10 rfl rfl hf ?_
              rw [gt1 hf]
              refine gistore_n3 (pc' := 12) dX4_readItem_11 rfl (Nat.le_of_ble_eq_true rfl) rfl ?_
              refine g_iconst (pc' := 13) (v := 1) dX4_readItem_12 rfl rfl ?_
              refine gistore4 (pc' := 15) dX4_readItem_13 rfl (Nat.le_of_ble_eq_true rfl) rfl ?_
              refine g_aload_n (pc' := 16) dX4_readItem_15 rfl rfl ?_
              refine ggX4_12 (pc' := 19) rfl dX4_readItem_16 rfl l4 r128 ?_
              refine g_aload_n (pc' := 20) dX4_readItem_19 rfl rfl ?_
              refine ggX4_29 (pc' := 23) rfl dX4_readItem_20 rfl l4 ?_
              first
                | rw [fI_at]
                | rw [hp]
              refine gcv1 (pc' := 26) cwX4_45 cf6 dX4_readItem_23 rfl l6 (Nat.le_of_ble_eq_true rfl) (Nat.le_of_ble_eq_true rfl) (Nat.le_of_ble_eq_true rfl) (Nat.le_of_ble_eq_true rfl) (Nat.le_of_ble_eq_true rfl) (kSignX (S := S) (x := x) (p := p) hR hx (by omega) ?_)
              refine g_bipush (pc' := 28) (v := 42) dX4_readItem_26 rfl rfl ?_
              refine g_icmp_ne dX4_readItem_28 (tg := 44) (pc' := 31) (by decide) rfl (fun h28 => ?_) (fun h28 => absurd h28 (hne (p) 42 hs (by decide)))
              refine g_aload_n (pc' := 45) dX4_readItem_44 rfl rfl ?_
              refine g_iload_n (pc' := 46) dX4_readItem_45 rfl rfl ?_
              refine g_iload_n (pc' := 47) dX4_readItem_46 rfl rfl ?_
              refine gcv2 (pc' := 50) cwX4_62 cf4 dX4_readItem_47 rfl l4 (Nat.le_of_ble_eq_true rfl) (Nat.le_of_ble_eq_true rfl) (Nat.le_of_ble_eq_true rfl) (Nat.le_of_ble_eq_true rfl) (Nat.le_of_ble_eq_true rfl) (kX4_readNumber (S := S) (x := x) (p := p) (lo := fLo f) (hi := fHi f) hR hx hp (by omega) (by omega) (by omega) ?_)
              rw [tNum, if_pos hn]
              refine gistore_n2 (pc' := 51) dX4_readItem_50 rfl (Nat.le_of_ble_eq_true rfl) rfl ?_
              refine g_aload_n (pc' := 52) dX4_readItem_51 rfl rfl ?_
              refine ggX4_33 (pc' := 55) rfl dX4_readItem_52 rfl l4 ?_
              refine g_iconst (pc' := 56) (v := (-1)) dX4_readItem_55 rfl rfl ?_
              refine g_icmp_ne dX4_readItem_56 (tg := 79) (pc' := 59) (by decide) rfl (fun h56 => absurd hw h56) (fun h56 => ?_)
              refine g_aload_n (pc' := 60) dX4_readItem_59 rfl rfl ?_
              refine ggX4_12 (pc' := 63) rfl dX4_readItem_60 rfl l4 r128 ?_
              refine g_aload_n (pc' := 64) dX4_readItem_63 rfl rfl ?_
              refine ggX4_29 (pc' := 67) rfl dX4_readItem_64 rfl l4 ?_
              first
                | rw [fI_at]
                | rw [hp]
              refine gcv1 (pc' := 70) cwX4_45 cf6 dX4_readItem_67 rfl l6 (Nat.le_of_ble_eq_true rfl) (Nat.le_of_ble_eq_true rfl) (Nat.le_of_ble_eq_true rfl) (Nat.le_of_ble_eq_true rfl) (Nat.le_of_ble_eq_true rfl) (kSignX (S := (sfI S 132 0 0 (nI (p + dg x p)))) (x := x) (p := p + dg x p) hR hx (by omega) ?_)
              refine g_bipush (pc' := 72) (v := 45) dX4_readItem_70 rfl rfl ?_
              refine g_icmp_ne dX4_readItem_72 (tg := 79) (pc' := 75) (by decide) rfl (fun h72 => absurd (congrArg nI hm) h72) (fun h72 => ?_)
              refine g_iconst (pc' := 76) (v := 1) dX4_readItem_75 rfl rfl ?_
              refine g_goto dX4_readItem_76 (pc' := 80) (by decide) ?_
              refine gistore4 (pc' := 82) dX4_readItem_80 rfl (Nat.le_of_ble_eq_true rfl) rfl ?_
              refine g_iload (pc' := 84) dX4_readItem_82 rfl rfl ?_
              refine g_if_eq dX4_readItem_84 (tg := 107) (pc' := 87) (by decide) rfl (fun h84 => absurd h84 (by decide)) (fun h84 => ?_)
              refine g_aload_n (pc' := 88) dX4_readItem_87 rfl rfl ?_
              refine g_dup (pc' := 89) dX4_readItem_88 rfl rfl ?_
              refine ggX4_29 (pc' := 92) rfl dX4_readItem_89 rfl l4 ?_
              first
                | rw [fI_at]
                | rw [hp]
              refine g_iconst (pc' := 93) (v := 1) dX4_readItem_92 rfl rfl ?_
              refine g_iadd (pc' := 94) dX4_readItem_93 rfl ?_
              rw [nI_1]
              refine gpX4_29 (pc' := 97) rfl dX4_readItem_94 rfl l4 ?_
              rw [sfI_sfI]
              refine g_aload_n (pc' := 98) dX4_readItem_97 rfl rfl ?_
              refine g_iload_n (pc' := 99) dX4_readItem_98 rfl rfl ?_
              refine g_iload_n (pc' := 100) dX4_readItem_99 rfl rfl ?_
              refine gcv2 (pc' := 103) cwX4_62 cf4 dX4_readItem_100 rfl l4 (Nat.le_of_ble_eq_true rfl) (Nat.le_of_ble_eq_true rfl) (Nat.le_of_ble_eq_true rfl) (Nat.le_of_ble_eq_true rfl) (Nat.le_of_ble_eq_true rfl) (kX4_readNumber (S := (sfI S 132 0 0 (nI (p + dg x p + 1)))) (x := x) (p := p + dg x p + 1) (lo := vl x p) (hi := fHi f) hR hx rfl (by omega) (by omega) (by omega) ?_)
              rw [tNum, if_pos hn2, sfI_sfI]
              refine gistore_n3 (pc' := 104) dX4_readItem_103 rfl (Nat.le_of_ble_eq_true rfl) rfl ?_
              refine g_goto dX4_readItem_104 (pc' := 109) (by decide) ?_
              refine g_iconst (pc' := 110) (v := 1) dX4_readItem_109 rfl rfl ?_
              refine gistore5 (pc' := 112) dX4_readItem_110 rfl (Nat.le_of_ble_eq_true rfl) rfl ?_
              refine g_aload_n (pc' := 113) dX4_readItem_112 rfl rfl ?_
              refine ggX4_33 (pc' := 116) rfl dX4_readItem_113 rfl l4 ?_
              refine g_iconst (pc' := 117) (v := (-1)) dX4_readItem_116 rfl rfl ?_
              refine g_icmp_ne dX4_readItem_117 (tg := 160) (pc' := 120) (by decide) rfl (fun h117 => absurd hw h117) (fun h117 => ?_)
              refine g_iload (pc' := 122) dX4_readItem_120 rfl rfl ?_
              refine g_if_eq dX4_readItem_122 (tg := 160) (pc' := 125) (by decide) rfl (fun h122 => absurd h122 (by decide)) (fun h122 => ?_)
              refine g_aload_n (pc' := 126) dX4_readItem_125 rfl rfl ?_
              refine ggX4_12 (pc' := 129) rfl dX4_readItem_126 rfl l4 r128 ?_
              refine g_aload_n (pc' := 130) dX4_readItem_129 rfl rfl ?_
              refine ggX4_29 (pc' := 133) rfl dX4_readItem_130 rfl l4 ?_
              first
                | rw [fI_at]
                | rw [hp]
              refine gcv1 (pc' := 136) cwX4_45 cf6 dX4_readItem_133 rfl l6 (Nat.le_of_ble_eq_true rfl) (Nat.le_of_ble_eq_true rfl) (Nat.le_of_ble_eq_true rfl) (Nat.le_of_ble_eq_true rfl) (Nat.le_of_ble_eq_true rfl) (kSignX (S := (sfI S 132 0 0 (nI (p + dg x p + 1 + dg x (p + dg x p + 1))))) (x := x) (p := p + dg x p + 1 + dg x (p + dg x p + 1)) hR hx (by omega) ?_)
              refine g_bipush (pc' := 138) (v := 47) dX4_readItem_136 rfl rfl ?_
              refine g_icmp_ne dX4_readItem_138 (tg := 160) (pc' := 141) (by decide) rfl (fun h138 => absurd (congrArg nI hsl) h138) (fun h138 => ?_)
              refine g_aload_n (pc' := 142) dX4_readItem_141 rfl rfl ?_
              refine g_dup (pc' := 143) dX4_readItem_142 rfl rfl ?_
              refine ggX4_29 (pc' := 146) rfl dX4_readItem_143 rfl l4 ?_
              first
                | rw [fI_at]
                | rw [hp]
              refine g_iconst (pc' := 147) (v := 1) dX4_readItem_146 rfl rfl ?_
              refine g_iadd (pc' := 148) dX4_readItem_147 rfl ?_
              rw [nI_1]
              refine gpX4_29 (pc' := 151) rfl dX4_readItem_148 rfl l4 ?_
              rw [sfI_sfI]
              refine g_aload_n (pc' := 152) dX4_readItem_151 rfl rfl ?_
              refine g_iconst (pc' := 153) (v := 1) dX4_readItem_152 rfl rfl ?_
              refine g_bipush (pc' := 155) (v := 99) dX4_readItem_153 rfl rfl ?_
              refine gcv2 (pc' := 158) cwX4_62 cf4 dX4_readItem_155 rfl l4 (Nat.le_of_ble_eq_true rfl) (Nat.le_of_ble_eq_true rfl) (Nat.le_of_ble_eq_true rfl) (Nat.le_of_ble_eq_true rfl) (Nat.le_of_ble_eq_true rfl) (kX4_readNumber (S := (sfI S 132 0 0 (nI (p + dg x p + 1 + dg x (p + dg x p + 1) + 1)))) (x := x) (p := p + dg x p + 1 + dg x (p + dg x p + 1) + 1) (lo := 1) (hi := 99) hR hx rfl (by omega) (by omega) (by omega) ?_)
              rw [tNum, if_pos hst, sfI_sfI]
              refine gistore5 (pc' := 160) dX4_readItem_158 rfl (Nat.le_of_ble_eq_true rfl) rfl ?_
              refine g_aload_n (pc' := 161) dX4_readItem_160 rfl rfl ?_
              refine ggX4_33 (pc' := 164) rfl dX4_readItem_161 rfl l4 ?_
              refine g_iconst (pc' := 165) (v := (-1)) dX4_readItem_164 rfl rfl ?_
              refine g_icmp_ne dX4_readItem_165 (tg := 177) (pc' := 168) (by decide) rfl (fun h165 => absurd hw h165) (fun h165 => ?_)
              refine g_aload_n (pc' := 169) dX4_readItem_168 rfl rfl ?_
              refine g_iload_n (pc' := 170) dX4_readItem_169 rfl rfl ?_
              refine g_iload_n (pc' := 171) dX4_readItem_170 rfl rfl ?_
              refine g_iload_n (pc' := 172) dX4_readItem_171 rfl rfl ?_
              refine g_iload (pc' := 174) dX4_readItem_172 rfl rfl ?_
              refine gcv4 (pc' := 177) cwX4_66 cf4 dX4_readItem_174 rfl l4 (Nat.le_of_ble_eq_true rfl) (Nat.le_of_ble_eq_true rfl) (Nat.le_of_ble_eq_true rfl) (Nat.le_of_ble_eq_true rfl) (Nat.le_of_ble_eq_true rfl) (kX4_addNumbers (f := f) (lo := vl x p) (hi := vl x (p + dg x p + 1)) (st := vl x (p + dg x p + 1 + dg x (p + dg x p + 1) + 1)) l4 l11 r129 hf (by omega) (by omega) (by omega) (by omega) ?_)
              refine g_vret dX4_readItem_177 rfl (Nat.le_of_ble_eq_true rfl) (Nat.le_of_ble_eq_true rfl) ?_
              exact hQ _ _ _ _ it
            · have it : item x p f = .inl (p + dg x p + 1 + dg x (p + dg x p + 1) + 1) := by
                rw [item, if_neg hs, if_pos hn, if_pos hm, if_pos hn2, stp, if_pos hsl, if_pos (by
                  rw [isN, decide_eq_true_eq] at hst
                  omega)]
              refine gsX4_55 (pc' := 3) rfl dX4_readItem_0 rfl ?_
              refine g_iload_n (pc' := 4) dX4_readItem_3 rfl rfl ?_
              refine gt_0 (pc' := 5) (n := f) dX4_readItem_4 rfl rfl hf ?_
              rw [gt0 hf]
              refine gistore_n2 (pc' := 6) dX4_readItem_5 rfl (Nat.le_of_ble_eq_true rfl) rfl ?_
              refine gsX4_59 (pc' := 9) rfl dX4_readItem_6 rfl ?_
              refine g_iload_n (pc' := 10) dX4_readItem_9 rfl rfl ?_
              refine gt_1 (pc' := 11) (n := f) dX4_readItem_10 rfl rfl hf ?_
              rw [gt1 hf]
              refine gistore_n3 (pc' := 12) dX4_readItem_11 rfl (Nat.le_of_ble_eq_true rfl) rfl ?_
              refine g_iconst (pc' := 13) (v := 1) dX4_readItem_12 rfl rfl ?_
              refine gistore4 (pc' := 15) dX4_readItem_13 rfl (Nat.le_of_ble_eq_true rfl) rfl ?_
              refine g_aload_n (pc' := 16) dX4_readItem_15 rfl rfl ?_
              refine ggX4_12 (pc' := 19) rfl dX4_readItem_16 rfl l4 r128 ?_
              refine g_aload_n (pc' := 20) dX4_readItem_19 rfl rfl ?_
              refine ggX4_29 (pc' := 23) rfl dX4_readItem_20 rfl l4 ?_
              first
                | rw [fI_at]
                | rw [hp]
              refine gcv1 (pc' := 26) cwX4_45 cf6 dX4_readItem_23 rfl l6 (Nat.le_of_ble_eq_true rfl) (Nat.le_of_ble_eq_true rfl) (Nat.le_of_ble_eq_true rfl) (Nat.le_of_ble_eq_true rfl) (Nat.le_of_ble_eq_true rfl) (kSignX (S := S) (x := x) (p := p) hR hx (by omega) ?_)
              refine g_bipush (pc' := 28) (v := 42) dX4_readItem_26 rfl rfl ?_
              refine g_icmp_ne dX4_readItem_28 (tg := 44) (pc' := 31) (by decide) rfl (fun h28 => ?_) (fun h28 => absurd h28 (hne (p) 42 hs (by decide)))
              refine g_aload_n (pc' := 45) dX4_readItem_44 rfl rfl ?_
              refine g_iload_n (pc' := 46) dX4_readItem_45 rfl rfl ?_
              refine g_iload_n (pc' := 47) dX4_readItem_46 rfl rfl ?_
              refine gcv2 (pc' := 50) cwX4_62 cf4 dX4_readItem_47 rfl l4 (Nat.le_of_ble_eq_true rfl) (Nat.le_of_ble_eq_true rfl) (Nat.le_of_ble_eq_true rfl) (Nat.le_of_ble_eq_true rfl) (Nat.le_of_ble_eq_true rfl) (kX4_readNumber (S := S) (x := x) (p := p) (lo := fLo f) (hi := fHi f) hR hx hp (by omega) (by omega) (by omega) ?_)
              rw [tNum, if_pos hn]
              refine gistore_n2 (pc' := 51) dX4_readItem_50 rfl (Nat.le_of_ble_eq_true rfl) rfl ?_
              refine g_aload_n (pc' := 52) dX4_readItem_51 rfl rfl ?_
              refine ggX4_33 (pc' := 55) rfl dX4_readItem_52 rfl l4 ?_
              refine g_iconst (pc' := 56) (v := (-1)) dX4_readItem_55 rfl rfl ?_
              refine g_icmp_ne dX4_readItem_56 (tg := 79) (pc' := 59) (by decide) rfl (fun h56 => absurd hw h56) (fun h56 => ?_)
              refine g_aload_n (pc' := 60) dX4_readItem_59 rfl rfl ?_
              refine ggX4_12 (pc' := 63) rfl dX4_readItem_60 rfl l4 r128 ?_
              refine g_aload_n (pc' := 64) dX4_readItem_63 rfl rfl ?_
              refine ggX4_29 (pc' := 67) rfl dX4_readItem_64 rfl l4 ?_
              first
                | rw [fI_at]
                | rw [hp]
              refine gcv1 (pc' := 70) cwX4_45 cf6 dX4_readItem_67 rfl l6 (Nat.le_of_ble_eq_true rfl) (Nat.le_of_ble_eq_true rfl) (Nat.le_of_ble_eq_true rfl) (Nat.le_of_ble_eq_true rfl) (Nat.le_of_ble_eq_true rfl) (kSignX (S := (sfI S 132 0 0 (nI (p + dg x p)))) (x := x) (p := p + dg x p) hR hx (by omega) ?_)
              refine g_bipush (pc' := 72) (v := 45) dX4_readItem_70 rfl rfl ?_
              refine g_icmp_ne dX4_readItem_72 (tg := 79) (pc' := 75) (by decide) rfl (fun h72 => absurd (congrArg nI hm) h72) (fun h72 => ?_)
              refine g_iconst (pc' := 76) (v := 1) dX4_readItem_75 rfl rfl ?_
              refine g_goto dX4_readItem_76 (pc' := 80) (by decide) ?_
              refine gistore4 (pc' := 82) dX4_readItem_80 rfl (Nat.le_of_ble_eq_true rfl) rfl ?_
              refine g_iload (pc' := 84) dX4_readItem_82 rfl rfl ?_
              refine g_if_eq dX4_readItem_84 (tg := 107) (pc' := 87) (by decide) rfl (fun h84 => absurd h84 (by decide)) (fun h84 => ?_)
              refine g_aload_n (pc' := 88) dX4_readItem_87 rfl rfl ?_
              refine g_dup (pc' := 89) dX4_readItem_88 rfl rfl ?_
              refine ggX4_29 (pc' := 92) rfl dX4_readItem_89 rfl l4 ?_
              first
                | rw [fI_at]
                | rw [hp]
              refine g_iconst (pc' := 93) (v := 1) dX4_readItem_92 rfl rfl ?_
              refine g_iadd (pc' := 94) dX4_readItem_93 rfl ?_
              rw [nI_1]
              refine gpX4_29 (pc' := 97) rfl dX4_readItem_94 rfl l4 ?_
              rw [sfI_sfI]
              refine g_aload_n (pc' := 98) dX4_readItem_97 rfl rfl ?_
              refine g_iload_n (pc' := 99) dX4_readItem_98 rfl rfl ?_
              refine g_iload_n (pc' := 100) dX4_readItem_99 rfl rfl ?_
              refine gcv2 (pc' := 103) cwX4_62 cf4 dX4_readItem_100 rfl l4 (Nat.le_of_ble_eq_true rfl) (Nat.le_of_ble_eq_true rfl) (Nat.le_of_ble_eq_true rfl) (Nat.le_of_ble_eq_true rfl) (Nat.le_of_ble_eq_true rfl) (kX4_readNumber (S := (sfI S 132 0 0 (nI (p + dg x p + 1)))) (x := x) (p := p + dg x p + 1) (lo := vl x p) (hi := fHi f) hR hx rfl (by omega) (by omega) (by omega) ?_)
              rw [tNum, if_pos hn2, sfI_sfI]
              refine gistore_n3 (pc' := 104) dX4_readItem_103 rfl (Nat.le_of_ble_eq_true rfl) rfl ?_
              refine g_goto dX4_readItem_104 (pc' := 109) (by decide) ?_
              refine g_iconst (pc' := 110) (v := 1) dX4_readItem_109 rfl rfl ?_
              refine gistore5 (pc' := 112) dX4_readItem_110 rfl (Nat.le_of_ble_eq_true rfl) rfl ?_
              refine g_aload_n (pc' := 113) dX4_readItem_112 rfl rfl ?_
              refine ggX4_33 (pc' := 116) rfl dX4_readItem_113 rfl l4 ?_
              refine g_iconst (pc' := 117) (v := (-1)) dX4_readItem_116 rfl rfl ?_
              refine g_icmp_ne dX4_readItem_117 (tg := 160) (pc' := 120) (by decide) rfl (fun h117 => absurd hw h117) (fun h117 => ?_)
              refine g_iload (pc' := 122) dX4_readItem_120 rfl rfl ?_
              refine g_if_eq dX4_readItem_122 (tg := 160) (pc' := 125) (by decide) rfl (fun h122 => absurd h122 (by decide)) (fun h122 => ?_)
              refine g_aload_n (pc' := 126) dX4_readItem_125 rfl rfl ?_
              refine ggX4_12 (pc' := 129) rfl dX4_readItem_126 rfl l4 r128 ?_
              refine g_aload_n (pc' := 130) dX4_readItem_129 rfl rfl ?_
              refine ggX4_29 (pc' := 133) rfl dX4_readItem_130 rfl l4 ?_
              first
                | rw [fI_at]
                | rw [hp]
              refine gcv1 (pc' := 136) cwX4_45 cf6 dX4_readItem_133 rfl l6 (Nat.le_of_ble_eq_true rfl) (Nat.le_of_ble_eq_true rfl) (Nat.le_of_ble_eq_true rfl) (Nat.le_of_ble_eq_true rfl) (Nat.le_of_ble_eq_true rfl) (kSignX (S := (sfI S 132 0 0 (nI (p + dg x p + 1 + dg x (p + dg x p + 1))))) (x := x) (p := p + dg x p + 1 + dg x (p + dg x p + 1)) hR hx (by omega) ?_)
              refine g_bipush (pc' := 138) (v := 47) dX4_readItem_136 rfl rfl ?_
              refine g_icmp_ne dX4_readItem_138 (tg := 160) (pc' := 141) (by decide) rfl (fun h138 => absurd (congrArg nI hsl) h138) (fun h138 => ?_)
              refine g_aload_n (pc' := 142) dX4_readItem_141 rfl rfl ?_
              refine g_dup (pc' := 143) dX4_readItem_142 rfl rfl ?_
              refine ggX4_29 (pc' := 146) rfl dX4_readItem_143 rfl l4 ?_
              first
                | rw [fI_at]
                | rw [hp]
              refine g_iconst (pc' := 147) (v := 1) dX4_readItem_146 rfl rfl ?_
              refine g_iadd (pc' := 148) dX4_readItem_147 rfl ?_
              rw [nI_1]
              refine gpX4_29 (pc' := 151) rfl dX4_readItem_148 rfl l4 ?_
              rw [sfI_sfI]
              refine g_aload_n (pc' := 152) dX4_readItem_151 rfl rfl ?_
              refine g_iconst (pc' := 153) (v := 1) dX4_readItem_152 rfl rfl ?_
              refine g_bipush (pc' := 155) (v := 99) dX4_readItem_153 rfl rfl ?_
              refine gcv2 (pc' := 158) cwX4_62 cf4 dX4_readItem_155 rfl l4 (Nat.le_of_ble_eq_true rfl) (Nat.le_of_ble_eq_true rfl) (Nat.le_of_ble_eq_true rfl) (Nat.le_of_ble_eq_true rfl) (Nat.le_of_ble_eq_true rfl) (kX4_readNumber (S := (sfI S 132 0 0 (nI (p + dg x p + 1 + dg x (p + dg x p + 1) + 1)))) (x := x) (p := p + dg x p + 1 + dg x (p + dg x p + 1) + 1) (lo := 1) (hi := 99) hR hx rfl (by omega) (by omega) (by omega) ?_)
              rw [tNum, if_neg hst, sfI_sfI]
              refine gistore5 (pc' := 160) dX4_readItem_158 rfl (Nat.le_of_ble_eq_true rfl) rfl ?_
              refine g_aload_n (pc' := 161) dX4_readItem_160 rfl rfl ?_
              refine ggX4_33 (pc' := 164) rfl dX4_readItem_161 rfl l4 ?_
              rw [fI_at]
              refine g_iconst (pc' := 165) (v := (-1)) dX4_readItem_164 rfl rfl ?_
              refine g_icmp_ne dX4_readItem_165 (tg := 177) (pc' := 168) (by decide) rfl (fun h165 => ?_) (fun h165 => absurd h165 (nI_ne1 (by omega)))
              refine g_vret dX4_readItem_177 rfl (Nat.le_of_ble_eq_true rfl) (Nat.le_of_ble_eq_true rfl) ?_
              exact hQf _ _ it
          · have it : item x p f = .inr (p + dg x p + 1 + dg x (p + dg x p + 1), vl x p, vl x (p + dg x p + 1), 1) := by rw [item, if_neg hs, if_pos hn, if_pos hm, if_pos hn2, stp, if_neg hsl]
            refine gsX4_55 (pc' := 3) rfl dX4_readItem_0 rfl ?_
            refine g_iload_n (pc' := 4) dX4_readItem_3 rfl rfl ?_
            refine gt_0 (pc' := 5) (n := f) dX4_readItem_4 rfl rfl hf ?_
            rw [gt0 hf]
            refine gistore_n2 (pc' := 6) dX4_readItem_5 rfl (Nat.le_of_ble_eq_true rfl) rfl ?_
            refine gsX4_59 (pc' := 9) rfl dX4_readItem_6 rfl ?_
            refine g_iload_n (pc' := 10) dX4_readItem_9 rfl rfl ?_
            refine gt_1 (pc' := 11) (n := f) dX4_readItem_10 rfl rfl hf ?_
            rw [gt1 hf]
            refine gistore_n3 (pc' := 12) dX4_readItem_11 rfl (Nat.le_of_ble_eq_true rfl) rfl ?_
            refine g_iconst (pc' := 13) (v := 1) dX4_readItem_12 rfl rfl ?_
            refine gistore4 (pc' := 15) dX4_readItem_13 rfl (Nat.le_of_ble_eq_true rfl) rfl ?_
            refine g_aload_n (pc' := 16) dX4_readItem_15 rfl rfl ?_
            refine ggX4_12 (pc' := 19) rfl dX4_readItem_16 rfl l4 r128 ?_
            refine g_aload_n (pc' := 20) dX4_readItem_19 rfl rfl ?_
            refine ggX4_29 (pc' := 23) rfl dX4_readItem_20 rfl l4 ?_
            first
              | rw [fI_at]
              | rw [hp]
            refine gcv1 (pc' := 26) cwX4_45 cf6 dX4_readItem_23 rfl l6 (Nat.le_of_ble_eq_true rfl) (Nat.le_of_ble_eq_true rfl) (Nat.le_of_ble_eq_true rfl) (Nat.le_of_ble_eq_true rfl) (Nat.le_of_ble_eq_true rfl) (kSignX (S := S) (x := x) (p := p) hR hx (by omega) ?_)
            refine g_bipush (pc' := 28) (v := 42) dX4_readItem_26 rfl rfl ?_
            refine g_icmp_ne dX4_readItem_28 (tg := 44) (pc' := 31) (by decide) rfl (fun h28 => ?_) (fun h28 => absurd h28 (hne (p) 42 hs (by decide)))
            refine g_aload_n (pc' := 45) dX4_readItem_44 rfl rfl ?_
            refine g_iload_n (pc' := 46) dX4_readItem_45 rfl rfl ?_
            refine g_iload_n (pc' := 47) dX4_readItem_46 rfl rfl ?_
            refine gcv2 (pc' := 50) cwX4_62 cf4 dX4_readItem_47 rfl l4 (Nat.le_of_ble_eq_true rfl) (Nat.le_of_ble_eq_true rfl) (Nat.le_of_ble_eq_true rfl) (Nat.le_of_ble_eq_true rfl) (Nat.le_of_ble_eq_true rfl) (kX4_readNumber (S := S) (x := x) (p := p) (lo := fLo f) (hi := fHi f) hR hx hp (by omega) (by omega) (by omega) ?_)
            rw [tNum, if_pos hn]
            refine gistore_n2 (pc' := 51) dX4_readItem_50 rfl (Nat.le_of_ble_eq_true rfl) rfl ?_
            refine g_aload_n (pc' := 52) dX4_readItem_51 rfl rfl ?_
            refine ggX4_33 (pc' := 55) rfl dX4_readItem_52 rfl l4 ?_
            refine g_iconst (pc' := 56) (v := (-1)) dX4_readItem_55 rfl rfl ?_
            refine g_icmp_ne dX4_readItem_56 (tg := 79) (pc' := 59) (by decide) rfl (fun h56 => absurd hw h56) (fun h56 => ?_)
            refine g_aload_n (pc' := 60) dX4_readItem_59 rfl rfl ?_
            refine ggX4_12 (pc' := 63) rfl dX4_readItem_60 rfl l4 r128 ?_
            refine g_aload_n (pc' := 64) dX4_readItem_63 rfl rfl ?_
            refine ggX4_29 (pc' := 67) rfl dX4_readItem_64 rfl l4 ?_
            first
              | rw [fI_at]
              | rw [hp]
            refine gcv1 (pc' := 70) cwX4_45 cf6 dX4_readItem_67 rfl l6 (Nat.le_of_ble_eq_true rfl) (Nat.le_of_ble_eq_true rfl) (Nat.le_of_ble_eq_true rfl) (Nat.le_of_ble_eq_true rfl) (Nat.le_of_ble_eq_true rfl) (kSignX (S := (sfI S 132 0 0 (nI (p + dg x p)))) (x := x) (p := p + dg x p) hR hx (by omega) ?_)
            refine g_bipush (pc' := 72) (v := 45) dX4_readItem_70 rfl rfl ?_
            refine g_icmp_ne dX4_readItem_72 (tg := 79) (pc' := 75) (by decide) rfl (fun h72 => absurd (congrArg nI hm) h72) (fun h72 => ?_)
            refine g_iconst (pc' := 76) (v := 1) dX4_readItem_75 rfl rfl ?_
            refine g_goto dX4_readItem_76 (pc' := 80) (by decide) ?_
            refine gistore4 (pc' := 82) dX4_readItem_80 rfl (Nat.le_of_ble_eq_true rfl) rfl ?_
            refine g_iload (pc' := 84) dX4_readItem_82 rfl rfl ?_
            refine g_if_eq dX4_readItem_84 (tg := 107) (pc' := 87) (by decide) rfl (fun h84 => absurd h84 (by decide)) (fun h84 => ?_)
            refine g_aload_n (pc' := 88) dX4_readItem_87 rfl rfl ?_
            refine g_dup (pc' := 89) dX4_readItem_88 rfl rfl ?_
            refine ggX4_29 (pc' := 92) rfl dX4_readItem_89 rfl l4 ?_
            first
              | rw [fI_at]
              | rw [hp]
            refine g_iconst (pc' := 93) (v := 1) dX4_readItem_92 rfl rfl ?_
            refine g_iadd (pc' := 94) dX4_readItem_93 rfl ?_
            rw [nI_1]
            refine gpX4_29 (pc' := 97) rfl dX4_readItem_94 rfl l4 ?_
            rw [sfI_sfI]
            refine g_aload_n (pc' := 98) dX4_readItem_97 rfl rfl ?_
            refine g_iload_n (pc' := 99) dX4_readItem_98 rfl rfl ?_
            refine g_iload_n (pc' := 100) dX4_readItem_99 rfl rfl ?_
            refine gcv2 (pc' := 103) cwX4_62 cf4 dX4_readItem_100 rfl l4 (Nat.le_of_ble_eq_true rfl) (Nat.le_of_ble_eq_true rfl) (Nat.le_of_ble_eq_true rfl) (Nat.le_of_ble_eq_true rfl) (Nat.le_of_ble_eq_true rfl) (kX4_readNumber (S := (sfI S 132 0 0 (nI (p + dg x p + 1)))) (x := x) (p := p + dg x p + 1) (lo := vl x p) (hi := fHi f) hR hx rfl (by omega) (by omega) (by omega) ?_)
            rw [tNum, if_pos hn2, sfI_sfI]
            refine gistore_n3 (pc' := 104) dX4_readItem_103 rfl (Nat.le_of_ble_eq_true rfl) rfl ?_
            refine g_goto dX4_readItem_104 (pc' := 109) (by decide) ?_
            refine g_iconst (pc' := 110) (v := 1) dX4_readItem_109 rfl rfl ?_
            refine gistore5 (pc' := 112) dX4_readItem_110 rfl (Nat.le_of_ble_eq_true rfl) rfl ?_
            refine g_aload_n (pc' := 113) dX4_readItem_112 rfl rfl ?_
            refine ggX4_33 (pc' := 116) rfl dX4_readItem_113 rfl l4 ?_
            refine g_iconst (pc' := 117) (v := (-1)) dX4_readItem_116 rfl rfl ?_
            refine g_icmp_ne dX4_readItem_117 (tg := 160) (pc' := 120) (by decide) rfl (fun h117 => absurd hw h117) (fun h117 => ?_)
            refine g_iload (pc' := 122) dX4_readItem_120 rfl rfl ?_
            refine g_if_eq dX4_readItem_122 (tg := 160) (pc' := 125) (by decide) rfl (fun h122 => absurd h122 (by decide)) (fun h122 => ?_)
            refine g_aload_n (pc' := 126) dX4_readItem_125 rfl rfl ?_
            refine ggX4_12 (pc' := 129) rfl dX4_readItem_126 rfl l4 r128 ?_
            refine g_aload_n (pc' := 130) dX4_readItem_129 rfl rfl ?_
            refine ggX4_29 (pc' := 133) rfl dX4_readItem_130 rfl l4 ?_
            first
              | rw [fI_at]
              | rw [hp]
            refine gcv1 (pc' := 136) cwX4_45 cf6 dX4_readItem_133 rfl l6 (Nat.le_of_ble_eq_true rfl) (Nat.le_of_ble_eq_true rfl) (Nat.le_of_ble_eq_true rfl) (Nat.le_of_ble_eq_true rfl) (Nat.le_of_ble_eq_true rfl) (kSignX (S := (sfI S 132 0 0 (nI (p + dg x p + 1 + dg x (p + dg x p + 1))))) (x := x) (p := p + dg x p + 1 + dg x (p + dg x p + 1)) hR hx (by omega) ?_)
            refine g_bipush (pc' := 138) (v := 47) dX4_readItem_136 rfl rfl ?_
            refine g_icmp_ne dX4_readItem_138 (tg := 160) (pc' := 141) (by decide) rfl (fun h138 => ?_) (fun h138 => absurd h138 (hne (p + dg x p + 1 + dg x (p + dg x p + 1)) 47 hsl (by decide)))
            refine g_aload_n (pc' := 161) dX4_readItem_160 rfl rfl ?_
            refine ggX4_33 (pc' := 164) rfl dX4_readItem_161 rfl l4 ?_
            refine g_iconst (pc' := 165) (v := (-1)) dX4_readItem_164 rfl rfl ?_
            refine g_icmp_ne dX4_readItem_165 (tg := 177) (pc' := 168) (by decide) rfl (fun h165 => absurd hw h165) (fun h165 => ?_)
            refine g_aload_n (pc' := 169) dX4_readItem_168 rfl rfl ?_
            refine g_iload_n (pc' := 170) dX4_readItem_169 rfl rfl ?_
            refine g_iload_n (pc' := 171) dX4_readItem_170 rfl rfl ?_
            refine g_iload_n (pc' := 172) dX4_readItem_171 rfl rfl ?_
            refine g_iload (pc' := 174) dX4_readItem_172 rfl rfl ?_
            refine gcv4 (pc' := 177) cwX4_66 cf4 dX4_readItem_174 rfl l4 (Nat.le_of_ble_eq_true rfl) (Nat.le_of_ble_eq_true rfl) (Nat.le_of_ble_eq_true rfl) (Nat.le_of_ble_eq_true rfl) (Nat.le_of_ble_eq_true rfl) (kX4_addNumbers (f := f) (lo := vl x p) (hi := vl x (p + dg x p + 1)) (st := 1) l4 l11 r129 hf (by omega) (by omega) (by omega) (by omega) ?_)
            refine g_vret dX4_readItem_177 rfl (Nat.le_of_ble_eq_true rfl) (Nat.le_of_ble_eq_true rfl) ?_
            exact hQ _ _ _ _ it
        · have it : item x p f = .inl (p + dg x p + 1) := by rw [item, if_neg hs, if_pos hn, if_pos hm, if_neg hn2]
          refine gsX4_55 (pc' := 3) rfl dX4_readItem_0 rfl ?_
          refine g_iload_n (pc' := 4) dX4_readItem_3 rfl rfl ?_
          refine gt_0 (pc' := 5) (n := f) dX4_readItem_4 rfl rfl hf ?_
          rw [gt0 hf]
          refine gistore_n2 (pc' := 6) dX4_readItem_5 rfl (Nat.le_of_ble_eq_true rfl) rfl ?_
          refine gsX4_59 (pc' := 9) rfl dX4_readItem_6 rfl ?_
          refine g_iload_n (pc' := 10) dX4_readItem_9 rfl rfl ?_
          refine gt_1 (pc' := 11) (n := f) dX4_readItem_10 rfl rfl hf ?_
          rw [gt1 hf]
          refine gistore_n3 (pc' := 12) dX4_readItem_11 rfl (Nat.le_of_ble_eq_true rfl) rfl ?_
          refine g_iconst (pc' := 13) (v := 1) dX4_readItem_12 rfl rfl ?_
          refine gistore4 (pc' := 15) dX4_readItem_13 rfl (Nat.le_of_ble_eq_true rfl) rfl ?_
          refine g_aload_n (pc' := 16) dX4_readItem_15 rfl rfl ?_
          refine ggX4_12 (pc' := 19) rfl dX4_readItem_16 rfl l4 r128 ?_
          refine g_aload_n (pc' := 20) dX4_readItem_19 rfl rfl ?_
          refine ggX4_29 (pc' := 23) rfl dX4_readItem_20 rfl l4 ?_
          first
            | rw [fI_at]
            | rw [hp]
          refine gcv1 (pc' := 26) cwX4_45 cf6 dX4_readItem_23 rfl l6 (Nat.le_of_ble_eq_true rfl) (Nat.le_of_ble_eq_true rfl) (Nat.le_of_ble_eq_true rfl) (Nat.le_of_ble_eq_true rfl) (Nat.le_of_ble_eq_true rfl) (kSignX (S := S) (x := x) (p := p) hR hx (by omega) ?_)
          refine g_bipush (pc' := 28) (v := 42) dX4_readItem_26 rfl rfl ?_
          refine g_icmp_ne dX4_readItem_28 (tg := 44) (pc' := 31) (by decide) rfl (fun h28 => ?_) (fun h28 => absurd h28 (hne (p) 42 hs (by decide)))
          refine g_aload_n (pc' := 45) dX4_readItem_44 rfl rfl ?_
          refine g_iload_n (pc' := 46) dX4_readItem_45 rfl rfl ?_
          refine g_iload_n (pc' := 47) dX4_readItem_46 rfl rfl ?_
          refine gcv2 (pc' := 50) cwX4_62 cf4 dX4_readItem_47 rfl l4 (Nat.le_of_ble_eq_true rfl) (Nat.le_of_ble_eq_true rfl) (Nat.le_of_ble_eq_true rfl) (Nat.le_of_ble_eq_true rfl) (Nat.le_of_ble_eq_true rfl) (kX4_readNumber (S := S) (x := x) (p := p) (lo := fLo f) (hi := fHi f) hR hx hp (by omega) (by omega) (by omega) ?_)
          rw [tNum, if_pos hn]
          refine gistore_n2 (pc' := 51) dX4_readItem_50 rfl (Nat.le_of_ble_eq_true rfl) rfl ?_
          refine g_aload_n (pc' := 52) dX4_readItem_51 rfl rfl ?_
          refine ggX4_33 (pc' := 55) rfl dX4_readItem_52 rfl l4 ?_
          refine g_iconst (pc' := 56) (v := (-1)) dX4_readItem_55 rfl rfl ?_
          refine g_icmp_ne dX4_readItem_56 (tg := 79) (pc' := 59) (by decide) rfl (fun h56 => absurd hw h56) (fun h56 => ?_)
          refine g_aload_n (pc' := 60) dX4_readItem_59 rfl rfl ?_
          refine ggX4_12 (pc' := 63) rfl dX4_readItem_60 rfl l4 r128 ?_
          refine g_aload_n (pc' := 64) dX4_readItem_63 rfl rfl ?_
          refine ggX4_29 (pc' := 67) rfl dX4_readItem_64 rfl l4 ?_
          first
            | rw [fI_at]
            | rw [hp]
          refine gcv1 (pc' := 70) cwX4_45 cf6 dX4_readItem_67 rfl l6 (Nat.le_of_ble_eq_true rfl) (Nat.le_of_ble_eq_true rfl) (Nat.le_of_ble_eq_true rfl) (Nat.le_of_ble_eq_true rfl) (Nat.le_of_ble_eq_true rfl) (kSignX (S := (sfI S 132 0 0 (nI (p + dg x p)))) (x := x) (p := p + dg x p) hR hx (by omega) ?_)
          refine g_bipush (pc' := 72) (v := 45) dX4_readItem_70 rfl rfl ?_
          refine g_icmp_ne dX4_readItem_72 (tg := 79) (pc' := 75) (by decide) rfl (fun h72 => absurd (congrArg nI hm) h72) (fun h72 => ?_)
          refine g_iconst (pc' := 76) (v := 1) dX4_readItem_75 rfl rfl ?_
          refine g_goto dX4_readItem_76 (pc' := 80) (by decide) ?_
          refine gistore4 (pc' := 82) dX4_readItem_80 rfl (Nat.le_of_ble_eq_true rfl) rfl ?_
          refine g_iload (pc' := 84) dX4_readItem_82 rfl rfl ?_
          refine g_if_eq dX4_readItem_84 (tg := 107) (pc' := 87) (by decide) rfl (fun h84 => absurd h84 (by decide)) (fun h84 => ?_)
          refine g_aload_n (pc' := 88) dX4_readItem_87 rfl rfl ?_
          refine g_dup (pc' := 89) dX4_readItem_88 rfl rfl ?_
          refine ggX4_29 (pc' := 92) rfl dX4_readItem_89 rfl l4 ?_
          first
            | rw [fI_at]
            | rw [hp]
          refine g_iconst (pc' := 93) (v := 1) dX4_readItem_92 rfl rfl ?_
          refine g_iadd (pc' := 94) dX4_readItem_93 rfl ?_
          rw [nI_1]
          refine gpX4_29 (pc' := 97) rfl dX4_readItem_94 rfl l4 ?_
          rw [sfI_sfI]
          refine g_aload_n (pc' := 98) dX4_readItem_97 rfl rfl ?_
          refine g_iload_n (pc' := 99) dX4_readItem_98 rfl rfl ?_
          refine g_iload_n (pc' := 100) dX4_readItem_99 rfl rfl ?_
          refine gcv2 (pc' := 103) cwX4_62 cf4 dX4_readItem_100 rfl l4 (Nat.le_of_ble_eq_true rfl) (Nat.le_of_ble_eq_true rfl) (Nat.le_of_ble_eq_true rfl) (Nat.le_of_ble_eq_true rfl) (Nat.le_of_ble_eq_true rfl) (kX4_readNumber (S := (sfI S 132 0 0 (nI (p + dg x p + 1)))) (x := x) (p := p + dg x p + 1) (lo := vl x p) (hi := fHi f) hR hx rfl (by omega) (by omega) (by omega) ?_)
          rw [tNum, if_neg hn2, sfI_sfI]
          refine gistore_n3 (pc' := 104) dX4_readItem_103 rfl (Nat.le_of_ble_eq_true rfl) rfl ?_
          refine g_goto dX4_readItem_104 (pc' := 109) (by decide) ?_
          refine g_iconst (pc' := 110) (v := 1) dX4_readItem_109 rfl rfl ?_
          refine gistore5 (pc' := 112) dX4_readItem_110 rfl (Nat.le_of_ble_eq_true rfl) rfl ?_
          refine g_aload_n (pc' := 113) dX4_readItem_112 rfl rfl ?_
          refine ggX4_33 (pc' := 116) rfl dX4_readItem_113 rfl l4 ?_
          rw [fI_at]
          refine g_iconst (pc' := 117) (v := (-1)) dX4_readItem_116 rfl rfl ?_
          refine g_icmp_ne dX4_readItem_117 (tg := 160) (pc' := 120) (by decide) rfl (fun h117 => ?_) (fun h117 => absurd h117 (nI_ne1 (by omega)))
          refine g_aload_n (pc' := 161) dX4_readItem_160 rfl rfl ?_
          refine ggX4_33 (pc' := 164) rfl dX4_readItem_161 rfl l4 ?_
          rw [fI_at]
          refine g_iconst (pc' := 165) (v := (-1)) dX4_readItem_164 rfl rfl ?_
          refine g_icmp_ne dX4_readItem_165 (tg := 177) (pc' := 168) (by decide) rfl (fun h165 => ?_) (fun h165 => absurd h165 (nI_ne1 (by omega)))
          refine g_vret dX4_readItem_177 rfl (Nat.le_of_ble_eq_true rfl) (Nat.le_of_ble_eq_true rfl) ?_
          exact hQf _ _ it
      · have it : item x p f = .inr (p + dg x p, vl x p, vl x p, 1) := by rw [item, if_neg hs, if_pos hn, if_neg hm]
        refine gsX4_55 (pc' := 3) rfl dX4_readItem_0 rfl ?_
        refine g_iload_n (pc' := 4) dX4_readItem_3 rfl rfl ?_
        refine gt_0 (pc' := 5) (n := f) dX4_readItem_4 rfl rfl hf ?_
        rw [gt0 hf]
        refine gistore_n2 (pc' := 6) dX4_readItem_5 rfl (Nat.le_of_ble_eq_true rfl) rfl ?_
        refine gsX4_59 (pc' := 9) rfl dX4_readItem_6 rfl ?_
        refine g_iload_n (pc' := 10) dX4_readItem_9 rfl rfl ?_
        refine gt_1 (pc' := 11) (n := f) dX4_readItem_10 rfl rfl hf ?_
        rw [gt1 hf]
        refine gistore_n3 (pc' := 12) dX4_readItem_11 rfl (Nat.le_of_ble_eq_true rfl) rfl ?_
        refine g_iconst (pc' := 13) (v := 1) dX4_readItem_12 rfl rfl ?_
        refine gistore4 (pc' := 15) dX4_readItem_13 rfl (Nat.le_of_ble_eq_true rfl) rfl ?_
        refine g_aload_n (pc' := 16) dX4_readItem_15 rfl rfl ?_
        refine ggX4_12 (pc' := 19) rfl dX4_readItem_16 rfl l4 r128 ?_
        refine g_aload_n (pc' := 20) dX4_readItem_19 rfl rfl ?_
        refine ggX4_29 (pc' := 23) rfl dX4_readItem_20 rfl l4 ?_
        first
          | rw [fI_at]
          | rw [hp]
        refine gcv1 (pc' := 26) cwX4_45 cf6 dX4_readItem_23 rfl l6 (Nat.le_of_ble_eq_true rfl) (Nat.le_of_ble_eq_true rfl) (Nat.le_of_ble_eq_true rfl) (Nat.le_of_ble_eq_true rfl) (Nat.le_of_ble_eq_true rfl) (kSignX (S := S) (x := x) (p := p) hR hx (by omega) ?_)
        refine g_bipush (pc' := 28) (v := 42) dX4_readItem_26 rfl rfl ?_
        refine g_icmp_ne dX4_readItem_28 (tg := 44) (pc' := 31) (by decide) rfl (fun h28 => ?_) (fun h28 => absurd h28 (hne (p) 42 hs (by decide)))
        refine g_aload_n (pc' := 45) dX4_readItem_44 rfl rfl ?_
        refine g_iload_n (pc' := 46) dX4_readItem_45 rfl rfl ?_
        refine g_iload_n (pc' := 47) dX4_readItem_46 rfl rfl ?_
        refine gcv2 (pc' := 50) cwX4_62 cf4 dX4_readItem_47 rfl l4 (Nat.le_of_ble_eq_true rfl) (Nat.le_of_ble_eq_true rfl) (Nat.le_of_ble_eq_true rfl) (Nat.le_of_ble_eq_true rfl) (Nat.le_of_ble_eq_true rfl) (kX4_readNumber (S := S) (x := x) (p := p) (lo := fLo f) (hi := fHi f) hR hx hp (by omega) (by omega) (by omega) ?_)
        rw [tNum, if_pos hn]
        refine gistore_n2 (pc' := 51) dX4_readItem_50 rfl (Nat.le_of_ble_eq_true rfl) rfl ?_
        refine g_aload_n (pc' := 52) dX4_readItem_51 rfl rfl ?_
        refine ggX4_33 (pc' := 55) rfl dX4_readItem_52 rfl l4 ?_
        refine g_iconst (pc' := 56) (v := (-1)) dX4_readItem_55 rfl rfl ?_
        refine g_icmp_ne dX4_readItem_56 (tg := 79) (pc' := 59) (by decide) rfl (fun h56 => absurd hw h56) (fun h56 => ?_)
        refine g_aload_n (pc' := 60) dX4_readItem_59 rfl rfl ?_
        refine ggX4_12 (pc' := 63) rfl dX4_readItem_60 rfl l4 r128 ?_
        refine g_aload_n (pc' := 64) dX4_readItem_63 rfl rfl ?_
        refine ggX4_29 (pc' := 67) rfl dX4_readItem_64 rfl l4 ?_
        first
          | rw [fI_at]
          | rw [hp]
        refine gcv1 (pc' := 70) cwX4_45 cf6 dX4_readItem_67 rfl l6 (Nat.le_of_ble_eq_true rfl) (Nat.le_of_ble_eq_true rfl) (Nat.le_of_ble_eq_true rfl) (Nat.le_of_ble_eq_true rfl) (Nat.le_of_ble_eq_true rfl) (kSignX (S := (sfI S 132 0 0 (nI (p + dg x p)))) (x := x) (p := p + dg x p) hR hx (by omega) ?_)
        refine g_bipush (pc' := 72) (v := 45) dX4_readItem_70 rfl rfl ?_
        refine g_icmp_ne dX4_readItem_72 (tg := 79) (pc' := 75) (by decide) rfl (fun h72 => ?_) (fun h72 => absurd h72 (hne (p + dg x p) 45 hm (by decide)))
        refine g_iconst (pc' := 80) (v := 0) dX4_readItem_79 rfl rfl ?_
        refine gistore4 (pc' := 82) dX4_readItem_80 rfl (Nat.le_of_ble_eq_true rfl) rfl ?_
        refine g_iload (pc' := 84) dX4_readItem_82 rfl rfl ?_
        refine g_if_eq dX4_readItem_84 (tg := 107) (pc' := 87) (by decide) rfl (fun h84 => ?_) (fun h84 => absurd (by decide) h84)
        refine g_iload_n (pc' := 108) dX4_readItem_107 rfl rfl ?_
        refine gistore_n3 (pc' := 109) dX4_readItem_108 rfl (Nat.le_of_ble_eq_true rfl) rfl ?_
        refine g_iconst (pc' := 110) (v := 1) dX4_readItem_109 rfl rfl ?_
        refine gistore5 (pc' := 112) dX4_readItem_110 rfl (Nat.le_of_ble_eq_true rfl) rfl ?_
        refine g_aload_n (pc' := 113) dX4_readItem_112 rfl rfl ?_
        refine ggX4_33 (pc' := 116) rfl dX4_readItem_113 rfl l4 ?_
        refine g_iconst (pc' := 117) (v := (-1)) dX4_readItem_116 rfl rfl ?_
        refine g_icmp_ne dX4_readItem_117 (tg := 160) (pc' := 120) (by decide) rfl (fun h117 => absurd hw h117) (fun h117 => ?_)
        refine g_iload (pc' := 122) dX4_readItem_120 rfl rfl ?_
        refine g_if_eq dX4_readItem_122 (tg := 160) (pc' := 125) (by decide) rfl (fun h122 => ?_) (fun h122 => absurd (by decide) h122)
        refine g_aload_n (pc' := 161) dX4_readItem_160 rfl rfl ?_
        refine ggX4_33 (pc' := 164) rfl dX4_readItem_161 rfl l4 ?_
        refine g_iconst (pc' := 165) (v := (-1)) dX4_readItem_164 rfl rfl ?_
        refine g_icmp_ne dX4_readItem_165 (tg := 177) (pc' := 168) (by decide) rfl (fun h165 => absurd hw h165) (fun h165 => ?_)
        refine g_aload_n (pc' := 169) dX4_readItem_168 rfl rfl ?_
        refine g_iload_n (pc' := 170) dX4_readItem_169 rfl rfl ?_
        refine g_iload_n (pc' := 171) dX4_readItem_170 rfl rfl ?_
        refine g_iload_n (pc' := 172) dX4_readItem_171 rfl rfl ?_
        refine g_iload (pc' := 174) dX4_readItem_172 rfl rfl ?_
        refine gcv4 (pc' := 177) cwX4_66 cf4 dX4_readItem_174 rfl l4 (Nat.le_of_ble_eq_true rfl) (Nat.le_of_ble_eq_true rfl) (Nat.le_of_ble_eq_true rfl) (Nat.le_of_ble_eq_true rfl) (Nat.le_of_ble_eq_true rfl) (kX4_addNumbers (f := f) (lo := vl x p) (hi := vl x p) (st := 1) l4 l11 r129 hf (by omega) (by omega) (by omega) (by omega) ?_)
        refine g_vret dX4_readItem_177 rfl (Nat.le_of_ble_eq_true rfl) (Nat.le_of_ble_eq_true rfl) ?_
        exact hQ _ _ _ _ it
    · have it : item x p f = .inl p := by rw [item, if_neg hs, if_neg hn]
      refine gsX4_55 (pc' := 3) rfl dX4_readItem_0 rfl ?_
      refine g_iload_n (pc' := 4) dX4_readItem_3 rfl rfl ?_
      refine gt_0 (pc' := 5) (n := f) dX4_readItem_4 rfl rfl hf ?_
      rw [gt0 hf]
      refine gistore_n2 (pc' := 6) dX4_readItem_5 rfl (Nat.le_of_ble_eq_true rfl) rfl ?_
      refine gsX4_59 (pc' := 9) rfl dX4_readItem_6 rfl ?_
      refine g_iload_n (pc' := 10) dX4_readItem_9 rfl rfl ?_
      refine gt_1 (pc' := 11) (n := f) dX4_readItem_10 rfl rfl hf ?_
      rw [gt1 hf]
      refine gistore_n3 (pc' := 12) dX4_readItem_11 rfl (Nat.le_of_ble_eq_true rfl) rfl ?_
      refine g_iconst (pc' := 13) (v := 1) dX4_readItem_12 rfl rfl ?_
      refine gistore4 (pc' := 15) dX4_readItem_13 rfl (Nat.le_of_ble_eq_true rfl) rfl ?_
      refine g_aload_n (pc' := 16) dX4_readItem_15 rfl rfl ?_
      refine ggX4_12 (pc' := 19) rfl dX4_readItem_16 rfl l4 r128 ?_
      refine g_aload_n (pc' := 20) dX4_readItem_19 rfl rfl ?_
      refine ggX4_29 (pc' := 23) rfl dX4_readItem_20 rfl l4 ?_
      first
        | rw [fI_at]
        | rw [hp]
      refine gcv1 (pc' := 26) cwX4_45 cf6 dX4_readItem_23 rfl l6 (Nat.le_of_ble_eq_true rfl) (Nat.le_of_ble_eq_true rfl) (Nat.le_of_ble_eq_true rfl) (Nat.le_of_ble_eq_true rfl) (Nat.le_of_ble_eq_true rfl) (kSignX (S := S) (x := x) (p := p) hR hx (by omega) ?_)
      refine g_bipush (pc' := 28) (v := 42) dX4_readItem_26 rfl rfl ?_
      refine g_icmp_ne dX4_readItem_28 (tg := 44) (pc' := 31) (by decide) rfl (fun h28 => ?_) (fun h28 => absurd h28 (hne (p) 42 hs (by decide)))
      refine g_aload_n (pc' := 45) dX4_readItem_44 rfl rfl ?_
      refine g_iload_n (pc' := 46) dX4_readItem_45 rfl rfl ?_
      refine g_iload_n (pc' := 47) dX4_readItem_46 rfl rfl ?_
      refine gcv2 (pc' := 50) cwX4_62 cf4 dX4_readItem_47 rfl l4 (Nat.le_of_ble_eq_true rfl) (Nat.le_of_ble_eq_true rfl) (Nat.le_of_ble_eq_true rfl) (Nat.le_of_ble_eq_true rfl) (Nat.le_of_ble_eq_true rfl) (kX4_readNumber (S := S) (x := x) (p := p) (lo := fLo f) (hi := fHi f) hR hx hp (by omega) (by omega) (by omega) ?_)
      rw [tNum, if_neg hn]
      refine gistore_n2 (pc' := 51) dX4_readItem_50 rfl (Nat.le_of_ble_eq_true rfl) rfl ?_
      refine g_aload_n (pc' := 52) dX4_readItem_51 rfl rfl ?_
      refine ggX4_33 (pc' := 55) rfl dX4_readItem_52 rfl l4 ?_
      rw [fI_at]
      refine g_iconst (pc' := 56) (v := (-1)) dX4_readItem_55 rfl rfl ?_
      refine g_icmp_ne dX4_readItem_56 (tg := 79) (pc' := 59) (by decide) rfl (fun h56 => ?_) (fun h56 => absurd h56 (nI_ne1 (by omega)))
      refine g_iconst (pc' := 80) (v := 0) dX4_readItem_79 rfl rfl ?_
      refine gistore4 (pc' := 82) dX4_readItem_80 rfl (Nat.le_of_ble_eq_true rfl) rfl ?_
      refine g_iload (pc' := 84) dX4_readItem_82 rfl rfl ?_
      refine g_if_eq dX4_readItem_84 (tg := 107) (pc' := 87) (by decide) rfl (fun h84 => ?_) (fun h84 => absurd (by decide) h84)
      refine g_iload_n (pc' := 108) dX4_readItem_107 rfl rfl ?_
      refine gistore_n3 (pc' := 109) dX4_readItem_108 rfl (Nat.le_of_ble_eq_true rfl) rfl ?_
      refine g_iconst (pc' := 110) (v := 1) dX4_readItem_109 rfl rfl ?_
      refine gistore5 (pc' := 112) dX4_readItem_110 rfl (Nat.le_of_ble_eq_true rfl) rfl ?_
      refine g_aload_n (pc' := 113) dX4_readItem_112 rfl rfl ?_
      refine ggX4_33 (pc' := 116) rfl dX4_readItem_113 rfl l4 ?_
      rw [fI_at]
      refine g_iconst (pc' := 117) (v := (-1)) dX4_readItem_116 rfl rfl ?_
      refine g_icmp_ne dX4_readItem_117 (tg := 160) (pc' := 120) (by decide) rfl (fun h117 => ?_) (fun h117 => absurd h117 (nI_ne1 (by omega)))
      refine g_aload_n (pc' := 161) dX4_readItem_160 rfl rfl ?_
      refine ggX4_33 (pc' := 164) rfl dX4_readItem_161 rfl l4 ?_
      rw [fI_at]
      refine g_iconst (pc' := 165) (v := (-1)) dX4_readItem_164 rfl rfl ?_
      refine g_icmp_ne dX4_readItem_165 (tg := 177) (pc' := 168) (by decide) rfl (fun h165 => ?_) (fun h165 => absurd h165 (nI_ne1 (by omega)))
      refine g_vret dX4_readItem_177 rfl (Nat.le_of_ble_eq_true rfl) (Nat.le_of_ble_eq_true rfl) ?_
      exact hQf _ _ it

