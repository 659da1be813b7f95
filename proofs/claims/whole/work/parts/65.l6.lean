/-! THE LAW (6): its body, the frame; the cases that don't throw -/
def LN : List gId := [(7, 0, 0), (8, 0, 0), (16, 0, 0), (4, 0, 0), (6, 0, 0), (10, 0, 0), (11, 0, 0), (0, 0, 0), (3, 0, 0), (13, 0, 0), (14, 0, 0)] ++ ((List.range 16).map (fun k => (20 + k, 0, 0)) ++ ((List.range 7).flatMap (fun j => [(2, j, 0), (1, j, 0), (12, j, 0), (15, j, 0)]) ++ (List.range 7).flatMap (fun j => (List.range 7).map (fun t => (5, j, t)))))
theorem LN_job {n : Nat} (hn : n < 7) : ∀ q ∈ [((2 : Nat), n, (0 : Nat)), (1, n, 0), (12, n, 0), (15, n, 0)], q ∈ LN := fun q hq =>
  List.mem_append_right _ (List.mem_append_right _ (List.mem_append_left _ (List.mem_flatMap.mpr ⟨n, List.mem_range.mpr hn, hq⟩)))
theorem LN_task {n t : Nat} (hn : n < 7) (ht : t < 7) : ∀ q ∈ [((5 : Nat), n, t)], q ∈ LN := fun q hq => by
  rw [List.mem_singleton] at hq
  subst hq
  exact List.mem_append_right _ (List.mem_append_right _ (List.mem_append_right _ (List.mem_flatMap.mpr ⟨n, List.mem_range.mpr hn, List.mem_map.mpr ⟨t, List.mem_range.mpr ht, rfl⟩⟩)))
def lwB (ad : gAd) : gB := ({ frames := 11, cells := 600096, slots := 7301386, locals := 416 }, 600096, 7301386, ad, LN, fun r _ => r = some (vI 1))
theorem g_drop {E : gE} {M : gM} {B : gB} {pc : Nat} {st : List gV} {S : gS} {cs sl : Nat} {a b c d e x y : Option gV} (h : gG E M B pc [a, b, c, d, e, none, none] st S cs sl) : gG E M B pc [a, b, c, d, e, x, y] st S cs sl := by
  intro p e0 s m args below meth c0 QS hC hE H locs ad lsr hl hS hR hA
  refine h p e0 s m args below meth c0 QS hC hE H locs ad lsr ⟨hl.1, hl.2.1, fun q hq => ?_⟩ hS hR hA
  obtain ⟨k, v, h1, rfl⟩ := (glo_mem _ 0 q).mp hq
  refine hl.2.2 _ ((glo_mem _ 0 _).mpr ⟨k, v, ?_, rfl⟩)
  match k, h1 with
  | 0, h1 => exact h1
  | 1, h1 => exact h1
  | 2, h1 => exact h1
  | 3, h1 => exact h1
  | 4, h1 => exact h1
  | 5, h1 => exact absurd h1 (by simp)
  | 6, h1 => exact absurd h1 (by simp)
  | n + 7, h1 => exact absurd h1 (by simp)
def WI (S : gS) (k : Nat) : Prop := WIc S k ∧ ModS S ∧ Rel S S ∧ lv S 16 0 0
theorem WI_end {S C1 S' T' : gS} {k : Nat} (h : WI S k) (hw : WIc C1 (k + 1) ∧ mP S C1) (hs : cP C1 S' ∧ mP C1 S') (hR : Rel C1 T') (hk : pK S' T') : WI T' (k + 1) := by
  have hc : cP C1 T' := hs.1.tr hk.cp
  have hm := hw.2.tr hs.2
  exact ⟨hw.1.cp hc, (h.2.1.mp hm).pk hk, hR.l hc, by unfold lv; rw [hk.1]; exact hm.1 _ h.2.2.2⟩
theorem aW_S {tb : List Nat} {r : Option gV} {C1 S' : gS} {code : Int32} (h : aW tb r C1 code S') : cP C1 S' ∧ mP C1 S' := by
  rcases h with ⟨x, -, -, rfl⟩ | ⟨n, i, -, -, -, -, rfl⟩
  · exact ⟨cP_saL, mP_saL⟩
  · exact ⟨cP.rf, mP.rf⟩
theorem aW0_S {tb : List Nat} {r : Option gV} {C1 S' : gS} {code : Int32} (h : aW0 tb r C1 code S') : cP C1 S' ∧ mP C1 S' := by
  rcases h with ⟨-, -, rfl⟩ | ⟨n, i, -, -, -, -, rfl⟩
  · exact ⟨cP.rf, mP.rf⟩
  · exact ⟨cP.rf, mP.rf⟩
theorem thr_inj {n m : Nat} (h : thr n = thr m) : n = m := by
  injection h with h
  injection h with h
  injection h with h h2
  injection h2 with h2
theorem tb_inj {tb : List Nat} (hn : tb.Nodup) {i j n : Nat} (h1 : tb[i]? = some n) (h2 : tb[j]? = some n) : i = j :=
  (List.getElem?_inj (List.getElem?_eq_some_iff.mp h1).1 hn).mp (h1.trans h2.symm)
theorem aWM {tb : List Nat} {r : Option gV} {C1 S' T' : gS} {code c v : Int32} (h : aW tb r C1 code S') (h2 : aM tb r c v) (hn : tb.Nodup) (hk : pK S' T') : c = code ∧ (code = 0 → aL T' 16 0 0 = v.toInt64) := by
  rcases h with ⟨x, h, rfl, rfl⟩ | ⟨n, i, h, hi, ht, rfl, rfl⟩
  · rcases h2 with ⟨x2, h3, rfl, rfl⟩ | ⟨n2, i2, h3, -⟩
    · rw [h] at h3
      injection h3 with h3
      injection h3 with h3
      injection h3 with h3
      subst h3
      refine ⟨rfl, fun _ => ?_⟩
      rw [hk.2.2.2.1, aL_saL, if_pos ⟨rfl, rfl, rfl⟩]
    · rw [h] at h3
      injection h3 with h3
      cases h3
  · rcases h2 with ⟨x2, h3, -⟩ | ⟨n2, i2, h3, h4, h5, rfl⟩
    · rw [h] at h3
      injection h3 with h3
      cases h3
    · have e := thr_inj (h.symm.trans h3)
      subst e
      have e := tb_inj hn ht h5
      subst e
      refine ⟨rfl, fun z => ?_⟩
      have z2 := congrArg Int32.toNatClampNeg z
      rw [nI_clamp (by omega)] at z2
      exact absurd z2 (Nat.succ_ne_zero i)
theorem aWM0 {tb : List Nat} {r : Option gV} {C1 S' : gS} {code c : Int32} (h : aW0 tb r C1 code S') (h2 : aM0 tb r c) (hn : tb.Nodup) : c = code := by
  rcases h with ⟨h, rfl, rfl⟩ | ⟨n, i, h, hi, ht, rfl, rfl⟩
  · rcases h2 with ⟨-, rfl⟩ | ⟨n2, i2, h3, -⟩
    · rfl
    · rw [h] at h3
      cases h3
  · rcases h2 with ⟨h3, -⟩ | ⟨n2, i2, h3, h4, h5, rfl⟩
    · rw [h] at h3
      cases h3
    · have e := thr_inj (h.symm.trans h3)
      subst e
      have e := tb_inj hn ht h5
      subst e
      rfl

set_option maxRecDepth 100000 in
set_option maxHeartbeats 2000000 in
theorem L_fault {E : gE} {ad : gAd} {S : gS} {k i cs sl : Nat} (h : WI S k) (hk : k ≤ 100) (hi : i + 5 ≤ eA E 11) (hL : eA E 11 ≤ 240) (hcs : cs + 5 ≤ 600096) (hsl : sl + 26 ≤ 7301386) (K : ∀ T' cs' sl', cs' ≤ cs + 5 → sl' ≤ sl + 26 → WI T' (k + 1) → gG E mL_law (lwB ad) 1017 [some (.inl (.ref (eA E 10))), some (vR 7 0 0), some (vR 8 0 0), some (vR 16 0 0), some (vI (nI i)), none, none] [] T' cs' sl') : gG E mL_law (lwB ad) 237 [some (.inl (.ref (eA E 10))), some (vR 7 0 0), some (vR 8 0 0), some (vR 16 0 0), some (vI (nI i)), none, none] [] S cs sl := by
  have l7 : lv S 7 0 0 := h.1.1.1.1
  have l8 : lv S 8 0 0 := h.2.1.1
  refine g_aload_n (pc' := 238) dL_law_237 rfl rfl ?_
  refine gcv0 (pc' := 241) cwL_75 cf7 dL_law_238 rfl l7 (Nat.le_of_ble_eq_true rfl) (Nat.le_of_ble_eq_true rfl) (Nat.le_of_ble_eq_true rfl) (by show _ ≤ 600096; omega) (by show _ ≤ 7301386; omega) (kX7_fault l7 ?_)
  refine g_aload_n (pc' := 242) dL_law_241 rfl rfl ?_
  refine gcv0 (pc' := 245) cwL_78 cf8 dL_law_242 rfl l8 (Nat.le_of_ble_eq_true rfl) (Nat.le_of_ble_eq_true rfl) (Nat.le_of_ble_eq_true rfl) (by show _ ≤ 600096; omega) (by show _ ≤ 7301386; omega) (kX8_fault h.2.1 h.2.2.1 (fun T' hR2 hk2 => ?_))
  have hWI := WI_end h (W_same h.1) ⟨cP.rf, mP.rf⟩ hR2 hk2
  refine g_icmp_eq dL_law_245 (tg := 1017) (pc' := 248) (by decide) rfl (fun h245 => ?_) (fun h245 => absurd rfl h245)
  exact g_drop (K _ _ _ (by omega) (by omega) hWI)


set_option maxRecDepth 100000 in
set_option maxHeartbeats 2000000 in
theorem L_now {E : gE} {ad : gAd} {S : gS} {k i cs sl : Nat} (h : WI S k) (hk : k ≤ 100) (hi : i + 5 ≤ eA E 11) (hL : eA E 11 ≤ 240) (hcs : cs + 5 ≤ 600096) (hsl : sl + 26 ≤ 7301386) (K : ∀ T' cs' sl', cs' ≤ cs + 5 → sl' ≤ sl + 26 → WI T' (k + 1) → gG E mL_law (lwB ad) 1017 [some (.inl (.ref (eA E 10))), some (vR 7 0 0), some (vR 8 0 0), some (vR 16 0 0), some (vI (nI i)), none, none] [] T' cs' sl') : gG E mL_law (lwB ad) 849 [some (.inl (.ref (eA E 10))), some (vR 7 0 0), some (vR 8 0 0), some (vR 16 0 0), some (vI (nI i)), none, none] [] S cs sl := by
  have l7 : lv S 7 0 0 := h.1.1.1.1
  have l8 : lv S 8 0 0 := h.2.1.1
  refine g_aload_n (pc' := 850) dL_law_849 rfl rfl ?_
  refine gcv0 (pc' := 853) cwL_117 cf7 dL_law_850 rfl l7 (Nat.le_of_ble_eq_true rfl) (Nat.le_of_ble_eq_true rfl) (Nat.le_of_ble_eq_true rfl) (by show _ ≤ 600096; omega) (by show _ ≤ 7301386; omega) (kX7_now l7 ?_)
  refine g_aload_n (pc' := 854) dL_law_853 rfl rfl ?_
  refine gcv0 (pc' := 857) cwL_120 cf8 dL_law_854 rfl l8 (Nat.le_of_ble_eq_true rfl) (Nat.le_of_ble_eq_true rfl) (Nat.le_of_ble_eq_true rfl) (by show _ ≤ 600096; omega) (by show _ ≤ 7301386; omega) (kX8_now h.2.1 h.2.2.1 (fun T' hR2 hk2 => ?_))
  have hWI := WI_end h (W_same h.1) ⟨cP.rf, mP.rf⟩ hR2 hk2
  refine g_icmp_eq dL_law_857 (tg := 1017) (pc' := 860) (by decide) rfl (fun h857 => ?_) (fun h857 => absurd rfl h857)
  exact g_drop (K _ _ _ (by omega) (by omega) hWI)


set_option maxRecDepth 100000 in
set_option maxHeartbeats 2000000 in
theorem L_entries {E : gE} {ad : gAd} {S : gS} {k i cs sl : Nat} (h : WI S k) (hk : k ≤ 100) (hi : i + 5 ≤ eA E 11) (hL : eA E 11 ≤ 240) (hcs : cs + 5 ≤ 600096) (hsl : sl + 26 ≤ 7301386) (K : ∀ T' cs' sl', cs' ≤ cs + 5 → sl' ≤ sl + 26 → WI T' (k + 1) → gG E mL_law (lwB ad) 1017 [some (.inl (.ref (eA E 10))), some (vR 7 0 0), some (vR 8 0 0), some (vR 16 0 0), some (vI (nI i)), none, none] [] T' cs' sl') : gG E mL_law (lwB ad) 936 [some (.inl (.ref (eA E 10))), some (vR 7 0 0), some (vR 8 0 0), some (vR 16 0 0), some (vI (nI i)), none, none] [] S cs sl := by
  have l7 : lv S 7 0 0 := h.1.1.1.1
  have l8 : lv S 8 0 0 := h.2.1.1
  refine g_aload_n (pc' := 937) dL_law_936 rfl rfl ?_
  refine gcv0 (pc' := 940) cwL_129 cf7 dL_law_937 rfl l7 (Nat.le_of_ble_eq_true rfl) (Nat.le_of_ble_eq_true rfl) (Nat.le_of_ble_eq_true rfl) (by show _ ≤ 600096; omega) (by show _ ≤ 7301386; omega) (kX7_entries h.1.1 ?_)
  refine g_aload_n (pc' := 941) dL_law_940 rfl rfl ?_
  refine gcv0 (pc' := 944) cwL_132 cf8 dL_law_941 rfl l8 (Nat.le_of_ble_eq_true rfl) (Nat.le_of_ble_eq_true rfl) (Nat.le_of_ble_eq_true rfl) (by show _ ≤ 600096; omega) (by show _ ≤ 7301386; omega) (kX8_entries h.2.1 h.2.2.1 (fun T' hR2 hk2 => ?_))
  have hWI := WI_end h (W_same h.1) ⟨cP.rf, mP.rf⟩ hR2 hk2
  refine g_icmp_eq dL_law_944 (tg := 1017) (pc' := 947) (by decide) rfl (fun h944 => ?_) (fun h944 => absurd rfl h944)
  exact g_drop (K _ _ _ (by omega) (by omega) hWI)


set_option maxRecDepth 100000 in
set_option maxHeartbeats 2000000 in
theorem L_state {E : gE} {ad : gAd} {S : gS} {k i cs sl : Nat} (h : WI S k) (hk : k ≤ 100) (hi : i + 5 ≤ eA E 11) (hL : eA E 11 ≤ 240) (hcs : cs + 5 ≤ 600096) (hsl : sl + 26 ≤ 7301386) (K : ∀ T' cs' sl', cs' ≤ cs + 5 → sl' ≤ sl + 26 → WI T' (k + 1) → gG E mL_law (lwB ad) 1017 [some (.inl (.ref (eA E 10))), some (vR 7 0 0), some (vR 8 0 0), some (vR 16 0 0), some (vI (nI i)), none, none] [] T' cs' sl') : gG E mL_law (lwB ad) 862 [some (.inl (.ref (eA E 10))), some (vR 7 0 0), some (vR 8 0 0), some (vR 16 0 0), some (vI (nI i)), none, none] [] S cs sl := by
  have l7 : lv S 7 0 0 := h.1.1.1.1
  have l8 : lv S 8 0 0 := h.2.1.1
  refine g_aload_n (pc' := 863) dL_law_862 rfl rfl ?_
  refine g_aload_raw (pc' := 864) dL_law_863 rfl rfl ?_
  refine g_iload (pc' := 866) dL_law_864 rfl rfl ?_
  refine g_iconst (pc' := 867) (v := 1) dL_law_866 rfl rfl ?_
  refine g_iadd (pc' := 868) dL_law_867 rfl ?_
  refine g_sld (pc' := 869) (n := i + 1) dL_law_868 rfl (nI_add _ 1) (by omega) (by omega) ?_
  refine g_aload_raw (pc' := 870) dL_law_869 rfl rfl ?_
  refine g_iload (pc' := 872) dL_law_870 rfl rfl ?_
  refine g_iconst (pc' := 873) (v := 2) dL_law_872 rfl rfl ?_
  refine g_iadd (pc' := 874) dL_law_873 rfl ?_
  refine g_sld (pc' := 875) (n := i + 2) dL_law_874 rfl (nI_add _ 2) (by omega) (by omega) ?_
  refine gcv2 (pc' := 878) cwL_121 cf7 dL_law_875 rfl l7 (Nat.le_of_ble_eq_true rfl) (Nat.le_of_ble_eq_true rfl) (Nat.le_of_ble_eq_true rfl) (by show _ ≤ 600096; omega) (by show _ ≤ 7301386; omega) (kX7_state h.1.1 ?_)
  refine g_aload_n (pc' := 879) dL_law_878 rfl rfl ?_
  refine g_aload_raw (pc' := 880) dL_law_879 rfl rfl ?_
  refine g_iload (pc' := 882) dL_law_880 rfl rfl ?_
  refine g_iconst (pc' := 883) (v := 1) dL_law_882 rfl rfl ?_
  refine g_iadd (pc' := 884) dL_law_883 rfl ?_
  refine g_sld (pc' := 885) (n := i + 1) dL_law_884 rfl (nI_add _ 1) (by omega) (by omega) ?_
  refine g_aload_raw (pc' := 886) dL_law_885 rfl rfl ?_
  refine g_iload (pc' := 888) dL_law_886 rfl rfl ?_
  refine g_iconst (pc' := 889) (v := 2) dL_law_888 rfl rfl ?_
  refine g_iadd (pc' := 890) dL_law_889 rfl ?_
  refine g_sld (pc' := 891) (n := i + 2) dL_law_890 rfl (nI_add _ 2) (by omega) (by omega) ?_
  refine gcv2 (pc' := 894) cwL_124 cf8 dL_law_891 rfl l8 (Nat.le_of_ble_eq_true rfl) (Nat.le_of_ble_eq_true rfl) (Nat.le_of_ble_eq_true rfl) (by show _ ≤ 600096; omega) (by show _ ≤ 7301386; omega) (kX8_state h.2.1 h.2.2.1 h.1.1 (fun T' hR2 hk2 => ?_))
  have hWI := WI_end h (W_same h.1) ⟨cP.rf, mP.rf⟩ hR2 hk2
  refine g_icmp_eq dL_law_894 (tg := 1017) (pc' := 897) (by decide) rfl (fun h894 => ?_) (fun h894 => absurd rfl h894)
  exact g_drop (K _ _ _ (by omega) (by omega) hWI)


set_option maxRecDepth 100000 in
set_option maxHeartbeats 2000000 in
theorem L_count {E : gE} {ad : gAd} {S : gS} {k i cs sl : Nat} (h : WI S k) (hk : k ≤ 100) (hi : i + 5 ≤ eA E 11) (hL : eA E 11 ≤ 240) (hcs : cs + 5 ≤ 600096) (hsl : sl + 26 ≤ 7301386) (K : ∀ T' cs' sl', cs' ≤ cs + 5 → sl' ≤ sl + 26 → WI T' (k + 1) → gG E mL_law (lwB ad) 1017 [some (.inl (.ref (eA E 10))), some (vR 7 0 0), some (vR 8 0 0), some (vR 16 0 0), some (vI (nI i)), none, none] [] T' cs' sl') : gG E mL_law (lwB ad) 899 [some (.inl (.ref (eA E 10))), some (vR 7 0 0), some (vR 8 0 0), some (vR 16 0 0), some (vI (nI i)), none, none] [] S cs sl := by
  have l7 : lv S 7 0 0 := h.1.1.1.1
  have l8 : lv S 8 0 0 := h.2.1.1
  refine g_aload_n (pc' := 900) dL_law_899 rfl rfl ?_
  refine g_aload_raw (pc' := 901) dL_law_900 rfl rfl ?_
  refine g_iload (pc' := 903) dL_law_901 rfl rfl ?_
  refine g_iconst (pc' := 904) (v := 1) dL_law_903 rfl rfl ?_
  refine g_iadd (pc' := 905) dL_law_904 rfl ?_
  refine g_sld (pc' := 906) (n := i + 1) dL_law_905 rfl (nI_add _ 1) (by omega) (by omega) ?_
  refine g_aload_raw (pc' := 907) dL_law_906 rfl rfl ?_
  refine g_iload (pc' := 909) dL_law_907 rfl rfl ?_
  refine g_iconst (pc' := 910) (v := 2) dL_law_909 rfl rfl ?_
  refine g_iadd (pc' := 911) dL_law_910 rfl ?_
  refine g_sld (pc' := 912) (n := i + 2) dL_law_911 rfl (nI_add _ 2) (by omega) (by omega) ?_
  refine gcv2 (pc' := 915) cwL_125 cf7 dL_law_912 rfl l7 (Nat.le_of_ble_eq_true rfl) (Nat.le_of_ble_eq_true rfl) (Nat.le_of_ble_eq_true rfl) (by show _ ≤ 600096; omega) (by show _ ≤ 7301386; omega) (kX7_count h.1.1 ?_)
  refine g_aload_n (pc' := 916) dL_law_915 rfl rfl ?_
  refine g_aload_raw (pc' := 917) dL_law_916 rfl rfl ?_
  refine g_iload (pc' := 919) dL_law_917 rfl rfl ?_
  refine g_iconst (pc' := 920) (v := 1) dL_law_919 rfl rfl ?_
  refine g_iadd (pc' := 921) dL_law_920 rfl ?_
  refine g_sld (pc' := 922) (n := i + 1) dL_law_921 rfl (nI_add _ 1) (by omega) (by omega) ?_
  refine g_aload_raw (pc' := 923) dL_law_922 rfl rfl ?_
  refine g_iload (pc' := 925) dL_law_923 rfl rfl ?_
  refine g_iconst (pc' := 926) (v := 2) dL_law_925 rfl rfl ?_
  refine g_iadd (pc' := 927) dL_law_926 rfl ?_
  refine g_sld (pc' := 928) (n := i + 2) dL_law_927 rfl (nI_add _ 2) (by omega) (by omega) ?_
  refine gcv2 (pc' := 931) cwL_128 cf8 dL_law_928 rfl l8 (Nat.le_of_ble_eq_true rfl) (Nat.le_of_ble_eq_true rfl) (Nat.le_of_ble_eq_true rfl) (by show _ ≤ 600096; omega) (by show _ ≤ 7301386; omega) (kX8_count h.2.1 h.2.2.1 (fun T' hR2 hk2 => ?_))
  have hWI := WI_end h (W_same h.1) ⟨cP.rf, mP.rf⟩ hR2 hk2
  refine g_icmp_eq dL_law_931 (tg := 1017) (pc' := 934) (by decide) rfl (fun h931 => ?_) (fun h931 => absurd rfl h931)
  exact g_drop (K _ _ _ (by omega) (by omega) hWI)


set_option maxRecDepth 100000 in
set_option maxHeartbeats 2000000 in
theorem L_erase {E : gE} {ad : gAd} {S : gS} {k i cs sl : Nat} (h : WI S k) (hk : k ≤ 100) (hi : i + 5 ≤ eA E 11) (hL : eA E 11 ≤ 240) (hcs : cs + 5 ≤ 600096) (hsl : sl + 26 ≤ 7301386) (K : ∀ T' cs' sl', cs' ≤ cs + 5 → sl' ≤ sl + 26 → WI T' (k + 1) → gG E mL_law (lwB ad) 1017 [some (.inl (.ref (eA E 10))), some (vR 7 0 0), some (vR 8 0 0), some (vR 16 0 0), some (vI (nI i)), none, none] [] T' cs' sl') : gG E mL_law (lwB ad) 250 [some (.inl (.ref (eA E 10))), some (vR 7 0 0), some (vR 8 0 0), some (vR 16 0 0), some (vI (nI i)), none, none] [] S cs sl := by
  have l7 : lv S 7 0 0 := h.1.1.1.1
  have l8 : lv S 8 0 0 := h.2.1.1
  refine g_aload_n (pc' := 251) dL_law_250 rfl rfl ?_
  refine gcv0 (pc' := 254) cwL_79 cf7 dL_law_251 rfl l7 (Nat.le_of_ble_eq_true rfl) (Nat.le_of_ble_eq_true rfl) (Nat.le_of_ble_eq_true rfl) (by show _ ≤ 600096; omega) (by show _ ≤ 7301386; omega) (kX7_erase h.1.1 ?_)
  have hw := W_erase h.1
  have hM1 := h.2.1.mp hw.2
  have hR1 := h.2.2.1.r hw.2
  have l8' := hM1.1
  refine g_aload_n (pc' := 255) dL_law_254 rfl rfl ?_
  refine gcv0 (pc' := 258) cwL_82 cf8 dL_law_255 rfl l8' (Nat.le_of_ble_eq_true rfl) (Nat.le_of_ble_eq_true rfl) (Nat.le_of_ble_eq_true rfl) (by show _ ≤ 600096; omega) (by show _ ≤ 7301386; omega) (kX8_erase hM1 hR1 (fun T' hR2 hk2 => ?_))
  have hWI := WI_end h hw ⟨cP.rf, mP.rf⟩ hR2 hk2
  refine g_goto dL_law_258 (pc' := 1017) (by decide) ?_
  exact g_drop (K _ _ _ (by omega) (by omega) hWI)


set_option maxRecDepth 100000 in
set_option maxHeartbeats 2000000 in
theorem L_slots {E : gE} {ad : gAd} {S : gS} {k i cs sl : Nat} (h : WI S k) (hk : k ≤ 100) (hi : i + 5 ≤ eA E 11) (hL : eA E 11 ≤ 240) (hcs : cs + 5 ≤ 600096) (hsl : sl + 26 ≤ 7301386) (K : ∀ T' cs' sl', cs' ≤ cs + 5 → sl' ≤ sl + 26 → WI T' (k + 1) → gG E mL_law (lwB ad) 1017 [some (.inl (.ref (eA E 10))), some (vR 7 0 0), some (vR 8 0 0), some (vR 16 0 0), some (vI (nI i)), none, none] [] T' cs' sl') : gG E mL_law (lwB ad) 353 [some (.inl (.ref (eA E 10))), some (vR 7 0 0), some (vR 8 0 0), some (vR 16 0 0), some (vI (nI i)), none, none] [] S cs sl := by
  have l7 : lv S 7 0 0 := h.1.1.1.1
  have l8 : lv S 8 0 0 := h.2.1.1
  refine g_aload_n (pc' := 354) dL_law_353 rfl rfl ?_
  refine g_aload_raw (pc' := 355) dL_law_354 rfl rfl ?_
  refine g_iload (pc' := 357) dL_law_355 rfl rfl ?_
  refine g_iconst (pc' := 358) (v := 1) dL_law_357 rfl rfl ?_
  refine g_iadd (pc' := 359) dL_law_358 rfl ?_
  refine g_sld (pc' := 360) (n := i + 1) dL_law_359 rfl (nI_add _ 1) (by omega) (by omega) ?_
  refine gcv1 (pc' := 363) cwL_87 cf7 dL_law_360 rfl l7 (Nat.le_of_ble_eq_true rfl) (Nat.le_of_ble_eq_true rfl) (Nat.le_of_ble_eq_true rfl) (by show _ ≤ 600096; omega) (by show _ ≤ 7301386; omega) (kX7_slots l7 ?_)
  have hw := W_slots (n := (nI (eA E (100 + (i + 1))))) h.1
  have hM1 := h.2.1.mp hw.2
  have hR1 := h.2.2.1.r hw.2
  have l8' := hM1.1
  refine g_aload_n (pc' := 364) dL_law_363 rfl rfl ?_
  refine g_aload_raw (pc' := 365) dL_law_364 rfl rfl ?_
  refine g_iload (pc' := 367) dL_law_365 rfl rfl ?_
  refine g_iconst (pc' := 368) (v := 1) dL_law_367 rfl rfl ?_
  refine g_iadd (pc' := 369) dL_law_368 rfl ?_
  refine g_sld (pc' := 370) (n := i + 1) dL_law_369 rfl (nI_add _ 1) (by omega) (by omega) ?_
  refine gcv1 (pc' := 373) cwL_91 cf8 dL_law_370 rfl l8' (Nat.le_of_ble_eq_true rfl) (Nat.le_of_ble_eq_true rfl) (Nat.le_of_ble_eq_true rfl) (by show _ ≤ 600096; omega) (by show _ ≤ 7301386; omega) (kX8_slots hM1 hR1 (fun T' hR2 hk2 => ?_))
  have hWI := WI_end h hw ⟨cP.rf, mP.rf⟩ hR2 hk2
  refine g_icmp_eq dL_law_373 (tg := 1017) (pc' := 376) (by decide) rfl (fun h373 => ?_) (fun h373 => absurd rfl h373)
  exact g_drop (K _ _ _ (by omega) (by omega) hWI)


set_option maxRecDepth 100000 in
set_option maxHeartbeats 2000000 in
theorem L_type {E : gE} {ad : gAd} {S : gS} {k i cs sl : Nat} (h : WI S k) (hk : k ≤ 100) (hi : i + 5 ≤ eA E 11) (hL : eA E 11 ≤ 240) (hcs : cs + 5 ≤ 600096) (hsl : sl + 26 ≤ 7301386) (K : ∀ T' cs' sl', cs' ≤ cs + 5 → sl' ≤ sl + 26 → WI T' (k + 1) → gG E mL_law (lwB ad) 1017 [some (.inl (.ref (eA E 10))), some (vR 7 0 0), some (vR 8 0 0), some (vR 16 0 0), some (vI (nI i)), none, none] [] T' cs' sl') : gG E mL_law (lwB ad) 124 [some (.inl (.ref (eA E 10))), some (vR 7 0 0), some (vR 8 0 0), some (vR 16 0 0), some (vI (nI i)), none, none] [] S cs sl := by
  have l7 : lv S 7 0 0 := h.1.1.1.1
  have l8 : lv S 8 0 0 := h.2.1.1
  obtain ⟨a, ha, ea⟩ := wb_of (((nI (eA E (100 + (i + 1)))).toInt64 <<< ((32 : Int32).toInt64 &&& 63)) ||| ((nI (eA E (100 + (i + 2)))).toInt64 &&& 4294967295))
  refine g_aload_n (pc' := 125) dL_law_124 rfl rfl ?_
  refine g_aload_raw (pc' := 126) dL_law_125 rfl rfl ?_
  refine g_iload (pc' := 128) dL_law_126 rfl rfl ?_
  refine g_iconst (pc' := 129) (v := 1) dL_law_128 rfl rfl ?_
  refine g_iadd (pc' := 130) dL_law_129 rfl ?_
  refine g_sld (pc' := 131) (n := i + 1) dL_law_130 rfl (nI_add _ 1) (by omega) (by omega) ?_
  refine g_i2l (pc' := 132) dL_law_131 rfl ?_
  refine g_bipush (pc' := 134) (v := 32) dL_law_132 rfl rfl ?_
  refine g_lshl (pc' := 135) dL_law_134 rfl ?_
  refine g_aload_raw (pc' := 136) dL_law_135 rfl rfl ?_
  refine g_iload (pc' := 138) dL_law_136 rfl rfl ?_
  refine g_iconst (pc' := 139) (v := 2) dL_law_138 rfl rfl ?_
  refine g_iadd (pc' := 140) dL_law_139 rfl ?_
  refine g_sld (pc' := 141) (n := i + 2) dL_law_140 rfl (nI_add _ 2) (by omega) (by omega) ?_
  refine g_i2l (pc' := 142) dL_law_141 rfl ?_
  refine g_ldc2 (pc' := 145) dL_law_142 rfl ckL_58 ?_
  refine g_land (pc' := 146) dL_law_145 rfl ?_
  refine g_lor (pc' := 147) dL_law_146 rfl ?_
  rw [ea]
  refine gcv1 (pc' := 150) cwL_60 cf7 dL_law_147 rfl l7 (Nat.le_of_ble_eq_true rfl) (Nat.le_of_ble_eq_true rfl) (Nat.le_of_ble_eq_true rfl) (by show _ ≤ 600096; omega) (by show _ ≤ 7301386; omega) (kX7_type h.1.1 h.1.2.1 ha ?_)
  have hw := W_type (a := a) h.1
  have hM1 := h.2.1.mp hw.2
  have hR1 := h.2.2.1.r hw.2
  have l8' := hM1.1
  refine g_aload_n (pc' := 151) dL_law_150 rfl rfl ?_
  refine g_aload_raw (pc' := 152) dL_law_151 rfl rfl ?_
  refine g_iload (pc' := 154) dL_law_152 rfl rfl ?_
  refine g_iconst (pc' := 155) (v := 1) dL_law_154 rfl rfl ?_
  refine g_iadd (pc' := 156) dL_law_155 rfl ?_
  refine g_sld (pc' := 157) (n := i + 1) dL_law_156 rfl (nI_add _ 1) (by omega) (by omega) ?_
  refine g_i2l (pc' := 158) dL_law_157 rfl ?_
  refine g_bipush (pc' := 160) (v := 32) dL_law_158 rfl rfl ?_
  refine g_lshl (pc' := 161) dL_law_160 rfl ?_
  refine g_aload_raw (pc' := 162) dL_law_161 rfl rfl ?_
  refine g_iload (pc' := 164) dL_law_162 rfl rfl ?_
  refine g_iconst (pc' := 165) (v := 2) dL_law_164 rfl rfl ?_
  refine g_iadd (pc' := 166) dL_law_165 rfl ?_
  refine g_sld (pc' := 167) (n := i + 2) dL_law_166 rfl (nI_add _ 2) (by omega) (by omega) ?_
  refine g_i2l (pc' := 168) dL_law_167 rfl ?_
  refine g_ldc2 (pc' := 171) dL_law_168 rfl ckL_58 ?_
  refine g_land (pc' := 172) dL_law_171 rfl ?_
  refine g_lor (pc' := 173) dL_law_172 rfl ?_
  rw [ea]
  refine gcv1 (pc' := 176) cwL_64 cf8 dL_law_173 rfl l8' (Nat.le_of_ble_eq_true rfl) (Nat.le_of_ble_eq_true rfl) (Nat.le_of_ble_eq_true rfl) (by show _ ≤ 600096; omega) (by show _ ≤ 7301386; omega) (kX8_type hM1 hR1 h.1.2.1 ha (fun T' hR2 hk2 => ?_))
  have hWI := WI_end h hw ⟨cP.rf, mP.rf⟩ hR2 hk2
  refine g_icmp_eq dL_law_176 (tg := 1017) (pc' := 179) (by decide) rfl (fun h176 => ?_) (fun h176 => absurd rfl h176)
  exact g_drop (K _ _ _ (by omega) (by omega) hWI)

