/-! ===== a Service is copied: the whole of it ===== -/
def zV_ok (v : Nat) : Prop := zm_ob v 6 ∧ zs_ok (v + 1) ∧ zw_ok (v + 7) ∧ zy_ly (v + 17) = (104, 30) ∧ zy_ly (v + 18) = (105, 4) ∧ v + 400 < zy_N + 40 ∧ zm_ob (v + 19) 4 ∧ zm_ar (v + 20) 0 8 ∧ zm_ar (v + 22) 0 10 ∧ zm_ar (v + 23) 0 8 ∧ zm_ar (v + 24) 0 8 ∧ (∀ i, i < 30 → zw_ok (v + 61 + 10 * i)) ∧ ∀ i, i < 4 → zl_ok (v + 25 + 9 * i)
theorem zV_16 : zV_ok 16 := ⟨⟨by decide, by decide +kernel⟩, ⟨⟨by decide, by decide +kernel⟩, fun j h1 h2 => by
  rcases (show j = 1 ∨ j = 2 ∨ j = 3 ∨ j = 4 ∨ j = 5 by omega) with rfl | rfl | rfl | rfl | rfl <;> exact ⟨by decide, by decide +kernel⟩⟩, zw_23, by decide +kernel, by decide +kernel, by decide, ⟨by decide, by decide +kernel⟩, ⟨by decide, by decide +kernel⟩, ⟨by decide, by decide +kernel⟩, ⟨by decide, by decide +kernel⟩, ⟨by decide, by decide +kernel⟩, fun i hi => zw_ok_of (zw_bef i hi).1, fun i hi => zl_now hi⟩
theorem zV_377 : zV_ok 377 := ⟨⟨by decide, by decide +kernel⟩, ⟨⟨by decide, by decide +kernel⟩, fun j h1 h2 => by
  rcases (show j = 1 ∨ j = 2 ∨ j = 3 ∨ j = 4 ∨ j = 5 by omega) with rfl | rfl | rfl | rfl | rfl <;> exact ⟨by decide, by decide +kernel⟩⟩, zw_384, by decide +kernel, by decide +kernel, by decide, ⟨by decide, by decide +kernel⟩, ⟨by decide, by decide +kernel⟩, ⟨by decide, by decide +kernel⟩, ⟨by decide, by decide +kernel⟩, ⟨by decide, by decide +kernel⟩, fun i hi => zw_ok_of (zw_bef i hi).2, fun i hi => zl_kept hi⟩
theorem zV_ao {v : Nat} (h : zV_ok v) (M : zm_M) (i : Nat) : zm_ao M (v + 17) i = .ref (v + 61 + 10 * i) := by
  unfold zm_ao
  rw [h.2.2.2.1]
  show Value.ref (v + 17 + 44 + 10 * i) = _
  congr 1
theorem zV_al {v : Nat} (h : zV_ok v) (M : zm_M) (i : Nat) : zm_ao M (v + 18) i = .ref (v + 25 + 9 * i) := by
  unfold zm_ao
  rw [h.2.2.2.2.1]
  show Value.ref (v + 18 + 7 + 9 * i) = _
  congr 1
theorem zV_aw {v : Nat} (h : zV_ok v) (x : Int32) : (∃ t n, zm_ar (v + 17) t n ∧ 4 ≤ t ∧ t < 7 ∧ vp_in x n) = vp_in x 30 := by
  have hl := h.2.2.2.1
  have hN := h.2.2.2.2.2.1
  refine propext ⟨?_, fun z => ⟨4, 30, ⟨by omega, hl⟩, by decide, by decide, z⟩⟩
  rintro ⟨t, n, z1, _, _, z2⟩
  have e : (100 + t, n) = (104, 30) := z1.2.symm.trans hl
  have : n = 30 := (Prod.mk.inj e).2
  rw [← this]; exact z2
theorem zV_ax {v : Nat} (h : zV_ok v) (x : Int32) : (∃ t n, zm_ar (v + 18) t n ∧ 4 ≤ t ∧ t < 7 ∧ vp_in x n) = vp_in x 4 := by
  have hl := h.2.2.2.2.1
  have hN := h.2.2.2.2.2.1
  refine propext ⟨?_, fun z => ⟨5, 4, ⟨by omega, hl⟩, by decide, by decide, z⟩⟩
  rintro ⟨t, n, z1, _, _, z2⟩
  have e : (100 + t, n) = (105, 4) := z1.2.symm.trans hl
  have : n = 4 := (Prod.mk.inj e).2
  rw [← this]; exact z2
/-- the cells of a Service that are copied -/
def zV_in (o j : Nat) : Prop := (o = 0 ∧ (j = 3 ∨ j = 4 ∨ j = 6 ∨ j = 7 ∨ j = 10)) ∨ ((o = 1 ∧ j = 0) ∨ (2 ≤ o ∧ o ≤ 6 ∧ j < 10)) ∨ zW_in 7 o j ∨ (∃ i, i < 30 ∧ zW_in (61 + 10 * i) o j) ∨ (∃ i, i < 4 ∧ zL_in (25 + 9 * i) o j) ∨ (o = 19 ∧ j = 0) ∨ (o = 20 ∧ j < 8) ∨ (o = 22 ∧ j < 10) ∨ (o = 23 ∧ j < 8) ∨ (o = 24 ∧ j < 8)
theorem c6_copy {E : zm_E} (hE : zm_ok E.2.2.1 E.2.2.2.2) (d : Nat) {v w : Nat} (hv : zV_ok v) (hw : zV_ok w) (hd : v + 361 ≤ w ∨ w + 361 ≤ v) {M : zm_M} {Q : Option Value → zm_M → Prop} (q : ∀ M', zY v w M M' zV_in → Q none M') : zm_R E (d + 2) mX6_copy [.ref v, .ref w] M Q := by
  refine zX6_copy hE rfl (fun G h0 h24 h51 h69 h95 => ?_)
  show G 0 [some (.ref v), some (.ref w), none] [] M
  have ov := eq_true hv.1
  have ow := eq_true hw.1
  have o9v := eq_true hv.2.2.2.2.2.2.1
  have o9w := eq_true hw.2.2.2.2.2.2.1
  have last : ∀ (M1 : zm_M) (P : Nat → Nat → Prop) (l2 : Option Value), zY v w M M1 P → (∀ o j, zV_in o j → P o j ∨ (o = 0 ∧ (j = 6 ∨ j = 7 ∨ j = 10)) ∨ (o = 19 ∧ j = 0) ∨ (o = 20 ∧ j < 8) ∨ (o = 22 ∧ j < 10) ∨ (o = 23 ∧ j < 8) ∨ (o = 24 ∧ j < 8)) → G 95 [some (.ref v), some (.ref w), l2] [] M1 := by
    intro M1 P l2 y1 hP
    refine h95 _ _ _ ?_
    have y2 := zY_cf hd (zY_cf hd y1 (off := 0) (k := 6) (by omega) rfl rfl) (off := 0) (k := 7) (by omega) rfl rfl
    simp only [bX6_copy_95, zw_0, zw_1, zs_aloadn0, zs_aloadNn0, zs_aloadn1, zs_aloadNn1, zg_6_42, zq_6_42, zg_6_45, zq_6_45, zg_6_51, zi_6_89, zg_6_55, zs_iconst, zs_arraylength, zi_6_92, zg_6_59, zq_6_59, zg_6_62, zs_bipush, zg_6_65, zs_return, zh_0, zh_1, zh_2, zh_3, zh_4, zt_i, zt_l, zt_r, zt_n, zn_int, zn_b0, zn_b1, zb_15, zb_16, zb_17, za_18, za_19, za_20, za_21, za_22, zb_23, za_24, za_25, za_26, za_27, za_28, za_29, za_30, za_31, za_32, zb_35, za_36, za_37, za_38, za_39, za_40, zb_377, zb_378, za_379, za_380, za_381, za_382, za_383, zb_384, za_385, za_386, za_387, za_388, za_389, za_390, za_391, za_392, za_393, zb_396, za_397, za_398, za_399, za_400, za_401, zb_738, za_739, za_740, za_741, za_742, za_743, za_744, za_745, za_746, za_747, zb_748, za_749, za_750, zb_751, zb_752, za_753, za_754, za_755, za_756, zb_757, za_758, za_759, za_760, zb_761, za_763, za_764, za_765, true_and, and_true, Nat.reduceAdd, ov, ow, o9v, o9w]
    refine c4_copy hE d o9v o9w hv.2.2.2.2.2.2.2.1 hw.2.2.2.2.2.2.2.1 ?_
    have c1 := eq_true (zw_cpok (n := 10) hw.2.2.2.2.2.2.2.2.1 hv.2.2.2.2.2.2.2.2.1 rfl (by decide))
    have c2 := eq_true (zw_cpok (n := 8) hw.2.2.2.2.2.2.2.2.2.1 hv.2.2.2.2.2.2.2.2.2.1 rfl (by decide))
    have c3 := eq_true (zw_cpok (n := 8) hw.2.2.2.2.2.2.2.2.2.2.1 hv.2.2.2.2.2.2.2.2.2.2.1 rfl (by decide))
    have e9 : zy_ly (v + 22) = (100, 10) := hv.2.2.2.2.2.2.2.2.1.2
    have l9 : (∃ t, t < 7 ∧ zm_ar (v + 22) t (zy_ly (v + 22)).2) = True := eq_true ⟨0, by decide, by rw [e9]; exact hv.2.2.2.2.2.2.2.2.1⟩
    have n9 : Int32.ofNat (zy_ly (v + 22)).2 = 10 := by rw [e9]; rfl
    have y3 : zY v w M (zY_cp (zw_cf (zw_cf M1 w v 6) w v 7) (v + 19) (w + 19)) _ := zY_ca hd (zY_cf hd y2 (off := 19) (k := 0) (by omega) rfl rfl) (off := 20) (n := 8) (by omega) rfl rfl
    have y4 := zY_ca hd (zY_ca hd (zY_cf hd (zY_ca hd y3 (off := 22) (n := 10) (by omega) rfl rfl) (off := 0) (k := 10) (by omega) rfl rfl) (off := 23) (n := 8) (by omega) rfl rfl) (off := 24) (n := 8) (by omega) rfl rfl
    simp only [bX6_copy_95, zw_0, zw_1, zs_aloadn0, zs_aloadNn0, zs_aloadn1, zs_aloadNn1, zg_6_42, zq_6_42, zg_6_45, zq_6_45, zg_6_51, zi_6_89, zg_6_55, zs_iconst, zs_arraylength, zi_6_92, zg_6_59, zq_6_59, zg_6_62, zs_bipush, zg_6_65, zs_return, zh_0, zh_1, zh_2, zh_3, zh_4, zt_i, zt_l, zt_r, zt_n, zn_int, zn_b0, zn_b1, zb_15, zb_16, zb_17, za_18, za_19, za_20, za_21, za_22, zb_23, za_24, za_25, za_26, za_27, za_28, za_29, za_30, za_31, za_32, zb_35, za_36, za_37, za_38, za_39, za_40, zb_377, zb_378, za_379, za_380, za_381, za_382, za_383, zb_384, za_385, za_386, za_387, za_388, za_389, za_390, za_391, za_392, za_393, zb_396, za_397, za_398, za_399, za_400, za_401, zb_738, za_739, za_740, za_741, za_742, za_743, za_744, za_745, za_746, za_747, zb_748, za_749, za_750, zb_751, zb_752, za_753, za_754, za_755, za_756, zb_757, za_758, za_759, za_760, zb_761, za_763, za_764, za_765, true_and, and_true, Nat.reduceAdd, ov, ow, l9, n9, c1, c2, c3]
    refine q _ (zY_mono y4 (fun o j hj => ?_))
    rcases hP o j hj with z | ⟨z1, z2 | z2 | z2⟩ | z | z | z | z | z
    · simp only [z, true_or]
    · simp only [z1, z2, true_or, or_true, true_and]
    · simp only [z1, z2, true_or, or_true, true_and]
    · simp only [z1, z2, true_or, or_true, true_and]
    · simp only [z, true_or, or_true, true_and]
    · simp only [z, true_or, or_true, true_and]
    · simp only [z, true_or, or_true, true_and]
    · simp only [z, true_or, or_true, true_and]
    · simp only [z, true_or, or_true, true_and]
  have l2 : ∀ (g i : Nat) (M1 : zm_M) (P : Nat → Nat → Prop), i + g = 4 → zY v w M M1 (fun o j => P o j ∨ ∃ k, k < i ∧ zL_in (25 + 9 * k) o j) → (∀ (M2 : zm_M) (l2 : Option Value), zY v w M M2 (fun o j => P o j ∨ ∃ k, k < 4 ∧ zL_in (25 + 9 * k) o j) → G 95 [some (.ref v), some (.ref w), l2] [] M2) → G 69 [some (.ref v), some (.ref w), some (.int (nI i))] [] M1 := by
    intro g
    induction g with
    | zero =>
      intro i M1 P hi y1 K
      obtain rfl : i = 4 := by omega
      refine h69 _ _ _ ?_
      simp only [bX6_copy_69, zw_0, zw_1, zs_iloadn2, zs_iconst, zs_icge, zs_aloadn0, zs_aloadNn0, zg_6_38, zs_aaload, zs_aloadn1, zs_aloadNn1, zi_6_86, zs_iinc2, zs_goto, zc_none, zc_int, zc_ref, zc_null, zc_long, zh_0, zh_1, zh_2, zh_3, zh_4, zt_i, zt_l, zt_r, zt_n, zb_15, zb_16, zb_17, za_18, za_19, za_20, za_21, za_22, zb_23, za_24, za_25, za_26, za_27, za_28, za_29, za_30, za_31, za_32, zb_35, za_36, za_37, za_38, za_39, za_40, zb_377, zb_378, za_379, za_380, za_381, za_382, za_383, zb_384, za_385, za_386, za_387, za_388, za_389, za_390, za_391, za_392, za_393, zb_396, za_397, za_398, za_399, za_400, za_401, zb_738, za_739, za_740, za_741, za_742, za_743, za_744, za_745, za_746, za_747, zb_748, za_749, za_750, zb_751, zb_752, za_753, za_754, za_755, za_756, zb_757, za_758, za_759, za_760, zb_761, za_763, za_764, za_765, true_and, and_true, Nat.reduceAdd]
      refine ⟨fun _ => K M1 _ y1, fun h => absurd (by decide) h⟩
    | succ g ih =>
      intro i M1 P hi y1 K
      have v1 : vp_in (nI i) 4 := vp_in_nI (by omega) (by decide)
      have v2 : (nI i).toNatClampNeg = i := nI_clamp (by omega)
      have oa := eq_true (hv.2.2.2.2.2.2.2.2.2.2.2.2 i (by omega)).2.1
      have ob := eq_true (hw.2.2.2.2.2.2.2.2.2.2.2.2 i (by omega)).2.1
      refine h69 _ _ _ ?_
      simp only [bX6_copy_69, zw_0, zw_1, zs_iloadn2, zs_iconst, zs_icge, zs_aloadn0, zs_aloadNn0, zg_6_38, zs_aaload, zs_aloadn1, zs_aloadNn1, zi_6_86, zs_iinc2, zs_goto, zc_none, zc_int, zc_ref, zc_null, zc_long, zh_0, zh_1, zh_2, zh_3, zh_4, zt_i, zt_l, zt_r, zt_n, zb_15, zb_16, zb_17, za_18, za_19, za_20, za_21, za_22, zb_23, za_24, za_25, za_26, za_27, za_28, za_29, za_30, za_31, za_32, zb_35, za_36, za_37, za_38, za_39, za_40, zb_377, zb_378, za_379, za_380, za_381, za_382, za_383, zb_384, za_385, za_386, za_387, za_388, za_389, za_390, za_391, za_392, za_393, zb_396, za_397, za_398, za_399, za_400, za_401, zb_738, za_739, za_740, za_741, za_742, za_743, za_744, za_745, za_746, za_747, zb_748, za_749, za_750, zb_751, zb_752, za_753, za_754, za_755, za_756, zb_757, za_758, za_759, za_760, zb_761, za_763, za_764, za_765, true_and, and_true, Nat.reduceAdd, ov, ow, zV_ax hv, zV_ax hw, zV_al hv, zV_al hw, v1, v2, oa, ob]
      refine ⟨fun h => absurd h (nI_ge (b := 4) (by omega) (by decide)), fun _ => ?_⟩
      refine c1_copy hE d (hv.2.2.2.2.2.2.2.2.2.2.2.2 i (by omega)) (hw.2.2.2.2.2.2.2.2.2.2.2.2 i (by omega)) ?_
      simp only [bX6_copy_69, zw_0, zw_1, zs_iloadn2, zs_iconst, zs_icge, zs_aloadn0, zs_aloadNn0, zg_6_38, zs_aaload, zs_aloadn1, zs_aloadNn1, zi_6_86, zs_iinc2, zs_goto, zc_none, zc_int, zc_ref, zc_null, zc_long, zh_0, zh_1, zh_2, zh_3, zh_4, zt_i, zt_l, zt_r, zt_n, zb_15, zb_16, zb_17, za_18, za_19, za_20, za_21, za_22, zb_23, za_24, za_25, za_26, za_27, za_28, za_29, za_30, za_31, za_32, zb_35, za_36, za_37, za_38, za_39, za_40, zb_377, zb_378, za_379, za_380, za_381, za_382, za_383, zb_384, za_385, za_386, za_387, za_388, za_389, za_390, za_391, za_392, za_393, zb_396, za_397, za_398, za_399, za_400, za_401, zb_738, za_739, za_740, za_741, za_742, za_743, za_744, za_745, za_746, za_747, zb_748, za_749, za_750, zb_751, zb_752, za_753, za_754, za_755, za_756, zb_757, za_758, za_759, za_760, zb_761, za_763, za_764, za_765, true_and, and_true, Nat.reduceAdd, nI_1]
      refine ih (i + 1) _ P (by omega) (zY_mono (zY_l hd y1 (off := 25 + 9 * i) (by omega) (by omega) (by omega)) (fun o j hj => ?_)) K
      rcases hj with z | ⟨k, hk, z⟩
      · exact Or.inl (Or.inl z)
      · by_cases c : k = i
        · subst c; exact Or.inr z
        · exact Or.inl (Or.inr ⟨k, by omega, z⟩)
  have l1 : ∀ (g i : Nat) (M1 : zm_M) (P : Nat → Nat → Prop), i + g = 30 → zY v w M M1 (fun o j => P o j ∨ ∃ k, k < i ∧ zW_in (61 + 10 * k) o j) → (∀ (M2 : zm_M) (l2 : Option Value), zY v w M M2 (fun o j => P o j ∨ ∃ k, k < 30 ∧ zW_in (61 + 10 * k) o j) → G 51 [some (.ref v), some (.ref w), l2] [] M2) → G 24 [some (.ref v), some (.ref w), some (.int (nI i))] [] M1 := by
    intro g
    induction g with
    | zero =>
      intro i M1 P hi y1 K
      obtain rfl : i = 30 := by omega
      refine h24 _ _ _ ?_
      simp only [bX6_copy_24, zw_0, zw_1, zs_iloadn2, zs_bipush, zs_icge, zs_aloadn0, zs_aloadNn0, zg_6_25, zs_aaload, zs_aloadn1, zs_aloadNn1, zi_6_69, zs_iinc2, zs_goto, zc_none, zc_int, zc_ref, zc_null, zc_long, zh_0, zh_1, zh_2, zh_3, zh_4, zt_i, zt_l, zt_r, zt_n, zb_15, zb_16, zb_17, za_18, za_19, za_20, za_21, za_22, zb_23, za_24, za_25, za_26, za_27, za_28, za_29, za_30, za_31, za_32, zb_35, za_36, za_37, za_38, za_39, za_40, zb_377, zb_378, za_379, za_380, za_381, za_382, za_383, zb_384, za_385, za_386, za_387, za_388, za_389, za_390, za_391, za_392, za_393, zb_396, za_397, za_398, za_399, za_400, za_401, zb_738, za_739, za_740, za_741, za_742, za_743, za_744, za_745, za_746, za_747, zb_748, za_749, za_750, zb_751, zb_752, za_753, za_754, za_755, za_756, zb_757, za_758, za_759, za_760, zb_761, za_763, za_764, za_765, true_and, and_true, Nat.reduceAdd]
      refine ⟨fun _ => K M1 _ y1, fun h => absurd (by decide) h⟩
    | succ g ih =>
      intro i M1 P hi y1 K
      have v1 : vp_in (nI i) 30 := vp_in_nI (by omega) (by decide)
      have v2 : (nI i).toNatClampNeg = i := nI_clamp (by omega)
      have oa := eq_true (hv.2.2.2.2.2.2.2.2.2.2.2.1 i (by omega)).1
      have ob := eq_true (hw.2.2.2.2.2.2.2.2.2.2.2.1 i (by omega)).1
      refine h24 _ _ _ ?_
      simp only [bX6_copy_24, zw_0, zw_1, zs_iloadn2, zs_bipush, zs_icge, zs_aloadn0, zs_aloadNn0, zg_6_25, zs_aaload, zs_aloadn1, zs_aloadNn1, zi_6_69, zs_iinc2, zs_goto, zc_none, zc_int, zc_ref, zc_null, zc_long, zh_0, zh_1, zh_2, zh_3, zh_4, zt_i, zt_l, zt_r, zt_n, zb_15, zb_16, zb_17, za_18, za_19, za_20, za_21, za_22, zb_23, za_24, za_25, za_26, za_27, za_28, za_29, za_30, za_31, za_32, zb_35, za_36, za_37, za_38, za_39, za_40, zb_377, zb_378, za_379, za_380, za_381, za_382, za_383, zb_384, za_385, za_386, za_387, za_388, za_389, za_390, za_391, za_392, za_393, zb_396, za_397, za_398, za_399, za_400, za_401, zb_738, za_739, za_740, za_741, za_742, za_743, za_744, za_745, za_746, za_747, zb_748, za_749, za_750, zb_751, zb_752, za_753, za_754, za_755, za_756, zb_757, za_758, za_759, za_760, zb_761, za_763, za_764, za_765, true_and, and_true, Nat.reduceAdd, ov, ow, zV_aw hv, zV_aw hw, zV_ao hv, zV_ao hw, v1, v2, oa, ob]
      refine ⟨fun h => absurd h (nI_ge (b := 30) (by omega) (by decide)), fun _ => ?_⟩
      refine c10_copy hE d (hv.2.2.2.2.2.2.2.2.2.2.2.1 i (by omega)) (hw.2.2.2.2.2.2.2.2.2.2.2.1 i (by omega)) ?_
      simp only [bX6_copy_24, zw_0, zw_1, zs_iloadn2, zs_bipush, zs_icge, zs_aloadn0, zs_aloadNn0, zg_6_25, zs_aaload, zs_aloadn1, zs_aloadNn1, zi_6_69, zs_iinc2, zs_goto, zc_none, zc_int, zc_ref, zc_null, zc_long, zh_0, zh_1, zh_2, zh_3, zh_4, zt_i, zt_l, zt_r, zt_n, zb_15, zb_16, zb_17, za_18, za_19, za_20, za_21, za_22, zb_23, za_24, za_25, za_26, za_27, za_28, za_29, za_30, za_31, za_32, zb_35, za_36, za_37, za_38, za_39, za_40, zb_377, zb_378, za_379, za_380, za_381, za_382, za_383, zb_384, za_385, za_386, za_387, za_388, za_389, za_390, za_391, za_392, za_393, zb_396, za_397, za_398, za_399, za_400, za_401, zb_738, za_739, za_740, za_741, za_742, za_743, za_744, za_745, za_746, za_747, zb_748, za_749, za_750, zb_751, zb_752, za_753, za_754, za_755, za_756, zb_757, za_758, za_759, za_760, zb_761, za_763, za_764, za_765, true_and, and_true, Nat.reduceAdd, nI_1]
      refine ih (i + 1) _ P (by omega) (zY_mono (zY_w hd y1 (off := 61 + 10 * i) (by omega) (by omega) (by omega)) (fun o j hj => ?_)) K
      rcases hj with z | ⟨k, hk, z⟩
      · exact Or.inl (Or.inl z)
      · by_cases c : k = i
        · subst c; exact Or.inr z
        · exact Or.inl (Or.inr ⟨k, by omega, z⟩)
  have o1v := eq_true hv.2.1.1
  have o1w := eq_true hw.2.1.1
  have o7v := eq_true hv.2.2.1.1
  have o7w := eq_true hw.2.2.1.1
  refine h0 _ _ _ ?_
  simp only [bX6_copy_0, zw_0, zw_1, zs_aloadn0, zs_aloadNn0, zg_6_12, zs_aloadn1, zs_aloadNn1, zi_6_83, zg_6_21, zi_6_69, zs_iconst, zs_istoren2, zc_none, zc_int, zc_ref, zc_null, zc_long, zh_0, zh_1, zh_2, zh_3, zh_4, zt_i, zt_l, zt_r, zt_n, zb_15, zb_16, zb_17, za_18, za_19, za_20, za_21, za_22, zb_23, za_24, za_25, za_26, za_27, za_28, za_29, za_30, za_31, za_32, zb_35, za_36, za_37, za_38, za_39, za_40, zb_377, zb_378, za_379, za_380, za_381, za_382, za_383, zb_384, za_385, za_386, za_387, za_388, za_389, za_390, za_391, za_392, za_393, zb_396, za_397, za_398, za_399, za_400, za_401, zb_738, za_739, za_740, za_741, za_742, za_743, za_744, za_745, za_746, za_747, zb_748, za_749, za_750, zb_751, zb_752, za_753, za_754, za_755, za_756, zb_757, za_758, za_759, za_760, zb_761, za_763, za_764, za_765, true_and, and_true, Nat.reduceAdd, ov, ow, o1v, o1w]
  refine c7_copy hE d hv.2.1 hw.2.1 ?_
  have y1 := zY_s hd (zY_refl (v := v) (w := w) (M := M)) rfl rfl
  generalize zY_cs M (v + 1) (w + 1) = M1 at y1
  simp only [bX6_copy_0, zw_0, zw_1, zs_aloadn0, zs_aloadNn0, zg_6_12, zs_aloadn1, zs_aloadNn1, zi_6_83, zg_6_21, zi_6_69, zs_iconst, zs_istoren2, zc_none, zc_int, zc_ref, zc_null, zc_long, zh_0, zh_1, zh_2, zh_3, zh_4, zt_i, zt_l, zt_r, zt_n, zb_15, zb_16, zb_17, za_18, za_19, za_20, za_21, za_22, zb_23, za_24, za_25, za_26, za_27, za_28, za_29, za_30, za_31, za_32, zb_35, za_36, za_37, za_38, za_39, za_40, zb_377, zb_378, za_379, za_380, za_381, za_382, za_383, zb_384, za_385, za_386, za_387, za_388, za_389, za_390, za_391, za_392, za_393, zb_396, za_397, za_398, za_399, za_400, za_401, zb_738, za_739, za_740, za_741, za_742, za_743, za_744, za_745, za_746, za_747, zb_748, za_749, za_750, zb_751, zb_752, za_753, za_754, za_755, za_756, zb_757, za_758, za_759, za_760, zb_761, za_763, za_764, za_765, true_and, and_true, Nat.reduceAdd, ov, ow, o7v, o7w]
  refine c10_copy hE d hv.2.2.1 hw.2.2.1 ?_
  have y2 := zY_w hd y1 (off := 7) (by omega) rfl rfl
  generalize zw_cp M1 (v + 7) (w + 7) = M2 at y2
  simp only [bX6_copy_0, zw_0, zw_1, zs_aloadn0, zs_aloadNn0, zg_6_12, zs_aloadn1, zs_aloadNn1, zi_6_83, zg_6_21, zi_6_69, zs_iconst, zs_istoren2, zc_none, zc_int, zc_ref, zc_null, zc_long, zh_0, zh_1, zh_2, zh_3, zh_4, zt_i, zt_l, zt_r, zt_n, zb_15, zb_16, zb_17, za_18, za_19, za_20, za_21, za_22, zb_23, za_24, za_25, za_26, za_27, za_28, za_29, za_30, za_31, za_32, zb_35, za_36, za_37, za_38, za_39, za_40, zb_377, zb_378, za_379, za_380, za_381, za_382, za_383, zb_384, za_385, za_386, za_387, za_388, za_389, za_390, za_391, za_392, za_393, zb_396, za_397, za_398, za_399, za_400, za_401, zb_738, za_739, za_740, za_741, za_742, za_743, za_744, za_745, za_746, za_747, zb_748, za_749, za_750, zb_751, zb_752, za_753, za_754, za_755, za_756, zb_757, za_758, za_759, za_760, zb_761, za_763, za_764, za_765, true_and, and_true, Nat.reduceAdd]
  refine l1 30 0 M2 _ (by omega) (zY_mono y2 (fun o j hj => hj.elim (fun z => z) (fun ⟨k, hk, _⟩ => absurd hk (by omega)))) (fun M3 l2' y3 => ?_)
  refine h51 _ _ _ ?_
  have y4 := zY_cf hd (zY_cf hd y3 (off := 0) (k := 3) (by omega) rfl rfl) (off := 0) (k := 4) (by omega) rfl rfl
  simp only [bX6_copy_51, zw_0, zw_1, zs_aloadn0, zs_aloadNn0, zs_aloadn1, zs_aloadNn1, zg_6_29, zq_6_29, zg_6_33, zq_6_33, zs_iconst, zs_istoren2, zc_none, zc_int, zc_ref, zc_null, zc_long, zb_15, zb_16, zb_17, za_18, za_19, za_20, za_21, za_22, zb_23, za_24, za_25, za_26, za_27, za_28, za_29, za_30, za_31, za_32, zb_35, za_36, za_37, za_38, za_39, za_40, zb_377, zb_378, za_379, za_380, za_381, za_382, za_383, zb_384, za_385, za_386, za_387, za_388, za_389, za_390, za_391, za_392, za_393, zb_396, za_397, za_398, za_399, za_400, za_401, zb_738, za_739, za_740, za_741, za_742, za_743, za_744, za_745, za_746, za_747, zb_748, za_749, za_750, zb_751, zb_752, za_753, za_754, za_755, za_756, zb_757, za_758, za_759, za_760, zb_761, za_763, za_764, za_765, true_and, and_true, Nat.reduceAdd, ov, ow]
  refine l2 4 0 _ _ (by omega) (zY_mono y4 (fun o j hj => hj.elim (fun z => z) (fun ⟨k, hk, _⟩ => absurd hk (by omega)))) (fun M5 l2' y5 => ?_)
  refine last M5 _ _ y5 (fun o j hj => ?_)
  rcases hj with ⟨z1, z2 | z2 | z2 | z2 | z2⟩ | z | z | z | z | z | z | z | z | z
  · simp only [z1, z2, true_or, or_true, true_and]
  · simp only [z1, z2, true_or, or_true, true_and]
  · simp only [z1, z2, true_or, or_true, true_and]
  · simp only [z1, z2, true_or, or_true, true_and]
  · simp only [z1, z2, true_or, or_true, true_and]
  · exact Or.inl (Or.inl (Or.inl (Or.inl (Or.inl (Or.inl (Or.inr z))))))
  · exact Or.inl (Or.inl (Or.inl (Or.inl (Or.inl (Or.inr z)))))
  · exact Or.inl (Or.inl (Or.inl (Or.inl (Or.inr z))))
  · exact Or.inl (Or.inr z)
  · exact Or.inr (Or.inr (Or.inl z))
  · exact Or.inr (Or.inr (Or.inr (Or.inl z)))
  · exact Or.inr (Or.inr (Or.inr (Or.inr (Or.inl z))))
  · exact Or.inr (Or.inr (Or.inr (Or.inr (Or.inr (Or.inl z)))))
  · exact Or.inr (Or.inr (Or.inr (Or.inr (Or.inr (Or.inr z)))))
