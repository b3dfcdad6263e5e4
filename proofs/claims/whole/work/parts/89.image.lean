/-! ===== image, back ===== -/
theorem c11_image {E : zm_E} (hE : zm_ok E.2.2.1 E.2.2.2.2) (d : Nat) {M : zm_M} {Q : Option Value → zm_M → Prop} (q : ∀ M', zY 377 16 M M' zV_in → Q (some (.int (M.1 23 0))) M') : zm_R E (d + 3) mX11_image [.ref 15] M Q := by
  refine zX11_image hE rfl (fun G h0 => ?_)
  show G 0 [some (.ref 15)] [] M
  refine h0 _ _ _ ?_
  simp only [bX11_image_0, zw_0, zw_1, zs_aloadn0, zs_aloadNn0, zg_11_16, zg_11_10, zi_11_380, zg_11_136, zg_11_167, zs_ireturn, zh_0, zh_1, zh_2, zh_3, zh_4, zt_i, zt_l, zt_r, zt_n, zn_int, zn_b0, zn_b1, zb_15, zb_16, zb_17, za_18, za_19, za_20, za_21, za_22, zb_23, za_24, za_25, za_26, za_27, za_28, za_29, za_30, za_31, za_32, zb_35, za_36, za_37, za_38, za_39, za_40, zb_377, zb_378, za_379, za_380, za_381, za_382, za_383, zb_384, za_385, za_386, za_387, za_388, za_389, za_390, za_391, za_392, za_393, zb_396, za_397, za_398, za_399, za_400, za_401, zb_738, za_739, za_740, za_741, za_742, za_743, za_744, za_745, za_746, za_747, zb_748, za_749, za_750, zb_751, zb_752, za_753, za_754, za_755, za_756, zb_757, za_758, za_759, za_760, zb_761, za_763, za_764, za_765, true_and, and_true, Nat.reduceAdd]
  refine c6_copy hE d zV_377 zV_16 (by omega) (fun M' y => ?_)
  have e : M'.1 23 0 = M.1 23 0 := by rw [y.1 23 (by omega)]
  simp only [bX11_image_0, zw_0, zw_1, zs_aloadn0, zs_aloadNn0, zg_11_16, zg_11_10, zi_11_380, zg_11_136, zg_11_167, zs_ireturn, zh_0, zh_1, zh_2, zh_3, zh_4, zt_i, zt_l, zt_r, zt_n, zn_int, zn_b0, zn_b1, zb_15, zb_16, zb_17, za_18, za_19, za_20, za_21, za_22, zb_23, za_24, za_25, za_26, za_27, za_28, za_29, za_30, za_31, za_32, zb_35, za_36, za_37, za_38, za_39, za_40, zb_377, zb_378, za_379, za_380, za_381, za_382, za_383, zb_384, za_385, za_386, za_387, za_388, za_389, za_390, za_391, za_392, za_393, zb_396, za_397, za_398, za_399, za_400, za_401, zb_738, za_739, za_740, za_741, za_742, za_743, za_744, za_745, za_746, za_747, zb_748, za_749, za_750, zb_751, zb_752, za_753, za_754, za_755, za_756, zb_757, za_758, za_759, za_760, zb_761, za_763, za_764, za_765, true_and, and_true, Nat.reduceAdd, e]
  exact q M' y
theorem c11_back {E : zm_E} (hE : zm_ok E.2.2.1 E.2.2.2.2) (d : Nat) {M : zm_M} {Q : Option Value → zm_M → Prop} (q : ∀ M', zY 16 377 M M' zV_in → Q (some (.int (M.1 384 0))) M') : zm_R E (d + 3) mX11_back [.ref 15] M Q := by
  refine zX11_back hE rfl (fun G h0 => ?_)
  show G 0 [some (.ref 15)] [] M
  refine h0 _ _ _ ?_
  simp only [bX11_back_0, zw_0, zw_1, zs_aloadn0, zs_aloadNn0, zg_11_10, zg_11_16, zi_11_380, zg_11_136, zg_11_167, zs_ireturn, zh_0, zh_1, zh_2, zh_3, zh_4, zt_i, zt_l, zt_r, zt_n, zn_int, zn_b0, zn_b1, zb_15, zb_16, zb_17, za_18, za_19, za_20, za_21, za_22, zb_23, za_24, za_25, za_26, za_27, za_28, za_29, za_30, za_31, za_32, zb_35, za_36, za_37, za_38, za_39, za_40, zb_377, zb_378, za_379, za_380, za_381, za_382, za_383, zb_384, za_385, za_386, za_387, za_388, za_389, za_390, za_391, za_392, za_393, zb_396, za_397, za_398, za_399, za_400, za_401, zb_738, za_739, za_740, za_741, za_742, za_743, za_744, za_745, za_746, za_747, zb_748, za_749, za_750, zb_751, zb_752, za_753, za_754, za_755, za_756, zb_757, za_758, za_759, za_760, zb_761, za_763, za_764, za_765, true_and, and_true, Nat.reduceAdd]
  refine c6_copy hE d zV_16 zV_377 (by omega) (fun M' y => ?_)
  have e : M'.1 23 0 = M.1 384 0 := y.2.2 7 0 (by omega) (Or.inr (Or.inr (Or.inl (Or.inl ⟨rfl, Or.inl rfl⟩))))
  simp only [bX11_back_0, zw_0, zw_1, zs_aloadn0, zs_aloadNn0, zg_11_10, zg_11_16, zi_11_380, zg_11_136, zg_11_167, zs_ireturn, zh_0, zh_1, zh_2, zh_3, zh_4, zt_i, zt_l, zt_r, zt_n, zn_int, zn_b0, zn_b1, zb_15, zb_16, zb_17, za_18, za_19, za_20, za_21, za_22, zb_23, za_24, za_25, za_26, za_27, za_28, za_29, za_30, za_31, za_32, zb_35, za_36, za_37, za_38, za_39, za_40, zb_377, zb_378, za_379, za_380, za_381, za_382, za_383, zb_384, za_385, za_386, za_387, za_388, za_389, za_390, za_391, za_392, za_393, zb_396, za_397, za_398, za_399, za_400, za_401, zb_738, za_739, za_740, za_741, za_742, za_743, za_744, za_745, za_746, za_747, zb_748, za_749, za_750, zb_751, zb_752, za_753, za_754, za_755, za_756, zb_757, za_758, za_759, za_760, zb_761, za_763, za_764, za_765, true_and, and_true, Nat.reduceAdd, e]
  exact q M' y
theorem c_copy {E : zm_E} (hE : zm_ok E.2.2.1 E.2.2.2.2) (d : Nat) {a b : Nat} (hab : (a = 1 ∧ b = 2) ∨ (a = 2 ∧ b = 1)) {M : zm_M} {Q : Option Value → zm_M → Prop} (q : ∀ M', (∀ j, j < 4544 → M'.1 b j = M.1 a j) → zf [b] M M' → Q none M') : zm_R E (d + 1) mX12_copy [.ref a, .ref b] M Q := by
  refine zX12_copy hE rfl (fun G h0 h2 h21 => ?_)
  show G 0 [some (.ref a), some (.ref b), none] [] M
  have loop : ∀ (g i : Nat) (M1 : zm_M), i + g = 4544 → (∀ j, j < i → M1.1 b j = M.1 a j) → zf [b] M M1 → G 2 [some (.ref a), some (.ref b), some (.int (nI i))] [] M1 := by
    intro g
    induction g with
    | zero =>
      intro i M1 hi e f1
      obtain rfl : i = 4544 := by omega
      refine h2 _ _ _ ?_
      simp only [bX12_copy_2, zw_0, zw_1, zs_iloadn2, zs_sipush, zs_icge, zs_aloadn1, zs_aloadNn1, zs_aloadn0, zs_aloadNn0, zs_iaload, zs_iastore, zs_iinc2, zs_goto, zc_none, zc_int, zc_ref, zc_null, zc_long, zb_0, za_1, za_2, za_3, za_4, za_5, za_6, za_7, za_8, za_9, za_10, za_11, za_12, za_13, za_14, zu_0, zu_1, zu_2, zu_3, zu_4, zu_5, zu_6, zu_7, zu_8, zu_9, zu_10, zu_11, zu_12, zu_13, zu_14, zu_15, zu_16, zu_17, zu_18, zu_19, zu_20, zu_21, zu_22, zu_23, zu_24, zu_25, zu_26, zu_27, zu_28, zu_29, zu_30, zu_90, zv_0_9, zv_1_9, zv_2_9, zv_3_9, zv_4_9, zv_5_9, zv_6_9, zv_7_9, zv_8_9, zv_0_330, zv_0_4544, zv_1_4544, zv_2_4544, zv_3_4544, zv_4_4544, zv_5_4544, zv_6_4544, zv_7_4544, zv_8_4544, zv_9_4544, zv_10_4544, zv_11_4544, zv_12_4544, zv_13_4544, zv_14_4544, zv_15_4544, zv_16_4544, zv_17_4544, zv_18_4544, zv_19_4544, zv_20_4544, zv_21_4544, zv_22_4544, zv_23_4544, zv_24_4544, zv_25_4544, zv_26_4544, zv_27_4544, zv_28_4544, zv_29_4544, zv_0_11, zv_1_11, zv_0_160, true_and, and_true, Nat.reduceAdd]
      refine ⟨fun _ => ?_, fun h => absurd (by decide) h⟩
      refine h21 _ _ _ ?_
      simp only [bX12_copy_21, zw_0, zw_1, zs_return, zn_int, zn_b0, zn_b1, zb_0, za_1, za_2, za_3, za_4, za_5, za_6, za_7, za_8, za_9, za_10, za_11, za_12, za_13, za_14, true_and, and_true, Nat.reduceAdd]
      exact q M1 e f1
    | succ g ih =>
      intro i M1 hi e f1
      have v1 : vp_in (nI i) 4544 := vp_in_nI (by omega) (by decide)
      have v2 : (nI i).toNatClampNeg = i := nI_clamp (by omega)
      have aa : M1.1 a i = M.1 a i := by rw [(f1 a (by simp; omega)).1]
      have A := za_of (p := a) (t := 0) (n := 4544) (by rcases hab with ⟨rfl, rfl⟩ | ⟨rfl, rfl⟩ <;> exact ⟨by decide, by decide +kernel⟩)
      have B := za_of (p := b) (t := 0) (n := 4544) (by rcases hab with ⟨rfl, rfl⟩ | ⟨rfl, rfl⟩ <;> exact ⟨by decide, by decide +kernel⟩)
      refine h2 _ _ _ ?_
      simp only [bX12_copy_2, zw_0, zw_1, zs_iloadn2, zs_sipush, zs_icge, zs_aloadn1, zs_aloadNn1, zs_aloadn0, zs_aloadNn0, zs_iaload, zs_iastore, zs_iinc2, zs_goto, zc_none, zc_int, zc_ref, zc_null, zc_long, zb_0, za_1, za_2, za_3, za_4, za_5, za_6, za_7, za_8, za_9, za_10, za_11, za_12, za_13, za_14, zu_0, zu_1, zu_2, zu_3, zu_4, zu_5, zu_6, zu_7, zu_8, zu_9, zu_10, zu_11, zu_12, zu_13, zu_14, zu_15, zu_16, zu_17, zu_18, zu_19, zu_20, zu_21, zu_22, zu_23, zu_24, zu_25, zu_26, zu_27, zu_28, zu_29, zu_30, zu_90, zv_0_9, zv_1_9, zv_2_9, zv_3_9, zv_4_9, zv_5_9, zv_6_9, zv_7_9, zv_8_9, zv_0_330, zv_0_4544, zv_1_4544, zv_2_4544, zv_3_4544, zv_4_4544, zv_5_4544, zv_6_4544, zv_7_4544, zv_8_4544, zv_9_4544, zv_10_4544, zv_11_4544, zv_12_4544, zv_13_4544, zv_14_4544, zv_15_4544, zv_16_4544, zv_17_4544, zv_18_4544, zv_19_4544, zv_20_4544, zv_21_4544, zv_22_4544, zv_23_4544, zv_24_4544, zv_25_4544, zv_26_4544, zv_27_4544, zv_28_4544, zv_29_4544, zv_0_11, zv_1_11, zv_0_160, true_and, and_true, Nat.reduceAdd, A, B, v1, v2, aa, nI_1]
      refine ⟨fun h => absurd h (nI_ge (b := 4544) (by omega) (by decide)), fun _ => ?_⟩
      refine ih (i + 1) _ (by omega) (fun j hj => ?_) (zf_wi f1 (by simp))
      rw [zm_wi_same]
      by_cases c : j = i
      · rw [if_pos c, c]
      · rw [if_neg c]; exact e j (by omega)
  refine h0 _ _ _ ?_
  simp only [bX12_copy_0, zw_0, zw_1, zs_iconst, zs_istoren2, zc_none, zc_int, zc_ref, zc_null, zc_long, zb_0, za_1, za_2, za_3, za_4, za_5, za_6, za_7, za_8, za_9, za_10, za_11, za_12, za_13, za_14, true_and, and_true, Nat.reduceAdd]
  exact loop 4544 0 M (by omega) (fun j hj => absurd hj (by omega)) zf_refl
theorem c_image {E : zm_E} (hE : zm_ok E.2.2.1 E.2.2.2.2) (d : Nat) {M : zm_M} {Q : Option Value → zm_M → Prop} (q : ∀ M', (∀ j, j < 4544 → M'.1 2 j = M.1 1 j) → zf [2] M M' → Q (some (.int (M.1 1 6))) M') : zm_R E (d + 2) mX12_image [.ref 0] M Q := by
  refine zX12_image hE rfl (fun G h0 => ?_)
  show G 0 [some (.ref 0)] [] M
  refine h0 _ _ _ ?_
  simp only [bX12_image_0, zw_0, zw_1, zs_aloadn0, zs_aloadNn0, zg_12_7, zg_12_13, zi_12_65, zs_bipush, zs_iaload, zs_ireturn, zh_0, zh_1, zh_2, zh_3, zh_4, zt_i, zt_l, zt_r, zt_n, zn_int, zn_b0, zn_b1, zb_0, za_1, za_2, za_3, za_4, za_5, za_6, za_7, za_8, za_9, za_10, za_11, za_12, za_13, za_14, zu_0, zu_1, zu_2, zu_3, zu_4, zu_5, zu_6, zu_7, zu_8, zu_9, zu_10, zu_11, zu_12, zu_13, zu_14, zu_15, zu_16, zu_17, zu_18, zu_19, zu_20, zu_21, zu_22, zu_23, zu_24, zu_25, zu_26, zu_27, zu_28, zu_29, zu_30, zu_90, zv_0_9, zv_1_9, zv_2_9, zv_3_9, zv_4_9, zv_5_9, zv_6_9, zv_7_9, zv_8_9, zv_0_330, zv_0_4544, zv_1_4544, zv_2_4544, zv_3_4544, zv_4_4544, zv_5_4544, zv_6_4544, zv_7_4544, zv_8_4544, zv_9_4544, zv_10_4544, zv_11_4544, zv_12_4544, zv_13_4544, zv_14_4544, zv_15_4544, zv_16_4544, zv_17_4544, zv_18_4544, zv_19_4544, zv_20_4544, zv_21_4544, zv_22_4544, zv_23_4544, zv_24_4544, zv_25_4544, zv_26_4544, zv_27_4544, zv_28_4544, zv_29_4544, zv_0_11, zv_1_11, zv_0_160, true_and, and_true, Nat.reduceAdd]
  refine c_copy hE d (Or.inl ⟨rfl, rfl⟩) (fun M' e f => ?_)
  have e6 : M'.1 1 6 = M.1 1 6 := by rw [(f 1 (by decide)).1]
  simp only [bX12_image_0, zw_0, zw_1, zs_aloadn0, zs_aloadNn0, zg_12_7, zg_12_13, zi_12_65, zs_bipush, zs_iaload, zs_ireturn, zh_0, zh_1, zh_2, zh_3, zh_4, zt_i, zt_l, zt_r, zt_n, zn_int, zn_b0, zn_b1, zb_0, za_1, za_2, za_3, za_4, za_5, za_6, za_7, za_8, za_9, za_10, za_11, za_12, za_13, za_14, zu_0, zu_1, zu_2, zu_3, zu_4, zu_5, zu_6, zu_7, zu_8, zu_9, zu_10, zu_11, zu_12, zu_13, zu_14, zu_15, zu_16, zu_17, zu_18, zu_19, zu_20, zu_21, zu_22, zu_23, zu_24, zu_25, zu_26, zu_27, zu_28, zu_29, zu_30, zu_90, zv_0_9, zv_1_9, zv_2_9, zv_3_9, zv_4_9, zv_5_9, zv_6_9, zv_7_9, zv_8_9, zv_0_330, zv_0_4544, zv_1_4544, zv_2_4544, zv_3_4544, zv_4_4544, zv_5_4544, zv_6_4544, zv_7_4544, zv_8_4544, zv_9_4544, zv_10_4544, zv_11_4544, zv_12_4544, zv_13_4544, zv_14_4544, zv_15_4544, zv_16_4544, zv_17_4544, zv_18_4544, zv_19_4544, zv_20_4544, zv_21_4544, zv_22_4544, zv_23_4544, zv_24_4544, zv_25_4544, zv_26_4544, zv_27_4544, zv_28_4544, zv_29_4544, zv_0_11, zv_1_11, zv_0_160, true_and, and_true, Nat.reduceAdd, e6]
  exact q M' e f
theorem c_back {E : zm_E} (hE : zm_ok E.2.2.1 E.2.2.2.2) (d : Nat) {M : zm_M} {Q : Option Value → zm_M → Prop} (q : ∀ M', (∀ j, j < 4544 → M'.1 1 j = M.1 2 j) → zf [1] M M' → Q (some (.int (M.1 2 6))) M') : zm_R E (d + 2) mX12_back [.ref 0] M Q := by
  refine zX12_back hE rfl (fun G h0 => ?_)
  show G 0 [some (.ref 0)] [] M
  refine h0 _ _ _ ?_
  simp only [bX12_back_0, zw_0, zw_1, zs_aloadn0, zs_aloadNn0, zg_12_13, zg_12_7, zi_12_65, zs_bipush, zs_iaload, zs_ireturn, zh_0, zh_1, zh_2, zh_3, zh_4, zt_i, zt_l, zt_r, zt_n, zn_int, zn_b0, zn_b1, zb_0, za_1, za_2, za_3, za_4, za_5, za_6, za_7, za_8, za_9, za_10, za_11, za_12, za_13, za_14, zu_0, zu_1, zu_2, zu_3, zu_4, zu_5, zu_6, zu_7, zu_8, zu_9, zu_10, zu_11, zu_12, zu_13, zu_14, zu_15, zu_16, zu_17, zu_18, zu_19, zu_20, zu_21, zu_22, zu_23, zu_24, zu_25, zu_26, zu_27, zu_28, zu_29, zu_30, zu_90, zv_0_9, zv_1_9, zv_2_9, zv_3_9, zv_4_9, zv_5_9, zv_6_9, zv_7_9, zv_8_9, zv_0_330, zv_0_4544, zv_1_4544, zv_2_4544, zv_3_4544, zv_4_4544, zv_5_4544, zv_6_4544, zv_7_4544, zv_8_4544, zv_9_4544, zv_10_4544, zv_11_4544, zv_12_4544, zv_13_4544, zv_14_4544, zv_15_4544, zv_16_4544, zv_17_4544, zv_18_4544, zv_19_4544, zv_20_4544, zv_21_4544, zv_22_4544, zv_23_4544, zv_24_4544, zv_25_4544, zv_26_4544, zv_27_4544, zv_28_4544, zv_29_4544, zv_0_11, zv_1_11, zv_0_160, true_and, and_true, Nat.reduceAdd]
  refine c_copy hE d (Or.inr ⟨rfl, rfl⟩) (fun M' e f => ?_)
  have e6 : M'.1 1 6 = M.1 2 6 := e 6 (by decide)
  simp only [bX12_back_0, zw_0, zw_1, zs_aloadn0, zs_aloadNn0, zg_12_13, zg_12_7, zi_12_65, zs_bipush, zs_iaload, zs_ireturn, zh_0, zh_1, zh_2, zh_3, zh_4, zt_i, zt_l, zt_r, zt_n, zn_int, zn_b0, zn_b1, zb_0, za_1, za_2, za_3, za_4, za_5, za_6, za_7, za_8, za_9, za_10, za_11, za_12, za_13, za_14, zu_0, zu_1, zu_2, zu_3, zu_4, zu_5, zu_6, zu_7, zu_8, zu_9, zu_10, zu_11, zu_12, zu_13, zu_14, zu_15, zu_16, zu_17, zu_18, zu_19, zu_20, zu_21, zu_22, zu_23, zu_24, zu_25, zu_26, zu_27, zu_28, zu_29, zu_30, zu_90, zv_0_9, zv_1_9, zv_2_9, zv_3_9, zv_4_9, zv_5_9, zv_6_9, zv_7_9, zv_8_9, zv_0_330, zv_0_4544, zv_1_4544, zv_2_4544, zv_3_4544, zv_4_4544, zv_5_4544, zv_6_4544, zv_7_4544, zv_8_4544, zv_9_4544, zv_10_4544, zv_11_4544, zv_12_4544, zv_13_4544, zv_14_4544, zv_15_4544, zv_16_4544, zv_17_4544, zv_18_4544, zv_19_4544, zv_20_4544, zv_21_4544, zv_22_4544, zv_23_4544, zv_24_4544, zv_25_4544, zv_26_4544, zv_27_4544, zv_28_4544, zv_29_4544, zv_0_11, zv_1_11, zv_0_160, true_and, and_true, Nat.reduceAdd, e6]
  exact q M' e f
