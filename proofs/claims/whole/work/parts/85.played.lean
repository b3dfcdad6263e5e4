/-! ===== a text is played ===== -/
/-- the numbers of a clause that count -/
def zy_a (kd a1 a2 a3 b1 b2 b3 : Int32) : Prop := ((kd = 3 ∨ kd = 4 ∨ kd = 5 ∨ kd = 6 ∨ kd = 7) → b1 = a1 ∧ b2 = a2) ∧ (kd = 5 → b3 = a3) ∧ (kd = 8 → b1 = a1 ∧ ∃ f, f ≤ 60 ∧ a1 = nI f)
def zl_cl (M : zm_M) (L nc : Nat) (kd a1 a2 a3 : Nat → Int32) : Prop := M.1 L 0 = nI nc ∧ nc ≤ 24 ∧ ∀ k, k < nc → M.1 (L + 1) k = kd k ∧ zy_a (kd k) (a1 k) (a2 k) (a3 k) (M.1 (L + 2) k) (M.1 (L + 3) k) (M.1 (L + 4) k)
def zl_cm (M : zm_M) (t nc : Nat) (kd a1 a2 a3 : Nat → Int32) : Prop := M.1 3 (705 * t) = nI nc ∧ nc ≤ 24 ∧ ∀ k, k < nc → M.1 3 (705 * t + 1 + 4 * k) = kd k ∧ zy_a (kd k) (a1 k) (a2 k) (a3 k) (M.1 3 (705 * t + 1 + 4 * k + 1)) (M.1 3 (705 * t + 1 + 4 * k + 2)) (M.1 3 (705 * t + 1 + 4 * k + 3))
theorem zy_cou_b (V : zO) (x y : Int32) : (zy_cou V x y).2 = zi_b (decide ((zy_cou V x y).2 = 1)) := by unfold zy_cou; split <;> rfl
theorem zy_awa_b (V : zO) (x y : Int32) : (zy_awa V x y).2 = zi_b (decide ((zy_awa V x y).2 = 1)) := by unfold zy_awa; split <;> rfl
theorem zy_sid_b (V : zO) (x y : Int32) : (zy_sid V x y).2 = zi_b (decide ((zy_sid V x y).2 = 1)) := by unfold zy_sid; split <;> rfl
theorem zy_off_n {T : Nat → Option zD} {V : zO} (hi : zOi T V) (x y : Int32) : ((zy_off V x y).2 < 0) = ((zy_off V x y).2 = -1) := by
  have h10 := hi.1.1.1
  unfold zy_off
  split
  · exact propext ⟨fun _ => rfl, fun _ => (by decide : (-1 : Int32) < 0)⟩
  · exact propext ⟨fun h => absurd h (nI_pos (by omega)), fun h => absurd h (zt_ne (by omega))⟩
theorem zy_wro_n {T : Nat → Option zD} {V : zO} (hi : zOi T V) (x y z : Int32) : ((zy_wro V x y z).2 < 0) = ((zy_wro V x y z).2 = -1) := by
  have h10 := hi.1.2.2.1.1.1
  unfold zy_wro
  split
  · exact propext ⟨fun _ => rfl, fun _ => (by decide : (-1 : Int32) < 0)⟩
  · exact propext ⟨fun h => absurd h (nI_pos (by omega)), fun h => absurd h (zt_ne (by omega))⟩
theorem c11_canPerform {E : zm_E} (hE : zm_ok E.2.2.1 E.2.2.2.2) (d : Nat) {tn L k : Nat} {T : Nat → Option zD} {V : zO} {M : zm_M} {kd a1 a2 a3 : Int32} (htn : tn ≤ 4) (hL : zl_ok L) (hk : k < 24) (hi : zOi T V) (hC : zOC tn T V M) (hkd : M.1 (L + 1) k = kd) (ha : zy_a kd a1 a2 a3 (M.1 (L + 2) k) (M.1 (L + 3) k) (M.1 (L + 4) k)) {Q : Option Value → zm_M → Prop} (q : ∀ M', zOC tn T (zy_do T kd a1 a2 a3 V).1 M' → zCp M M' → Q (some (.int (zi_b (zy_do T kd a1 a2 a3 V).2))) M') : zm_R E (d + 7) mX11_canPerform [.ref 15, .ref L, .int (nI k)] M Q := by
  refine zX11_canPerform hE rfl (fun G h0 h60 h75 h76 h77 h85 h106 h107 h108 h116 h124 h146 h147 h158 => ?_)
  show G 0 [some (.ref 15), some (.ref L), some (.int (nI k)), none, none, none] [] M
  have ol := eq_true hL.2.1
  have A1 := za_of (hL.2.2.1 1 (by omega) (by omega))
  have A2 := za_of (hL.2.2.1 2 (by omega) (by omega))
  have A3 := za_of (hL.2.2.1 3 (by omega) (by omega))
  have A4 := za_of (hL.2.2.1 4 (by omega) (by omega))
  have v1 : vp_in (nI k) 24 := vp_in_nI (by omega) (by decide)
  have v2 : (nI k).toNatClampNeg = k := nI_clamp (by omega)
  generalize hb1 : M.1 (L + 2) k = b1 at ha
  generalize hb2 : M.1 (L + 3) k = b2 at ha
  generalize hb3 : M.1 (L + 4) k = b3 at ha
  unfold zy_do at q
  refine h0 _ _ _ ?_
  simp only [bX11_canPerform_0, zw_0, zw_1, zs_aloadn1, zs_aloadNn1, zg_11_191, zs_iloadn2, zs_iaload, zs_istoren3, zg_11_194, zs_istore4, zg_11_197, zs_tsw, zm_sw, zc_none, zc_int, zc_ref, zc_null, zc_long, zb_15, zb_16, zb_17, za_18, za_19, za_20, za_21, za_22, zb_23, za_24, za_25, za_26, za_27, za_28, za_29, za_30, za_31, za_32, zb_35, za_36, za_37, za_38, za_39, za_40, zb_377, zb_378, za_379, za_380, za_381, za_382, za_383, zb_384, za_385, za_386, za_387, za_388, za_389, za_390, za_391, za_392, za_393, zb_396, za_397, za_398, za_399, za_400, za_401, zb_738, za_739, za_740, za_741, za_742, za_743, za_744, za_745, za_746, za_747, zb_748, za_749, za_750, zb_751, zb_752, za_753, za_754, za_755, za_756, zb_757, za_758, za_759, za_760, zb_761, za_763, za_764, za_765, zu_0, zu_1, zu_2, zu_3, zu_4, zu_5, zu_6, zu_7, zu_8, zu_9, zu_10, zu_11, zu_12, zu_13, zu_14, zu_15, zu_16, zu_17, zu_18, zu_19, zu_20, zu_21, zu_22, zu_23, zu_24, zu_25, zu_26, zu_27, zu_28, zu_29, zu_30, zu_90, zv_0_9, zv_1_9, zv_2_9, zv_3_9, zv_4_9, zv_5_9, zv_6_9, zv_7_9, zv_8_9, zv_0_330, zv_0_4544, zv_1_4544, zv_2_4544, zv_3_4544, zv_4_4544, zv_5_4544, zv_6_4544, zv_7_4544, zv_8_4544, zv_9_4544, zv_10_4544, zv_11_4544, zv_12_4544, zv_13_4544, zv_14_4544, zv_15_4544, zv_16_4544, zv_17_4544, zv_18_4544, zv_19_4544, zv_20_4544, zv_21_4544, zv_22_4544, zv_23_4544, zv_24_4544, zv_25_4544, zv_26_4544, zv_27_4544, zv_28_4544, zv_29_4544, zv_0_11, zv_1_11, zv_0_160, true_and, and_true, Nat.reduceAdd, ol, A1, A2, A3, v1, v2, hkd, hb1, hb2]
  refine ⟨fun h => ?_, fun n3 => ⟨fun h => ?_, fun n4 => ⟨fun h => ?_, fun n5 => ⟨fun h => ?_, fun n6 => ⟨fun h => ?_, fun n7 => ⟨fun h => ?_, fun n8 => ?_⟩⟩⟩⟩⟩⟩
  · rw [if_pos h] at q
    obtain ⟨rfl, rfl⟩ := ha.1 (Or.inl h)
    refine h60 _ _ _ ?_
    simp only [bX11_canPerform_60, zw_0, zw_1, zs_aloadn0, zs_aloadNn0, zs_iload4, zs_iloadn3, zi_11_200, zs_iconst, zs_iceq, zs_goto, zh_0, zh_1, zh_2, zh_3, zh_4, zt_i, zt_l, zt_r, zt_n, zb_15, zb_16, zb_17, za_18, za_19, za_20, za_21, za_22, zb_23, za_24, za_25, za_26, za_27, za_28, za_29, za_30, za_31, za_32, zb_35, za_36, za_37, za_38, za_39, za_40, zb_377, zb_378, za_379, za_380, za_381, za_382, za_383, zb_384, za_385, za_386, za_387, za_388, za_389, za_390, za_391, za_392, za_393, zb_396, za_397, za_398, za_399, za_400, za_401, zb_738, za_739, za_740, za_741, za_742, za_743, za_744, za_745, za_746, za_747, zb_748, za_749, za_750, zb_751, zb_752, za_753, za_754, za_755, za_756, zb_757, za_758, za_759, za_760, zb_761, za_763, za_764, za_765, true_and, and_true, Nat.reduceAdd]
    refine zO11_officer hE (d + 3) b2 b1 hi hC (fun M' c' f' => ?_)
    have q := q M' c' f'
    simp only [bX11_canPerform_60, zw_0, zw_1, zs_aloadn0, zs_aloadNn0, zs_iload4, zs_iloadn3, zi_11_200, zs_iconst, zs_iceq, zs_goto, zh_0, zh_1, zh_2, zh_3, zh_4, zt_i, zt_l, zt_r, zt_n, zb_15, zb_16, zb_17, za_18, za_19, za_20, za_21, za_22, zb_23, za_24, za_25, za_26, za_27, za_28, za_29, za_30, za_31, za_32, zb_35, za_36, za_37, za_38, za_39, za_40, zb_377, zb_378, za_379, za_380, za_381, za_382, za_383, zb_384, za_385, za_386, za_387, za_388, za_389, za_390, za_391, za_392, za_393, zb_396, za_397, za_398, za_399, za_400, za_401, zb_738, za_739, za_740, za_741, za_742, za_743, za_744, za_745, za_746, za_747, zb_748, za_749, za_750, zb_751, zb_752, za_753, za_754, za_755, za_756, zb_757, za_758, za_759, za_760, zb_761, za_763, za_764, za_765, true_and, and_true, Nat.reduceAdd]
    refine ⟨fun e => ?_, fun e => ?_⟩
    · rw [e, show decide (¬ (-1 : Int32) = -1) = false from rfl] at q
      refine h75 _ _ _ ?_
      simp only [bX11_canPerform_75, zw_0, zw_1, zs_iconst, zb_15, zb_16, zb_17, za_18, za_19, za_20, za_21, za_22, zb_23, za_24, za_25, za_26, za_27, za_28, za_29, za_30, za_31, za_32, zb_35, za_36, za_37, za_38, za_39, za_40, zb_377, zb_378, za_379, za_380, za_381, za_382, za_383, zb_384, za_385, za_386, za_387, za_388, za_389, za_390, za_391, za_392, za_393, zb_396, za_397, za_398, za_399, za_400, za_401, zb_738, za_739, za_740, za_741, za_742, za_743, za_744, za_745, za_746, za_747, zb_748, za_749, za_750, zb_751, zb_752, za_753, za_754, za_755, za_756, zb_757, za_758, za_759, za_760, zb_761, za_763, za_764, za_765, true_and, and_true, Nat.reduceAdd]
      refine h76 _ _ _ ?_
      simp only [bX11_canPerform_76, zw_0, zw_1, zs_ireturn, zn_int, zn_b0, zn_b1, zb_15, zb_16, zb_17, za_18, za_19, za_20, za_21, za_22, zb_23, za_24, za_25, za_26, za_27, za_28, za_29, za_30, za_31, za_32, zb_35, za_36, za_37, za_38, za_39, za_40, zb_377, zb_378, za_379, za_380, za_381, za_382, za_383, zb_384, za_385, za_386, za_387, za_388, za_389, za_390, za_391, za_392, za_393, zb_396, za_397, za_398, za_399, za_400, za_401, zb_738, za_739, za_740, za_741, za_742, za_743, za_744, za_745, za_746, za_747, zb_748, za_749, za_750, zb_751, zb_752, za_753, za_754, za_755, za_756, zb_757, za_758, za_759, za_760, zb_761, za_763, za_764, za_765, true_and, and_true, Nat.reduceAdd]
      exact q
    · rw [decide_eq_true e] at q
      refine h76 _ _ _ ?_
      simp only [bX11_canPerform_76, zw_0, zw_1, zs_ireturn, zn_int, zn_b0, zn_b1, zb_15, zb_16, zb_17, za_18, za_19, za_20, za_21, za_22, zb_23, za_24, za_25, za_26, za_27, za_28, za_29, za_30, za_31, za_32, zb_35, za_36, za_37, za_38, za_39, za_40, zb_377, zb_378, za_379, za_380, za_381, za_382, za_383, zb_384, za_385, za_386, za_387, za_388, za_389, za_390, za_391, za_392, za_393, zb_396, za_397, za_398, za_399, za_400, za_401, zb_738, za_739, za_740, za_741, za_742, za_743, za_744, za_745, za_746, za_747, zb_748, za_749, za_750, zb_751, zb_752, za_753, za_754, za_755, za_756, zb_757, za_758, za_759, za_760, zb_761, za_763, za_764, za_765, true_and, and_true, Nat.reduceAdd]
      exact q
  · rw [if_neg n3, if_pos h] at q
    obtain ⟨rfl, rfl⟩ := ha.1 (Or.inr (Or.inl h))
    refine h77 _ _ _ ?_
    simp only [bX11_canPerform_77, zw_0, zw_1, zs_aloadn0, zs_aloadNn0, zs_iloadn3, zs_iload4, zi_11_203, zs_ireturn, zh_0, zh_1, zh_2, zh_3, zh_4, zt_i, zt_l, zt_r, zt_n, zn_int, zn_b0, zn_b1, zb_15, zb_16, zb_17, za_18, za_19, za_20, za_21, za_22, zb_23, za_24, za_25, za_26, za_27, za_28, za_29, za_30, za_31, za_32, zb_35, za_36, za_37, za_38, za_39, za_40, zb_377, zb_378, za_379, za_380, za_381, za_382, za_383, zb_384, za_385, za_386, za_387, za_388, za_389, za_390, za_391, za_392, za_393, zb_396, za_397, za_398, za_399, za_400, za_401, zb_738, za_739, za_740, za_741, za_742, za_743, za_744, za_745, za_746, za_747, zb_748, za_749, za_750, zb_751, zb_752, za_753, za_754, za_755, za_756, zb_757, za_758, za_759, za_760, zb_761, za_763, za_764, za_765, true_and, and_true, Nat.reduceAdd]
    refine zO11_cousin hE (d + 4) b1 b2 hi hC (fun M' c' f' => ?_)
    have q := q M' c' f'
    rw [zy_cou_b]
    simp only [bX11_canPerform_77, zw_0, zw_1, zs_aloadn0, zs_aloadNn0, zs_iloadn3, zs_iload4, zi_11_203, zs_ireturn, zh_0, zh_1, zh_2, zh_3, zh_4, zt_i, zt_l, zt_r, zt_n, zn_int, zn_b0, zn_b1, zb_15, zb_16, zb_17, za_18, za_19, za_20, za_21, za_22, zb_23, za_24, za_25, za_26, za_27, za_28, za_29, za_30, za_31, za_32, zb_35, za_36, za_37, za_38, za_39, za_40, zb_377, zb_378, za_379, za_380, za_381, za_382, za_383, zb_384, za_385, za_386, za_387, za_388, za_389, za_390, za_391, za_392, za_393, zb_396, za_397, za_398, za_399, za_400, za_401, zb_738, za_739, za_740, za_741, za_742, za_743, za_744, za_745, za_746, za_747, zb_748, za_749, za_750, zb_751, zb_752, za_753, za_754, za_755, za_756, zb_757, za_758, za_759, za_760, zb_761, za_763, za_764, za_765, true_and, and_true, Nat.reduceAdd]
    exact ⟨of_eq_true zi_b_b, q⟩
  · rw [if_neg n3, if_neg n4, if_pos h] at q
    obtain ⟨rfl, rfl⟩ := ha.1 (Or.inr (Or.inr (Or.inl h)))
    obtain rfl := ha.2.1 h
    refine h85 _ _ _ ?_
    simp only [bX11_canPerform_85, zw_0, zw_1, zs_aloadn0, zs_aloadNn0, zs_iloadn3, zs_iload4, zs_aloadn1, zs_aloadNn1, zg_11_206, zs_iloadn2, zs_iaload, zi_11_209, zs_iconst, zs_iceq, zs_goto, zh_0, zh_1, zh_2, zh_3, zh_4, zt_i, zt_l, zt_r, zt_n, zb_15, zb_16, zb_17, za_18, za_19, za_20, za_21, za_22, zb_23, za_24, za_25, za_26, za_27, za_28, za_29, za_30, za_31, za_32, zb_35, za_36, za_37, za_38, za_39, za_40, zb_377, zb_378, za_379, za_380, za_381, za_382, za_383, zb_384, za_385, za_386, za_387, za_388, za_389, za_390, za_391, za_392, za_393, zb_396, za_397, za_398, za_399, za_400, za_401, zb_738, za_739, za_740, za_741, za_742, za_743, za_744, za_745, za_746, za_747, zb_748, za_749, za_750, zb_751, zb_752, za_753, za_754, za_755, za_756, zb_757, za_758, za_759, za_760, zb_761, za_763, za_764, za_765, zu_0, zu_1, zu_2, zu_3, zu_4, zu_5, zu_6, zu_7, zu_8, zu_9, zu_10, zu_11, zu_12, zu_13, zu_14, zu_15, zu_16, zu_17, zu_18, zu_19, zu_20, zu_21, zu_22, zu_23, zu_24, zu_25, zu_26, zu_27, zu_28, zu_29, zu_30, zu_90, zv_0_9, zv_1_9, zv_2_9, zv_3_9, zv_4_9, zv_5_9, zv_6_9, zv_7_9, zv_8_9, zv_0_330, zv_0_4544, zv_1_4544, zv_2_4544, zv_3_4544, zv_4_4544, zv_5_4544, zv_6_4544, zv_7_4544, zv_8_4544, zv_9_4544, zv_10_4544, zv_11_4544, zv_12_4544, zv_13_4544, zv_14_4544, zv_15_4544, zv_16_4544, zv_17_4544, zv_18_4544, zv_19_4544, zv_20_4544, zv_21_4544, zv_22_4544, zv_23_4544, zv_24_4544, zv_25_4544, zv_26_4544, zv_27_4544, zv_28_4544, zv_29_4544, zv_0_11, zv_1_11, zv_0_160, true_and, and_true, Nat.reduceAdd, ol, A4, v1, v2, hb3]
    refine zO11_wrong hE (d + 2) b1 b2 b3 hi hC (fun M' c' f' => ?_)
    have q := q M' c' f'
    simp only [bX11_canPerform_85, zw_0, zw_1, zs_aloadn0, zs_aloadNn0, zs_iloadn3, zs_iload4, zs_aloadn1, zs_aloadNn1, zg_11_206, zs_iloadn2, zs_iaload, zi_11_209, zs_iconst, zs_iceq, zs_goto, zh_0, zh_1, zh_2, zh_3, zh_4, zt_i, zt_l, zt_r, zt_n, zb_15, zb_16, zb_17, za_18, za_19, za_20, za_21, za_22, zb_23, za_24, za_25, za_26, za_27, za_28, za_29, za_30, za_31, za_32, zb_35, za_36, za_37, za_38, za_39, za_40, zb_377, zb_378, za_379, za_380, za_381, za_382, za_383, zb_384, za_385, za_386, za_387, za_388, za_389, za_390, za_391, za_392, za_393, zb_396, za_397, za_398, za_399, za_400, za_401, zb_738, za_739, za_740, za_741, za_742, za_743, za_744, za_745, za_746, za_747, zb_748, za_749, za_750, zb_751, zb_752, za_753, za_754, za_755, za_756, zb_757, za_758, za_759, za_760, zb_761, za_763, za_764, za_765, zu_0, zu_1, zu_2, zu_3, zu_4, zu_5, zu_6, zu_7, zu_8, zu_9, zu_10, zu_11, zu_12, zu_13, zu_14, zu_15, zu_16, zu_17, zu_18, zu_19, zu_20, zu_21, zu_22, zu_23, zu_24, zu_25, zu_26, zu_27, zu_28, zu_29, zu_30, zu_90, zv_0_9, zv_1_9, zv_2_9, zv_3_9, zv_4_9, zv_5_9, zv_6_9, zv_7_9, zv_8_9, zv_0_330, zv_0_4544, zv_1_4544, zv_2_4544, zv_3_4544, zv_4_4544, zv_5_4544, zv_6_4544, zv_7_4544, zv_8_4544, zv_9_4544, zv_10_4544, zv_11_4544, zv_12_4544, zv_13_4544, zv_14_4544, zv_15_4544, zv_16_4544, zv_17_4544, zv_18_4544, zv_19_4544, zv_20_4544, zv_21_4544, zv_22_4544, zv_23_4544, zv_24_4544, zv_25_4544, zv_26_4544, zv_27_4544, zv_28_4544, zv_29_4544, zv_0_11, zv_1_11, zv_0_160, true_and, and_true, Nat.reduceAdd]
    refine ⟨fun e => ?_, fun e => ?_⟩
    · rw [e, show decide (¬ (-1 : Int32) = -1) = false from rfl] at q
      refine h106 _ _ _ ?_
      simp only [bX11_canPerform_106, zw_0, zw_1, zs_iconst, zb_15, zb_16, zb_17, za_18, za_19, za_20, za_21, za_22, zb_23, za_24, za_25, za_26, za_27, za_28, za_29, za_30, za_31, za_32, zb_35, za_36, za_37, za_38, za_39, za_40, zb_377, zb_378, za_379, za_380, za_381, za_382, za_383, zb_384, za_385, za_386, za_387, za_388, za_389, za_390, za_391, za_392, za_393, zb_396, za_397, za_398, za_399, za_400, za_401, zb_738, za_739, za_740, za_741, za_742, za_743, za_744, za_745, za_746, za_747, zb_748, za_749, za_750, zb_751, zb_752, za_753, za_754, za_755, za_756, zb_757, za_758, za_759, za_760, zb_761, za_763, za_764, za_765, true_and, and_true, Nat.reduceAdd]
      refine h107 _ _ _ ?_
      simp only [bX11_canPerform_107, zw_0, zw_1, zs_ireturn, zn_int, zn_b0, zn_b1, zb_15, zb_16, zb_17, za_18, za_19, za_20, za_21, za_22, zb_23, za_24, za_25, za_26, za_27, za_28, za_29, za_30, za_31, za_32, zb_35, za_36, za_37, za_38, za_39, za_40, zb_377, zb_378, za_379, za_380, za_381, za_382, za_383, zb_384, za_385, za_386, za_387, za_388, za_389, za_390, za_391, za_392, za_393, zb_396, za_397, za_398, za_399, za_400, za_401, zb_738, za_739, za_740, za_741, za_742, za_743, za_744, za_745, za_746, za_747, zb_748, za_749, za_750, zb_751, zb_752, za_753, za_754, za_755, za_756, zb_757, za_758, za_759, za_760, zb_761, za_763, za_764, za_765, true_and, and_true, Nat.reduceAdd]
      exact q
    · rw [decide_eq_true e] at q
      refine h107 _ _ _ ?_
      simp only [bX11_canPerform_107, zw_0, zw_1, zs_ireturn, zn_int, zn_b0, zn_b1, zb_15, zb_16, zb_17, za_18, za_19, za_20, za_21, za_22, zb_23, za_24, za_25, za_26, za_27, za_28, za_29, za_30, za_31, za_32, zb_35, za_36, za_37, za_38, za_39, za_40, zb_377, zb_378, za_379, za_380, za_381, za_382, za_383, zb_384, za_385, za_386, za_387, za_388, za_389, za_390, za_391, za_392, za_393, zb_396, za_397, za_398, za_399, za_400, za_401, zb_738, za_739, za_740, za_741, za_742, za_743, za_744, za_745, za_746, za_747, zb_748, za_749, za_750, zb_751, zb_752, za_753, za_754, za_755, za_756, zb_757, za_758, za_759, za_760, zb_761, za_763, za_764, za_765, true_and, and_true, Nat.reduceAdd]
      exact q
  · rw [if_neg n3, if_neg n4, if_neg n5, if_pos h] at q
    obtain ⟨rfl, rfl⟩ := ha.1 (Or.inr (Or.inr (Or.inr (Or.inl h))))
    refine h108 _ _ _ ?_
    simp only [bX11_canPerform_108, zw_0, zw_1, zs_aloadn0, zs_aloadNn0, zs_iloadn3, zs_iload4, zi_11_212, zs_ireturn, zh_0, zh_1, zh_2, zh_3, zh_4, zt_i, zt_l, zt_r, zt_n, zn_int, zn_b0, zn_b1, zb_15, zb_16, zb_17, za_18, za_19, za_20, za_21, za_22, zb_23, za_24, za_25, za_26, za_27, za_28, za_29, za_30, za_31, za_32, zb_35, za_36, za_37, za_38, za_39, za_40, zb_377, zb_378, za_379, za_380, za_381, za_382, za_383, zb_384, za_385, za_386, za_387, za_388, za_389, za_390, za_391, za_392, za_393, zb_396, za_397, za_398, za_399, za_400, za_401, zb_738, za_739, za_740, za_741, za_742, za_743, za_744, za_745, za_746, za_747, zb_748, za_749, za_750, zb_751, zb_752, za_753, za_754, za_755, za_756, zb_757, za_758, za_759, za_760, zb_761, za_763, za_764, za_765, true_and, and_true, Nat.reduceAdd]
    refine zO11_away hE (d + 3) b1 b2 hi hC (fun M' c' f' => ?_)
    have q := q M' c' f'
    rw [zy_awa_b]
    simp only [bX11_canPerform_108, zw_0, zw_1, zs_aloadn0, zs_aloadNn0, zs_iloadn3, zs_iload4, zi_11_212, zs_ireturn, zh_0, zh_1, zh_2, zh_3, zh_4, zt_i, zt_l, zt_r, zt_n, zn_int, zn_b0, zn_b1, zb_15, zb_16, zb_17, za_18, za_19, za_20, za_21, za_22, zb_23, za_24, za_25, za_26, za_27, za_28, za_29, za_30, za_31, za_32, zb_35, za_36, za_37, za_38, za_39, za_40, zb_377, zb_378, za_379, za_380, za_381, za_382, za_383, zb_384, za_385, za_386, za_387, za_388, za_389, za_390, za_391, za_392, za_393, zb_396, za_397, za_398, za_399, za_400, za_401, zb_738, za_739, za_740, za_741, za_742, za_743, za_744, za_745, za_746, za_747, zb_748, za_749, za_750, zb_751, zb_752, za_753, za_754, za_755, za_756, zb_757, za_758, za_759, za_760, zb_761, za_763, za_764, za_765, true_and, and_true, Nat.reduceAdd]
    exact ⟨of_eq_true zi_b_b, q⟩
  · rw [if_neg n3, if_neg n4, if_neg n5, if_neg n6, if_pos h] at q
    obtain ⟨rfl, rfl⟩ := ha.1 (Or.inr (Or.inr (Or.inr (Or.inr h))))
    refine h116 _ _ _ ?_
    simp only [bX11_canPerform_116, zw_0, zw_1, zs_aloadn0, zs_aloadNn0, zs_iloadn3, zs_iload4, zi_11_215, zs_ireturn, zh_0, zh_1, zh_2, zh_3, zh_4, zt_i, zt_l, zt_r, zt_n, zn_int, zn_b0, zn_b1, zb_15, zb_16, zb_17, za_18, za_19, za_20, za_21, za_22, zb_23, za_24, za_25, za_26, za_27, za_28, za_29, za_30, za_31, za_32, zb_35, za_36, za_37, za_38, za_39, za_40, zb_377, zb_378, za_379, za_380, za_381, za_382, za_383, zb_384, za_385, za_386, za_387, za_388, za_389, za_390, za_391, za_392, za_393, zb_396, za_397, za_398, za_399, za_400, za_401, zb_738, za_739, za_740, za_741, za_742, za_743, za_744, za_745, za_746, za_747, zb_748, za_749, za_750, zb_751, zb_752, za_753, za_754, za_755, za_756, zb_757, za_758, za_759, za_760, zb_761, za_763, za_764, za_765, true_and, and_true, Nat.reduceAdd]
    refine zO11_sideways hE (d + 3) b1 b2 hi hC (fun M' c' f' => ?_)
    have q := q M' c' f'
    rw [zy_sid_b]
    simp only [bX11_canPerform_116, zw_0, zw_1, zs_aloadn0, zs_aloadNn0, zs_iloadn3, zs_iload4, zi_11_215, zs_ireturn, zh_0, zh_1, zh_2, zh_3, zh_4, zt_i, zt_l, zt_r, zt_n, zn_int, zn_b0, zn_b1, zb_15, zb_16, zb_17, za_18, za_19, za_20, za_21, za_22, zb_23, za_24, za_25, za_26, za_27, za_28, za_29, za_30, za_31, za_32, zb_35, za_36, za_37, za_38, za_39, za_40, zb_377, zb_378, za_379, za_380, za_381, za_382, za_383, zb_384, za_385, za_386, za_387, za_388, za_389, za_390, za_391, za_392, za_393, zb_396, za_397, za_398, za_399, za_400, za_401, zb_738, za_739, za_740, za_741, za_742, za_743, za_744, za_745, za_746, za_747, zb_748, za_749, za_750, zb_751, zb_752, za_753, za_754, za_755, za_756, zb_757, za_758, za_759, za_760, zb_761, za_763, za_764, za_765, true_and, and_true, Nat.reduceAdd]
    exact ⟨of_eq_true zi_b_b, q⟩
  · rw [if_neg n3, if_neg n4, if_neg n5, if_neg n6, if_neg n7, if_pos h] at q
    obtain ⟨rfl, f, hf, rfl⟩ := ha.2.2 h
    obtain ⟨dd, hdd, ed⟩ := hi.1.2.2.1.2.1
    have hd : M.1 23 0 = nI dd := by rw [hC.1.2.2.2.2.1.1]; exact ed
    rw [ed, nI_clamp (by omega), nI_clamp (by omega)] at q
    have e9 : ((9999 : Int32) < nI dd + nI f) = (¬ dd + f ≤ 9999) := by
      rw [nI_add]
      exact propext ⟨fun z => by have := (nI_ltI (a := 9999) (b := dd + f) (by decide) (by omega)).mp z; omega, fun z => (nI_ltI (a := 9999) (b := dd + f) (by decide) (by omega)).mpr (by omega)⟩
    have fin : ∀ x : Bool, x = decide (dd + f ≤ 9999) → G 147 [some (.ref 15), some (.ref L), some (.int (nI k)), some (.int (nI f)), some (.int b2), none] [.int (zi_b x)] M := by
      intro x hx
      refine h147 _ _ _ ?_
      simp only [bX11_canPerform_147, zw_0, zw_1, zs_istore5, zs_aloadn0, zs_aloadNn0, zs_iloadn3, zi_11_170, zs_popi, zs_popr, zs_popn, zs_iload5, zs_ireturn, zc_none, zc_int, zc_ref, zc_null, zc_long, zh_0, zh_1, zh_2, zh_3, zh_4, zt_i, zt_l, zt_r, zt_n, zn_int, zn_b0, zn_b1, zb_15, zb_16, zb_17, za_18, za_19, za_20, za_21, za_22, zb_23, za_24, za_25, za_26, za_27, za_28, za_29, za_30, za_31, za_32, zb_35, za_36, za_37, za_38, za_39, za_40, zb_377, zb_378, za_379, za_380, za_381, za_382, za_383, zb_384, za_385, za_386, za_387, za_388, za_389, za_390, za_391, za_392, za_393, zb_396, za_397, za_398, za_399, za_400, za_401, zb_738, za_739, za_740, za_741, za_742, za_743, za_744, za_745, za_746, za_747, zb_748, za_749, za_750, zb_751, zb_752, za_753, za_754, za_755, za_756, zb_757, za_758, za_759, za_760, zb_761, za_763, za_764, za_765, true_and, and_true, Nat.reduceAdd]
      refine zO11_passDays hE d hf htn hi hC (fun y M' c' f' => ?_)
      have q := q M' c' f'
      simp only [bX11_canPerform_147, zw_0, zw_1, zs_istore5, zs_aloadn0, zs_aloadNn0, zs_iloadn3, zi_11_170, zs_popi, zs_popr, zs_popn, zs_iload5, zs_ireturn, zc_none, zc_int, zc_ref, zc_null, zc_long, zh_0, zh_1, zh_2, zh_3, zh_4, zt_i, zt_l, zt_r, zt_n, zn_int, zn_b0, zn_b1, zb_15, zb_16, zb_17, za_18, za_19, za_20, za_21, za_22, zb_23, za_24, za_25, za_26, za_27, za_28, za_29, za_30, za_31, za_32, zb_35, za_36, za_37, za_38, za_39, za_40, zb_377, zb_378, za_379, za_380, za_381, za_382, za_383, zb_384, za_385, za_386, za_387, za_388, za_389, za_390, za_391, za_392, za_393, zb_396, za_397, za_398, za_399, za_400, za_401, zb_738, za_739, za_740, za_741, za_742, za_743, za_744, za_745, za_746, za_747, zb_748, za_749, za_750, zb_751, zb_752, za_753, za_754, za_755, za_756, zb_757, za_758, za_759, za_760, zb_761, za_763, za_764, za_765, true_and, and_true, Nat.reduceAdd]
      rw [hx]
      exact ⟨of_eq_true zi_b_b, q⟩
    refine h124 _ _ _ ?_
    simp only [bX11_canPerform_124, zw_0, zw_1, zs_aloadn0, zs_aloadNn0, zg_11_10, zg_11_136, zg_11_167, zs_iloadn3, zs_iadd, zs_sipush, zs_icgt, zs_iconst, zs_goto, zb_15, zb_16, zb_17, za_18, za_19, za_20, za_21, za_22, zb_23, za_24, za_25, za_26, za_27, za_28, za_29, za_30, za_31, za_32, zb_35, za_36, za_37, za_38, za_39, za_40, zb_377, zb_378, za_379, za_380, za_381, za_382, za_383, zb_384, za_385, za_386, za_387, za_388, za_389, za_390, za_391, za_392, za_393, zb_396, za_397, za_398, za_399, za_400, za_401, zb_738, za_739, za_740, za_741, za_742, za_743, za_744, za_745, za_746, za_747, zb_748, za_749, za_750, zb_751, zb_752, za_753, za_754, za_755, za_756, zb_757, za_758, za_759, za_760, zb_761, za_763, za_764, za_765, true_and, and_true, Nat.reduceAdd, hd, e9]
    refine ⟨fun e => ?_, fun e => ?_⟩
    · refine h146 _ _ _ ?_
      simp only [bX11_canPerform_146, zw_0, zw_1, zs_iconst, zb_15, zb_16, zb_17, za_18, za_19, za_20, za_21, za_22, zb_23, za_24, za_25, za_26, za_27, za_28, za_29, za_30, za_31, za_32, zb_35, za_36, za_37, za_38, za_39, za_40, zb_377, zb_378, za_379, za_380, za_381, za_382, za_383, zb_384, za_385, za_386, za_387, za_388, za_389, za_390, za_391, za_392, za_393, zb_396, za_397, za_398, za_399, za_400, za_401, zb_738, za_739, za_740, za_741, za_742, za_743, za_744, za_745, za_746, za_747, zb_748, za_749, za_750, zb_751, zb_752, za_753, za_754, za_755, za_756, zb_757, za_758, za_759, za_760, zb_761, za_763, za_764, za_765, true_and, and_true, Nat.reduceAdd]
      exact fin false (by rw [decide_eq_false e])
    · exact fin true (by rw [decide_eq_true (by omega)])
  · rw [if_neg n3, if_neg n4, if_neg n5, if_neg n6, if_neg n7, if_neg n8] at q
    refine h158 _ _ _ ?_
    simp only [bX11_canPerform_158, zw_0, zw_1, zs_iconst, zs_ireturn, zn_int, zn_b0, zn_b1, zb_15, zb_16, zb_17, za_18, za_19, za_20, za_21, za_22, zb_23, za_24, za_25, za_26, za_27, za_28, za_29, za_30, za_31, za_32, zb_35, za_36, za_37, za_38, za_39, za_40, zb_377, zb_378, za_379, za_380, za_381, za_382, za_383, zb_384, za_385, za_386, za_387, za_388, za_389, za_390, za_391, za_392, za_393, zb_396, za_397, za_398, za_399, za_400, za_401, zb_738, za_739, za_740, za_741, za_742, za_743, za_744, za_745, za_746, za_747, zb_748, za_749, za_750, zb_751, zb_752, za_753, za_754, za_755, za_756, zb_757, za_758, za_759, za_760, zb_761, za_763, za_764, za_765, true_and, and_true, Nat.reduceAdd]
    exact q M hC zCp_refl
theorem zl_cl_c {M M' : zm_M} {L nc : Nat} {kd a1 a2 a3 : Nat → Int32} (h : zl_cl M L nc kd a1 a2 a3) (e : ∀ j, j ≤ 4 → M'.1 (L + j) = M.1 (L + j)) : zl_cl M' L nc kd a1 a2 a3 := by
  unfold zl_cl
  have e0 := e 0 (by omega)
  rw [Nat.add_zero] at e0
  rw [e0, e 1 (by omega), e 2 (by omega), e 3 (by omega), e 4 (by omega)]
  exact h
theorem zCp_law {M M' : zm_M} {L j : Nat} (hL : zl_ok L) (hj : j ≤ 8) (h : zCp M M') : M'.1 (L + j) = M.1 (L + j) := by
  have := hL.1
  refine (h.1 _ (fun z => ?_)).1
  unfold zP_q zP_d zP_c at z
  omega
theorem c11_played {E : zm_E} (hE : zm_ok E.2.2.1 E.2.2.2.2) (d : Nat) {tn : Nat} {T : Nat → Option zD} {V : zO} {M : zm_M} (x : Int32) {nc : Nat → Nat} {kd a1 a2 a3 : Nat → Nat → Int32} (htn : tn ≤ 4) (hi : zOi T V) (hC : zOC tn T V M) (hl : ∀ t, t < tn → zl_cl M (41 + 9 * t) (nc t) (kd t) (a1 t) (a2 t) (a3 t)) {Q : Option Value → zm_M → Prop} (q1 : zo_is tn x = false → Q (some (.int (-2))) M) (q2 : ∀ t M', t < tn → x = nI t → zOC tn T (zy_pl T (kd t) (a1 t) (a2 t) (a3 t) (nc t) 0 V).1 M' → zCp M M' → Q (some (.int (zy_pl T (kd t) (a1 t) (a2 t) (a3 t) (nc t) 0 V).2)) M') : zm_R E (d + 8) mX11_played [.ref 15, .int x] M Q := by
  refine zX11_played hE rfl (fun G h0 h20 h32 h51 h57 => ?_)
  show G 0 [some (.ref 15), some (.int x), none, none] [] M
  have h16 : M.1 16 6 = nI tn := hC.1.2.2.1
  refine h0 _ _ _ ?_
  simp only [bX11_played_0, zw_0, zw_1, zs_iloadn1, zs_iconst, zs_aloadn0, zs_aloadNn0, zg_11_10, zg_11_106, zs_isub, zi_11_86, zs_ifne, zs_bipush, zs_ireturn, zh_0, zh_1, zh_2, zh_3, zh_4, zt_i, zt_l, zt_r, zt_n, zn_int, zn_b0, zn_b1, zb_15, zb_16, zb_17, za_18, za_19, za_20, za_21, za_22, zb_23, za_24, za_25, za_26, za_27, za_28, za_29, za_30, za_31, za_32, zb_35, za_36, za_37, za_38, za_39, za_40, zb_377, zb_378, za_379, za_380, za_381, za_382, za_383, zb_384, za_385, za_386, za_387, za_388, za_389, za_390, za_391, za_392, za_393, zb_396, za_397, za_398, za_399, za_400, za_401, zb_738, za_739, za_740, za_741, za_742, za_743, za_744, za_745, za_746, za_747, zb_748, za_749, za_750, zb_751, zb_752, za_753, za_754, za_755, za_756, zb_757, za_758, za_759, za_760, zb_761, za_763, za_764, za_765, true_and, and_true, Nat.reduceAdd, h16]
  refine zm_R_eq (c11_within hE (d + 6) x 0 _ M) ?_
  rw [zo_in (by omega)]
  simp only [bX11_played_0, zw_0, zw_1, zs_iloadn1, zs_iconst, zs_aloadn0, zs_aloadNn0, zg_11_10, zg_11_106, zs_isub, zi_11_86, zs_ifne, zs_bipush, zs_ireturn, zh_0, zh_1, zh_2, zh_3, zh_4, zt_i, zt_l, zt_r, zt_n, zn_int, zn_b0, zn_b1, zb_15, zb_16, zb_17, za_18, za_19, za_20, za_21, za_22, zb_23, za_24, za_25, za_26, za_27, za_28, za_29, za_30, za_31, za_32, zb_35, za_36, za_37, za_38, za_39, za_40, zb_377, zb_378, za_379, za_380, za_381, za_382, za_383, zb_384, za_385, za_386, za_387, za_388, za_389, za_390, za_391, za_392, za_393, zb_396, za_397, za_398, za_399, za_400, za_401, zb_738, za_739, za_740, za_741, za_742, za_743, za_744, za_745, za_746, za_747, zb_748, za_749, za_750, zb_751, zb_752, za_753, za_754, za_755, za_756, zb_757, za_758, za_759, za_760, zb_761, za_763, za_764, za_765, true_and, and_true, Nat.reduceAdd, zi_b0, zi_b1]
  refine ⟨fun h => ?_, fun h => q1 h⟩
  have h : zo_is tn x = true := by simpa using h
  obtain ⟨t, ht, rfl⟩ := zo_of h (by omega)
  have q2 := fun M' => q2 t M' ht rfl
  have hL : zl_ok (41 + 9 * t) := zl_now (by omega)
  have ol := eq_true hL.2.1
  have vt : vp_in (nI t) 4 := vp_in_nI (by omega) (by decide)
  have vt2 : (nI t).toNatClampNeg = t := nI_clamp (by omega)
  obtain ⟨n1, n2, n3⟩ := hl t ht
  have loop : ∀ (f k : Nat) (V1 : zO) (M1 : zm_M), k + f = nc t → zOi T V1 → zOC tn T V1 M1 → zCp M M1 → zy_pl T (kd t) (a1 t) (a2 t) (a3 t) f k V1 = zy_pl T (kd t) (a1 t) (a2 t) (a3 t) (nc t) 0 V → G 32 [some (.ref 15), some (.int (nI t)), some (.ref (41 + 9 * t)), some (.int (nI k))] [] M1 := by
    intro f
    induction f with
    | zero =>
      intro k V1 M1 hk i1 c1 f1 e
      have m0 : M1.1 (41 + 9 * t) 0 = nI (nc t) := by
        have := zCp_law hL (j := 0) (by omega) f1
        rw [Nat.add_zero] at this
        rw [this]; exact n1
      refine h32 _ _ _ ?_
      simp only [bX11_played_32, zw_0, zw_1, zs_iloadn3, zs_aloadn2, zs_aloadNn2, zg_11_182, zs_icge, zs_aloadn0, zs_aloadNn0, zi_11_187, zs_ifne, zs_ireturn, zh_0, zh_1, zh_2, zh_3, zh_4, zt_i, zt_l, zt_r, zt_n, zn_int, zn_b0, zn_b1, zb_15, zb_16, zb_17, za_18, za_19, za_20, za_21, za_22, zb_23, za_24, za_25, za_26, za_27, za_28, za_29, za_30, za_31, za_32, zb_35, za_36, za_37, za_38, za_39, za_40, zb_377, zb_378, za_379, za_380, za_381, za_382, za_383, zb_384, za_385, za_386, za_387, za_388, za_389, za_390, za_391, za_392, za_393, zb_396, za_397, za_398, za_399, za_400, za_401, zb_738, za_739, za_740, za_741, za_742, za_743, za_744, za_745, za_746, za_747, zb_748, za_749, za_750, zb_751, zb_752, za_753, za_754, za_755, za_756, zb_757, za_758, za_759, za_760, zb_761, za_763, za_764, za_765, true_and, and_true, Nat.reduceAdd, ol, m0]
      refine ⟨fun _ => ?_, fun h => absurd (nI_le (by omega) (by omega)) h⟩
      refine h57 _ _ _ ?_
      simp only [bX11_played_57, zw_0, zw_1, zs_iconst, zs_ireturn, zn_int, zn_b0, zn_b1, zb_15, zb_16, zb_17, za_18, za_19, za_20, za_21, za_22, zb_23, za_24, za_25, za_26, za_27, za_28, za_29, za_30, za_31, za_32, zb_35, za_36, za_37, za_38, za_39, za_40, zb_377, zb_378, za_379, za_380, za_381, za_382, za_383, zb_384, za_385, za_386, za_387, za_388, za_389, za_390, za_391, za_392, za_393, zb_396, za_397, za_398, za_399, za_400, za_401, zb_738, za_739, za_740, za_741, za_742, za_743, za_744, za_745, za_746, za_747, zb_748, za_749, za_750, zb_751, zb_752, za_753, za_754, za_755, za_756, zb_757, za_758, za_759, za_760, zb_761, za_763, za_764, za_765, true_and, and_true, Nat.reduceAdd]
      have q2 := q2 M1
      rw [← e] at q2
      exact q2 c1 f1
    | succ f ih =>
      intro k V1 M1 hk i1 c1 f1 e
      have m0 : M1.1 (41 + 9 * t) 0 = nI (nc t) := by
        have := zCp_law hL (j := 0) (by omega) f1
        rw [Nat.add_zero] at this
        rw [this]; exact n1
      obtain ⟨k1, k2⟩ := n3 k (by omega)
      rw [← zCp_law hL (j := 1) (by omega) f1] at k1
      rw [← zCp_law hL (j := 2) (by omega) f1, ← zCp_law hL (j := 3) (by omega) f1, ← zCp_law hL (j := 4) (by omega) f1] at k2
      simp only [zy_pl] at e
      refine h32 _ _ _ ?_
      simp only [bX11_played_32, zw_0, zw_1, zs_iloadn3, zs_aloadn2, zs_aloadNn2, zg_11_182, zs_icge, zs_aloadn0, zs_aloadNn0, zi_11_187, zs_ifne, zs_ireturn, zh_0, zh_1, zh_2, zh_3, zh_4, zt_i, zt_l, zt_r, zt_n, zn_int, zn_b0, zn_b1, zb_15, zb_16, zb_17, za_18, za_19, za_20, za_21, za_22, zb_23, za_24, za_25, za_26, za_27, za_28, za_29, za_30, za_31, za_32, zb_35, za_36, za_37, za_38, za_39, za_40, zb_377, zb_378, za_379, za_380, za_381, za_382, za_383, zb_384, za_385, za_386, za_387, za_388, za_389, za_390, za_391, za_392, za_393, zb_396, za_397, za_398, za_399, za_400, za_401, zb_738, za_739, za_740, za_741, za_742, za_743, za_744, za_745, za_746, za_747, zb_748, za_749, za_750, zb_751, zb_752, za_753, za_754, za_755, za_756, zb_757, za_758, za_759, za_760, zb_761, za_763, za_764, za_765, true_and, and_true, Nat.reduceAdd, ol, m0]
      refine ⟨fun h => absurd h (nI_ge (by omega) (by omega)), fun _ => ?_⟩
      refine c11_canPerform hE d htn hL (by omega) i1 c1 k1 k2 (fun M2 c2 f2 => ?_)
      simp only [bX11_played_32, zw_0, zw_1, zs_iloadn3, zs_aloadn2, zs_aloadNn2, zg_11_182, zs_icge, zs_aloadn0, zs_aloadNn0, zi_11_187, zs_ifne, zs_ireturn, zh_0, zh_1, zh_2, zh_3, zh_4, zt_i, zt_l, zt_r, zt_n, zn_int, zn_b0, zn_b1, zb_15, zb_16, zb_17, za_18, za_19, za_20, za_21, za_22, zb_23, za_24, za_25, za_26, za_27, za_28, za_29, za_30, za_31, za_32, zb_35, za_36, za_37, za_38, za_39, za_40, zb_377, zb_378, za_379, za_380, za_381, za_382, za_383, zb_384, za_385, za_386, za_387, za_388, za_389, za_390, za_391, za_392, za_393, zb_396, za_397, za_398, za_399, za_400, za_401, zb_738, za_739, za_740, za_741, za_742, za_743, za_744, za_745, za_746, za_747, zb_748, za_749, za_750, zb_751, zb_752, za_753, za_754, za_755, za_756, zb_757, za_758, za_759, za_760, zb_761, za_763, za_764, za_765, true_and, and_true, Nat.reduceAdd, zi_b0, zi_b1]
      refine ⟨fun h => ?_, fun h => ?_⟩
      · have h : (zy_do T (kd t k) (a1 t k) (a2 t k) (a3 t k) V1).2 = true := by simpa using h
        rw [if_pos h] at e
        refine h51 _ _ _ ?_
        simp only [bX11_played_51, zw_0, zw_1, zs_iinc3, zs_goto, zc_none, zc_int, zc_ref, zc_null, zc_long, zb_15, zb_16, zb_17, za_18, za_19, za_20, za_21, za_22, zb_23, za_24, za_25, za_26, za_27, za_28, za_29, za_30, za_31, za_32, zb_35, za_36, za_37, za_38, za_39, za_40, zb_377, zb_378, za_379, za_380, za_381, za_382, za_383, zb_384, za_385, za_386, za_387, za_388, za_389, za_390, za_391, za_392, za_393, zb_396, za_397, za_398, za_399, za_400, za_401, zb_738, za_739, za_740, za_741, za_742, za_743, za_744, za_745, za_746, za_747, zb_748, za_749, za_750, zb_751, zb_752, za_753, za_754, za_755, za_756, zb_757, za_758, za_759, za_760, zb_761, za_763, za_764, za_765, true_and, and_true, Nat.reduceAdd, nI_1]
        exact ih (k + 1) _ M2 (by omega) (zy_do_i i1 _ _ _ _) c2 (zCp_trans f1 f2) e
      · rw [if_neg (by rw [h]; decide)] at e
        have q2 := q2 M2
        rw [← e] at q2
        exact q2 c2 (zCp_trans f1 f2)
  refine h20 _ _ _ ?_
  simp only [bX11_played_20, zw_0, zw_1, zs_aloadn0, zs_aloadNn0, zg_11_10, zg_11_109, zs_iloadn1, zs_aaload, zs_astoren2, zs_astoreNn2, zs_iconst, zs_istoren3, zc_none, zc_int, zc_ref, zc_null, zc_long, zb_15, zb_16, zb_17, za_18, za_19, za_20, za_21, za_22, zb_23, za_24, za_25, za_26, za_27, za_28, za_29, za_30, za_31, za_32, zb_35, za_36, za_37, za_38, za_39, za_40, zb_377, zb_378, za_379, za_380, za_381, za_382, za_383, zb_384, za_385, za_386, za_387, za_388, za_389, za_390, za_391, za_392, za_393, zb_396, za_397, za_398, za_399, za_400, za_401, zb_738, za_739, za_740, za_741, za_742, za_743, za_744, za_745, za_746, za_747, zb_748, za_749, za_750, zb_751, zb_752, za_753, za_754, za_755, za_756, zb_757, za_758, za_759, za_760, zb_761, za_763, za_764, za_765, true_and, and_true, Nat.reduceAdd, vt2]
  rw [zm_a34, zm_ao_34]
  refine ⟨vt, ?_⟩
  simp only [bX11_played_20, zw_0, zw_1, zs_aloadn0, zs_aloadNn0, zg_11_10, zg_11_109, zs_iloadn1, zs_aaload, zs_astoren2, zs_astoreNn2, zs_iconst, zs_istoren3, zc_none, zc_int, zc_ref, zc_null, zc_long, zb_15, zb_16, zb_17, za_18, za_19, za_20, za_21, za_22, zb_23, za_24, za_25, za_26, za_27, za_28, za_29, za_30, za_31, za_32, zb_35, za_36, za_37, za_38, za_39, za_40, zb_377, zb_378, za_379, za_380, za_381, za_382, za_383, zb_384, za_385, za_386, za_387, za_388, za_389, za_390, za_391, za_392, za_393, zb_396, za_397, za_398, za_399, za_400, za_401, zb_738, za_739, za_740, za_741, za_742, za_743, za_744, za_745, za_746, za_747, zb_748, za_749, za_750, zb_751, zb_752, za_753, za_754, za_755, za_756, zb_757, za_758, za_759, za_760, zb_761, za_763, za_764, za_765, true_and, and_true, Nat.reduceAdd]
  exact loop (nc t) 0 V M (by omega) hi hC zCp_refl rfl
