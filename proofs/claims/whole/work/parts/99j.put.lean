/-! ===== the class: a code is put ===== -/
theorem c1_put {E : zm_E} (hE : zm_ok E.2.2.1 E.2.2.2.2) (d : Nat) {L c : Nat} (hL : zl_ok L) (op v : Int32) {M : zm_M} (hc : c < 300) (h7 : M.1 L 7 = nI c) {Q : Option Value → zm_M → Prop} (q : Q (some (.int (nI c))) (zm_wi (zm_wi (zm_wi M (L + 7) c op) (L + 8) c v) L 7 (nI (c + 1)))) : zm_R E (d + 1) mX1_put [.ref L, .int op, .int v] M Q := by
  refine zX1_put hE rfl (fun G h0 h12 => ?_)
  show G 0 [some (.ref L), some (.int op), some (.int v)] [] M
  have ol := eq_true hL.2.1
  have A7 := za_of (hL.2.2.2.2 7 (by omega) (by omega))
  have A8 := za_of (hL.2.2.2.2 8 (by omega) (by omega))
  have v1 : vp_in (nI c) 300 := vp_in_nI hc (by decide)
  have v2 : (nI c).toNatClampNeg = c := nI_clamp (by omega)
  have e3 : (nI c < 300) = True := eq_true (nI_lt (b := 300) hc (by decide))
  have a7 : (zm_wi M (L + 7) c op).1 L 7 = nI c := by rw [zm_wi_other (by omega)]; exact h7
  have b7 : (zm_wi (zm_wi M (L + 7) c op) (L + 8) c v).1 L 7 = nI c := by rw [zm_wi_other (by omega)]; exact a7
  have c7 : (zm_wi (zm_wi (zm_wi M (L + 7) c op) (L + 8) c v) L 7 (nI (c + 1))).1 L 7 = nI (c + 1) := by rw [zm_wi_same, if_pos rfl]
  have e1 : nI (c + 1) - 1 = nI c := by
    rw [show (1 : Int32) = nI 1 from rfl, zk_sub (by omega), Nat.add_sub_cancel]
  refine h0 _ _ _ ?_
  simp only [bX1_put_0, zw_0, zw_1, zs_aloadn0, zs_aloadNn0, zg_1_34, zs_sipush, zs_iclt, zs_iconst, zs_ireturn, zn_int, zn_b0, zn_b1, zb_15, zb_16, zb_17, za_18, za_19, za_20, za_21, za_22, zb_23, za_24, za_25, za_26, za_27, za_28, za_29, za_30, za_31, za_32, zb_35, za_36, za_37, za_38, za_39, za_40, zb_377, zb_378, za_379, za_380, za_381, za_382, za_383, zb_384, za_385, za_386, za_387, za_388, za_389, za_390, za_391, za_392, za_393, zb_396, za_397, za_398, za_399, za_400, za_401, zb_738, za_739, za_740, za_741, za_742, za_743, za_744, za_745, za_746, za_747, zb_748, za_749, za_750, zb_751, zb_752, za_753, za_754, za_755, za_756, zb_757, za_758, za_759, za_760, zb_761, za_763, za_764, za_765, true_and, and_true, Nat.reduceAdd, ol, h7]
  refine ⟨fun _ => ?_, fun h => absurd (nI_lt (b := 300) hc (by decide)) h⟩
  refine h12 _ _ _ ?_
  simp only [bX1_put_12, zw_0, zw_1, zs_aloadn0, zs_aloadNn0, zg_1_37, zg_1_34, zs_iloadn1, zs_iastore, zg_1_40, zs_iloadn2, zs_dupi, zs_dupr, zs_dupn, zs_iconst, zs_iadd, zq_1_34, zs_isub, zs_ireturn, zn_int, zn_b0, zn_b1, zb_15, zb_16, zb_17, za_18, za_19, za_20, za_21, za_22, zb_23, za_24, za_25, za_26, za_27, za_28, za_29, za_30, za_31, za_32, zb_35, za_36, za_37, za_38, za_39, za_40, zb_377, zb_378, za_379, za_380, za_381, za_382, za_383, zb_384, za_385, za_386, za_387, za_388, za_389, za_390, za_391, za_392, za_393, zb_396, za_397, za_398, za_399, za_400, za_401, zb_738, za_739, za_740, za_741, za_742, za_743, za_744, za_745, za_746, za_747, zb_748, za_749, za_750, zb_751, zb_752, za_753, za_754, za_755, za_756, zb_757, za_758, za_759, za_760, zb_761, za_763, za_764, za_765, zu_0, zu_1, zu_2, zu_3, zu_4, zu_5, zu_6, zu_7, zu_8, zu_9, zu_10, zu_11, zu_12, zu_13, zu_14, zu_15, zu_16, zu_17, zu_18, zu_19, zu_20, zu_21, zu_22, zu_23, zu_24, zu_25, zu_26, zu_27, zu_28, zu_29, zu_30, zu_90, zv_0_9, zv_1_9, zv_2_9, zv_3_9, zv_4_9, zv_5_9, zv_6_9, zv_7_9, zv_8_9, zv_0_330, zv_0_4544, zv_1_4544, zv_2_4544, zv_3_4544, zv_4_4544, zv_5_4544, zv_6_4544, zv_7_4544, zv_8_4544, zv_9_4544, zv_10_4544, zv_11_4544, zv_12_4544, zv_13_4544, zv_14_4544, zv_15_4544, zv_16_4544, zv_17_4544, zv_18_4544, zv_19_4544, zv_20_4544, zv_21_4544, zv_22_4544, zv_23_4544, zv_24_4544, zv_25_4544, zv_26_4544, zv_27_4544, zv_28_4544, zv_29_4544, zv_0_11, zv_1_11, zv_0_160, true_and, and_true, Nat.reduceAdd, ol, A7, A8, h7, v1, v2, a7, b7, nI_1, c7, e1]
  exact q
theorem c1_leadHere {E : zm_E} (hE : zm_ok E.2.2.1 E.2.2.2.2) (d : Nat) {L c k : Nat} (hL : zl_ok L) {M : zm_M} (hk : k < 300) (h7 : M.1 L 7 = nI c) {Q : Option Value → zm_M → Prop} (q : Q none (zm_wi M (L + 8) k (nI c))) : zm_R E (d + 1) mX1_leadHere [.ref L, .int (nI k)] M Q := by
  refine zX1_leadHere hE rfl (fun G h0 h15 => ?_)
  show G 0 [some (.ref L), some (.int (nI k))] [] M
  have ol := eq_true hL.2.1
  have A8 := za_of (hL.2.2.2.2 8 (by omega) (by omega))
  have v1 : vp_in (nI k) 300 := vp_in_nI hk (by decide)
  have v2 : (nI k).toNatClampNeg = k := nI_clamp (by omega)
  refine h0 _ _ _ ?_
  simp only [bX1_leadHere_0, zw_0, zw_1, zs_iloadn1, zs_iconst, zs_iceq, zs_aloadn0, zs_aloadNn0, zg_1_40, zg_1_34, zs_iastore, zb_15, zb_16, zb_17, za_18, za_19, za_20, za_21, za_22, zb_23, za_24, za_25, za_26, za_27, za_28, za_29, za_30, za_31, za_32, zb_35, za_36, za_37, za_38, za_39, za_40, zb_377, zb_378, za_379, za_380, za_381, za_382, za_383, zb_384, za_385, za_386, za_387, za_388, za_389, za_390, za_391, za_392, za_393, zb_396, za_397, za_398, za_399, za_400, za_401, zb_738, za_739, za_740, za_741, za_742, za_743, za_744, za_745, za_746, za_747, zb_748, za_749, za_750, zb_751, zb_752, za_753, za_754, za_755, za_756, zb_757, za_758, za_759, za_760, zb_761, za_763, za_764, za_765, zu_0, zu_1, zu_2, zu_3, zu_4, zu_5, zu_6, zu_7, zu_8, zu_9, zu_10, zu_11, zu_12, zu_13, zu_14, zu_15, zu_16, zu_17, zu_18, zu_19, zu_20, zu_21, zu_22, zu_23, zu_24, zu_25, zu_26, zu_27, zu_28, zu_29, zu_30, zu_90, zv_0_9, zv_1_9, zv_2_9, zv_3_9, zv_4_9, zv_5_9, zv_6_9, zv_7_9, zv_8_9, zv_0_330, zv_0_4544, zv_1_4544, zv_2_4544, zv_3_4544, zv_4_4544, zv_5_4544, zv_6_4544, zv_7_4544, zv_8_4544, zv_9_4544, zv_10_4544, zv_11_4544, zv_12_4544, zv_13_4544, zv_14_4544, zv_15_4544, zv_16_4544, zv_17_4544, zv_18_4544, zv_19_4544, zv_20_4544, zv_21_4544, zv_22_4544, zv_23_4544, zv_24_4544, zv_25_4544, zv_26_4544, zv_27_4544, zv_28_4544, zv_29_4544, zv_0_11, zv_1_11, zv_0_160, true_and, and_true, Nat.reduceAdd, ol, A8, v1, v2, h7]
  refine ⟨fun h => absurd h (zt_ne (by omega)), fun _ => ?_⟩
  refine h15 _ _ _ ?_
  simp only [bX1_leadHere_15, zw_0, zw_1, zs_return, zn_int, zn_b0, zn_b1, zb_15, zb_16, zb_17, za_18, za_19, za_20, za_21, za_22, zb_23, za_24, za_25, za_26, za_27, za_28, za_29, za_30, za_31, za_32, zb_35, za_36, za_37, za_38, za_39, za_40, zb_377, zb_378, za_379, za_380, za_381, za_382, za_383, zb_384, za_385, za_386, za_387, za_388, za_389, za_390, za_391, za_392, za_393, zb_396, za_397, za_398, za_399, za_400, za_401, zb_738, za_739, za_740, za_741, za_742, za_743, za_744, za_745, za_746, za_747, zb_748, za_749, za_750, zb_751, zb_752, za_753, za_754, za_755, za_756, zb_757, za_758, za_759, za_760, zb_761, za_763, za_764, za_765, true_and, and_true, Nat.reduceAdd]
  exact q
