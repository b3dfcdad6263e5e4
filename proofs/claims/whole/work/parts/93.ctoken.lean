/-! ===== the class's tokens: where one ends, its number ===== -/
def zk_tc (tp : Nat → Nat) (n : Nat) (M : zm_M) : Prop := n ≤ 300 ∧ (∀ i, i < n → M.1 765 i = nI (tp i)) ∧ ∀ i, tp i < 256
theorem c5_isDigit {E : zm_E} (hE : zm_ok E.2.2.1 E.2.2.2.2) (d : Nat) {c : Nat} (hc : c < 256) (M : zm_M) : zm_R E (d + 1) mX5_isDigit [.int (nI c)] M (fun r M' => r = some (.int (zi_b (zk_F c))) ∧ M' = M) := by
  refine zX5_isDigit hE rfl (fun G h0 h16 h17 => ?_)
  show G 0 [some (.int (nI c))] [] M
  have no : zk_F c = false → G 16 [some (.int (nI c))] [] M := by
    intro h
    refine h16 _ _ _ ?_
    simp only [bX5_isDigit_16, zw_0, zw_1, zs_iconst, zb_15, zb_16, zb_17, za_18, za_19, za_20, za_21, za_22, zb_23, za_24, za_25, za_26, za_27, za_28, za_29, za_30, za_31, za_32, zb_35, za_36, za_37, za_38, za_39, za_40, zb_377, zb_378, za_379, za_380, za_381, za_382, za_383, zb_384, za_385, za_386, za_387, za_388, za_389, za_390, za_391, za_392, za_393, zb_396, za_397, za_398, za_399, za_400, za_401, zb_738, za_739, za_740, za_741, za_742, za_743, za_744, za_745, za_746, za_747, zb_748, za_749, za_750, zb_751, zb_752, za_753, za_754, za_755, za_756, zb_757, za_758, za_759, za_760, zb_761, za_763, za_764, za_765, true_and, and_true, Nat.reduceAdd]
    refine h17 _ _ _ ?_
    simp only [bX5_isDigit_17, zw_0, zw_1, zs_ireturn, zn_int, zn_b0, zn_b1, zb_15, zb_16, zb_17, za_18, za_19, za_20, za_21, za_22, zb_23, za_24, za_25, za_26, za_27, za_28, za_29, za_30, za_31, za_32, zb_35, za_36, za_37, za_38, za_39, za_40, zb_377, zb_378, za_379, za_380, za_381, za_382, za_383, zb_384, za_385, za_386, za_387, za_388, za_389, za_390, za_391, za_392, za_393, zb_396, za_397, za_398, za_399, za_400, za_401, zb_738, za_739, za_740, za_741, za_742, za_743, za_744, za_745, za_746, za_747, zb_748, za_749, za_750, zb_751, zb_752, za_753, za_754, za_755, za_756, zb_757, za_758, za_759, za_760, zb_761, za_763, za_764, za_765, true_and, and_true, Nat.reduceAdd]
    rw [h]; rfl
  have e1 : (nI c < 48) = (c < 48) := propext (nI_ltI (b := 48) (by omega) (by decide))
  have e2 : ((57 : Int32) < nI c) = (57 < c) := propext (nI_ltI (a := 57) (by decide) (by omega))
  refine h0 _ _ _ ?_
  simp only [bX5_isDigit_0, zw_0, zw_1, zs_iloadn0, zs_bipush, zs_iclt, zs_icgt, zs_iconst, zs_goto, zb_15, zb_16, zb_17, za_18, za_19, za_20, za_21, za_22, zb_23, za_24, za_25, za_26, za_27, za_28, za_29, za_30, za_31, za_32, zb_35, za_36, za_37, za_38, za_39, za_40, zb_377, zb_378, za_379, za_380, za_381, za_382, za_383, zb_384, za_385, za_386, za_387, za_388, za_389, za_390, za_391, za_392, za_393, zb_396, za_397, za_398, za_399, za_400, za_401, zb_738, za_739, za_740, za_741, za_742, za_743, za_744, za_745, za_746, za_747, zb_748, za_749, za_750, zb_751, zb_752, za_753, za_754, za_755, za_756, zb_757, za_758, za_759, za_760, zb_761, za_763, za_764, za_765, true_and, and_true, Nat.reduceAdd, e1, e2]
  refine ⟨fun h => no (decide_eq_false (by omega)), fun h => ⟨fun h2 => no (decide_eq_false (by omega)), fun h2 => ?_⟩⟩
  refine h17 _ _ _ ?_
  simp only [bX5_isDigit_17, zw_0, zw_1, zs_ireturn, zn_int, zn_b0, zn_b1, zb_15, zb_16, zb_17, za_18, za_19, za_20, za_21, za_22, zb_23, za_24, za_25, za_26, za_27, za_28, za_29, za_30, za_31, za_32, zb_35, za_36, za_37, za_38, za_39, za_40, zb_377, zb_378, za_379, za_380, za_381, za_382, za_383, zb_384, za_385, za_386, za_387, za_388, za_389, za_390, za_391, za_392, za_393, zb_396, za_397, za_398, za_399, za_400, za_401, zb_738, za_739, za_740, za_741, za_742, za_743, za_744, za_745, za_746, za_747, zb_748, za_749, za_750, zb_751, zb_752, za_753, za_754, za_755, za_756, zb_757, za_758, za_759, za_760, zb_761, za_763, za_764, za_765, true_and, and_true, Nat.reduceAdd]
  rw [show zk_F c = true from decide_eq_true (by omega)]; rfl
theorem c5_isLetter {E : zm_E} (hE : zm_ok E.2.2.1 E.2.2.2.2) (d : Nat) {c : Nat} (hc : c < 256) (M : zm_M) : zm_R E (d + 1) mX5_isLetter [.int (nI c)] M (fun r M' => r = some (.int (zi_b (zk_L c))) ∧ M' = M) := by
  refine zX5_isLetter hE rfl (fun G h0 h12 h24 h28 h29 => ?_)
  show G 0 [some (.int (nI c))] [] M
  have no : zk_L c = false → G 28 [some (.int (nI c))] [] M := by
    intro h
    refine h28 _ _ _ ?_
    simp only [bX5_isLetter_28, zw_0, zw_1, zs_iconst, zb_15, zb_16, zb_17, za_18, za_19, za_20, za_21, za_22, zb_23, za_24, za_25, za_26, za_27, za_28, za_29, za_30, za_31, za_32, zb_35, za_36, za_37, za_38, za_39, za_40, zb_377, zb_378, za_379, za_380, za_381, za_382, za_383, zb_384, za_385, za_386, za_387, za_388, za_389, za_390, za_391, za_392, za_393, zb_396, za_397, za_398, za_399, za_400, za_401, zb_738, za_739, za_740, za_741, za_742, za_743, za_744, za_745, za_746, za_747, zb_748, za_749, za_750, zb_751, zb_752, za_753, za_754, za_755, za_756, zb_757, za_758, za_759, za_760, zb_761, za_763, za_764, za_765, true_and, and_true, Nat.reduceAdd]
    refine h29 _ _ _ ?_
    simp only [bX5_isLetter_29, zw_0, zw_1, zs_ireturn, zn_int, zn_b0, zn_b1, zb_15, zb_16, zb_17, za_18, za_19, za_20, za_21, za_22, zb_23, za_24, za_25, za_26, za_27, za_28, za_29, za_30, za_31, za_32, zb_35, za_36, za_37, za_38, za_39, za_40, zb_377, zb_378, za_379, za_380, za_381, za_382, za_383, zb_384, za_385, za_386, za_387, za_388, za_389, za_390, za_391, za_392, za_393, zb_396, za_397, za_398, za_399, za_400, za_401, zb_738, za_739, za_740, za_741, za_742, za_743, za_744, za_745, za_746, za_747, zb_748, za_749, za_750, zb_751, zb_752, za_753, za_754, za_755, za_756, zb_757, za_758, za_759, za_760, zb_761, za_763, za_764, za_765, true_and, and_true, Nat.reduceAdd]
    rw [h]; rfl
  have yes : zk_L c = true → G 24 [some (.int (nI c))] [] M := by
    intro h
    refine h24 _ _ _ ?_
    simp only [bX5_isLetter_24, zw_0, zw_1, zs_iconst, zs_goto, zb_15, zb_16, zb_17, za_18, za_19, za_20, za_21, za_22, zb_23, za_24, za_25, za_26, za_27, za_28, za_29, za_30, za_31, za_32, zb_35, za_36, za_37, za_38, za_39, za_40, zb_377, zb_378, za_379, za_380, za_381, za_382, za_383, zb_384, za_385, za_386, za_387, za_388, za_389, za_390, za_391, za_392, za_393, zb_396, za_397, za_398, za_399, za_400, za_401, zb_738, za_739, za_740, za_741, za_742, za_743, za_744, za_745, za_746, za_747, zb_748, za_749, za_750, zb_751, zb_752, za_753, za_754, za_755, za_756, zb_757, za_758, za_759, za_760, zb_761, za_763, za_764, za_765, true_and, and_true, Nat.reduceAdd]
    refine h29 _ _ _ ?_
    simp only [bX5_isLetter_29, zw_0, zw_1, zs_ireturn, zn_int, zn_b0, zn_b1, zb_15, zb_16, zb_17, za_18, za_19, za_20, za_21, za_22, zb_23, za_24, za_25, za_26, za_27, za_28, za_29, za_30, za_31, za_32, zb_35, za_36, za_37, za_38, za_39, za_40, zb_377, zb_378, za_379, za_380, za_381, za_382, za_383, zb_384, za_385, za_386, za_387, za_388, za_389, za_390, za_391, za_392, za_393, zb_396, za_397, za_398, za_399, za_400, za_401, zb_738, za_739, za_740, za_741, za_742, za_743, za_744, za_745, za_746, za_747, zb_748, za_749, za_750, zb_751, zb_752, za_753, za_754, za_755, za_756, zb_757, za_758, za_759, za_760, zb_761, za_763, za_764, za_765, true_and, and_true, Nat.reduceAdd]
    rw [h]; rfl
  have e1 : (nI c < 97) = (c < 97) := propext (nI_ltI (b := 97) (by omega) (by decide))
  have e2 : (nI c ≤ 122) = (c ≤ 122) := propext (nI_leI (b := 122) (by omega) (by decide))
  have e3 : (nI c < 65) = (c < 65) := propext (nI_ltI (b := 65) (by omega) (by decide))
  have e4 : ((90 : Int32) < nI c) = (90 < c) := propext (nI_ltI (a := 90) (by decide) (by omega))
  have up : ¬ (97 ≤ c ∧ c ≤ 122) → G 12 [some (.int (nI c))] [] M := by
    intro h
    refine h12 _ _ _ ?_
    simp only [bX5_isLetter_12, zw_0, zw_1, zs_iloadn0, zs_bipush, zs_iclt, zs_icgt, zb_15, zb_16, zb_17, za_18, za_19, za_20, za_21, za_22, zb_23, za_24, za_25, za_26, za_27, za_28, za_29, za_30, za_31, za_32, zb_35, za_36, za_37, za_38, za_39, za_40, zb_377, zb_378, za_379, za_380, za_381, za_382, za_383, zb_384, za_385, za_386, za_387, za_388, za_389, za_390, za_391, za_392, za_393, zb_396, za_397, za_398, za_399, za_400, za_401, zb_738, za_739, za_740, za_741, za_742, za_743, za_744, za_745, za_746, za_747, zb_748, za_749, za_750, zb_751, zb_752, za_753, za_754, za_755, za_756, zb_757, za_758, za_759, za_760, zb_761, za_763, za_764, za_765, true_and, and_true, Nat.reduceAdd, e3, e4]
    refine ⟨fun h2 => no ?_, fun h2 => ⟨fun h3 => no ?_, fun h3 => yes ?_⟩⟩
    · unfold zk_L; rw [decide_eq_false h, decide_eq_false (p := 65 ≤ c ∧ c ≤ 90) (by omega), Bool.or_false]
    · unfold zk_L; rw [decide_eq_false h, decide_eq_false (p := 65 ≤ c ∧ c ≤ 90) (by omega), Bool.or_false]
    · unfold zk_L; rw [decide_eq_true (p := 65 ≤ c ∧ c ≤ 90) (by omega), Bool.or_true]
  refine h0 _ _ _ ?_
  simp only [bX5_isLetter_0, zw_0, zw_1, zs_iloadn0, zs_bipush, zs_iclt, zs_icle, zb_15, zb_16, zb_17, za_18, za_19, za_20, za_21, za_22, zb_23, za_24, za_25, za_26, za_27, za_28, za_29, za_30, za_31, za_32, zb_35, za_36, za_37, za_38, za_39, za_40, zb_377, zb_378, za_379, za_380, za_381, za_382, za_383, zb_384, za_385, za_386, za_387, za_388, za_389, za_390, za_391, za_392, za_393, zb_396, za_397, za_398, za_399, za_400, za_401, zb_738, za_739, za_740, za_741, za_742, za_743, za_744, za_745, za_746, za_747, zb_748, za_749, za_750, zb_751, zb_752, za_753, za_754, za_755, za_756, zb_757, za_758, za_759, za_760, zb_761, za_763, za_764, za_765, true_and, and_true, Nat.reduceAdd, e1, e2]
  refine ⟨fun h => up (by omega), fun h => ⟨fun h2 => yes ?_, fun h2 => up (by omega)⟩⟩
  unfold zk_L; rw [decide_eq_true (p := 97 ≤ c ∧ c ≤ 122) (by omega), Bool.true_or]
theorem zk_rn_1 {P : Nat → Bool} {tp : Nat → Nat} {n s : Nat} (h : s < n) (hP : P (tp s) = true) : ∃ m, n ≤ s + 1 + m ∧ zk_rn P tp n n s = zk_rn P tp n m (s + 1) := by
  have key : ∀ k, k + 1 = n → zk_rn P tp n (k + 1) s = zk_rn P tp n k (s + 1) := by
    intro k _
    simp only [zk_rn]
    rw [if_pos ⟨h, hP⟩]
  refine ⟨n - 1, by omega, ?_⟩
  have := key (n - 1) (by omega)
  rw [show n - 1 + 1 = n by omega] at this
  exact this
theorem c5_endOfToken {E : zm_E} (hE : zm_ok E.2.2.1 E.2.2.2.2) (d : Nat) {tp : Nat → Nat} {n s : Nat} {M : zm_M} (hT : zk_tc tp n M) (hs : s < n) : zm_R E (d + 2) mX5_endOfToken [.ref 765, .int (nI s), .int (nI n)] M (fun r M' => r = some (.int (nI (zk_en tp n s))) ∧ M' = M) := by
  refine zX5_endOfToken hE rfl (fun G h0 h16 h38 h45 h67 h79 h97 => ?_)
  show G 0 [some (.ref 765), some (.int (nI s)), some (.int (nI n)), none, none] [] M
  obtain ⟨n300, hb, ht⟩ := hT
  have tl := ht s
  have fin : ∀ e, zk_en tp n s = e → G 97 [some (.ref 765), some (.int (nI s)), some (.int (nI n)), some (.int (nI (tp s))), some (.int (nI e))] [] M := by
    intro e h
    refine h97 _ _ _ ?_
    simp only [bX5_endOfToken_97, zw_0, zw_1, zs_iload4, zs_ireturn, zn_int, zn_b0, zn_b1, zb_15, zb_16, zb_17, za_18, za_19, za_20, za_21, za_22, zb_23, za_24, za_25, za_26, za_27, za_28, za_29, za_30, za_31, za_32, zb_35, za_36, za_37, za_38, za_39, za_40, zb_377, zb_378, za_379, za_380, za_381, za_382, za_383, zb_384, za_385, za_386, za_387, za_388, za_389, za_390, za_391, za_392, za_393, zb_396, za_397, za_398, za_399, za_400, za_401, zb_738, za_739, za_740, za_741, za_742, za_743, za_744, za_745, za_746, za_747, zb_748, za_749, za_750, zb_751, zb_752, za_753, za_754, za_755, za_756, zb_757, za_758, za_759, za_760, zb_761, za_763, za_764, za_765, true_and, and_true, Nat.reduceAdd]
    rw [h]
  have vs : vp_in (nI s) 300 := vp_in_nI (by omega) (by decide)
  have vs2 : (nI s).toNatClampNeg = s := nI_clamp (by omega)
  have ms := hb s hs
  refine h0 _ _ _ ?_
  simp only [bX5_endOfToken_0, zw_0, zw_1, zs_aloadn0, zs_aloadNn0, zs_iloadn1, zs_caload, zs_istoren3, zs_iconst, zs_iadd, zs_istore4, zs_iloadn3, zi_5_78, zs_ifeq, zc_none, zc_int, zc_ref, zc_null, zc_long, zh_0, zh_1, zh_2, zh_3, zh_4, zt_i, zt_l, zt_r, zt_n, zb_15, zb_16, zb_17, za_18, za_19, za_20, za_21, za_22, zb_23, za_24, za_25, za_26, za_27, za_28, za_29, za_30, za_31, za_32, zb_35, za_36, za_37, za_38, za_39, za_40, zb_377, zb_378, za_379, za_380, za_381, za_382, za_383, zb_384, za_385, za_386, za_387, za_388, za_389, za_390, za_391, za_392, za_393, zb_396, za_397, za_398, za_399, za_400, za_401, zb_738, za_739, za_740, za_741, za_742, za_743, za_744, za_745, za_746, za_747, zb_748, za_749, za_750, zb_751, zb_752, za_753, za_754, za_755, za_756, zb_757, za_758, za_759, za_760, zb_761, za_763, za_764, za_765, zu_0, zu_1, zu_2, zu_3, zu_4, zu_5, zu_6, zu_7, zu_8, zu_9, zu_10, zu_11, zu_12, zu_13, zu_14, zu_15, zu_16, zu_17, zu_18, zu_19, zu_20, zu_21, zu_22, zu_23, zu_24, zu_25, zu_26, zu_27, zu_28, zu_29, zu_30, zu_90, zv_0_9, zv_1_9, zv_2_9, zv_3_9, zv_4_9, zv_5_9, zv_6_9, zv_7_9, zv_8_9, zv_0_330, zv_0_4544, zv_1_4544, zv_2_4544, zv_3_4544, zv_4_4544, zv_5_4544, zv_6_4544, zv_7_4544, zv_8_4544, zv_9_4544, zv_10_4544, zv_11_4544, zv_12_4544, zv_13_4544, zv_14_4544, zv_15_4544, zv_16_4544, zv_17_4544, zv_18_4544, zv_19_4544, zv_20_4544, zv_21_4544, zv_22_4544, zv_23_4544, zv_24_4544, zv_25_4544, zv_26_4544, zv_27_4544, zv_28_4544, zv_29_4544, zv_0_11, zv_1_11, zv_0_160, true_and, and_true, Nat.reduceAdd, vs, vs2, ms, nI_1]
  refine zm_R_eq (c5_isDigit hE d tl M) ?_
  simp only [bX5_endOfToken_0, zw_0, zw_1, zs_aloadn0, zs_aloadNn0, zs_iloadn1, zs_caload, zs_istoren3, zs_iconst, zs_iadd, zs_istore4, zs_iloadn3, zi_5_78, zs_ifeq, zc_none, zc_int, zc_ref, zc_null, zc_long, zh_0, zh_1, zh_2, zh_3, zh_4, zt_i, zt_l, zt_r, zt_n, zb_15, zb_16, zb_17, za_18, za_19, za_20, za_21, za_22, zb_23, za_24, za_25, za_26, za_27, za_28, za_29, za_30, za_31, za_32, zb_35, za_36, za_37, za_38, za_39, za_40, zb_377, zb_378, za_379, za_380, za_381, za_382, za_383, zb_384, za_385, za_386, za_387, za_388, za_389, za_390, za_391, za_392, za_393, zb_396, za_397, za_398, za_399, za_400, za_401, zb_738, za_739, za_740, za_741, za_742, za_743, za_744, za_745, za_746, za_747, zb_748, za_749, za_750, zb_751, zb_752, za_753, za_754, za_755, za_756, zb_757, za_758, za_759, za_760, zb_761, za_763, za_764, za_765, zu_0, zu_1, zu_2, zu_3, zu_4, zu_5, zu_6, zu_7, zu_8, zu_9, zu_10, zu_11, zu_12, zu_13, zu_14, zu_15, zu_16, zu_17, zu_18, zu_19, zu_20, zu_21, zu_22, zu_23, zu_24, zu_25, zu_26, zu_27, zu_28, zu_29, zu_30, zu_90, zv_0_9, zv_1_9, zv_2_9, zv_3_9, zv_4_9, zv_5_9, zv_6_9, zv_7_9, zv_8_9, zv_0_330, zv_0_4544, zv_1_4544, zv_2_4544, zv_3_4544, zv_4_4544, zv_5_4544, zv_6_4544, zv_7_4544, zv_8_4544, zv_9_4544, zv_10_4544, zv_11_4544, zv_12_4544, zv_13_4544, zv_14_4544, zv_15_4544, zv_16_4544, zv_17_4544, zv_18_4544, zv_19_4544, zv_20_4544, zv_21_4544, zv_22_4544, zv_23_4544, zv_24_4544, zv_25_4544, zv_26_4544, zv_27_4544, zv_28_4544, zv_29_4544, zv_0_11, zv_1_11, zv_0_160, true_and, and_true, Nat.reduceAdd, zi_b0]
  have figs : ∀ (f x : Nat), x ≤ n → n ≤ x + f → zk_en tp n s = zk_rn zk_F tp n f x → G 16 [some (.ref 765), some (.int (nI s)), some (.int (nI n)), some (.int (nI (tp s))), some (.int (nI x))] [] M := by
    intro f
    induction f with
    | zero =>
      intro x xn nx e
      refine h16 _ _ _ ?_
      simp only [bX5_endOfToken_16, zw_0, zw_1, zs_iload4, zs_iloadn2, zs_icge, zs_aloadn0, zs_aloadNn0, zs_caload, zi_5_78, zs_ifeq, zs_iinc4, zs_goto, zc_none, zc_int, zc_ref, zc_null, zc_long, zh_0, zh_1, zh_2, zh_3, zh_4, zt_i, zt_l, zt_r, zt_n, zb_15, zb_16, zb_17, za_18, za_19, za_20, za_21, za_22, zb_23, za_24, za_25, za_26, za_27, za_28, za_29, za_30, za_31, za_32, zb_35, za_36, za_37, za_38, za_39, za_40, zb_377, zb_378, za_379, za_380, za_381, za_382, za_383, zb_384, za_385, za_386, za_387, za_388, za_389, za_390, za_391, za_392, za_393, zb_396, za_397, za_398, za_399, za_400, za_401, zb_738, za_739, za_740, za_741, za_742, za_743, za_744, za_745, za_746, za_747, zb_748, za_749, za_750, zb_751, zb_752, za_753, za_754, za_755, za_756, zb_757, za_758, za_759, za_760, zb_761, za_763, za_764, za_765, zu_0, zu_1, zu_2, zu_3, zu_4, zu_5, zu_6, zu_7, zu_8, zu_9, zu_10, zu_11, zu_12, zu_13, zu_14, zu_15, zu_16, zu_17, zu_18, zu_19, zu_20, zu_21, zu_22, zu_23, zu_24, zu_25, zu_26, zu_27, zu_28, zu_29, zu_30, zu_90, zv_0_9, zv_1_9, zv_2_9, zv_3_9, zv_4_9, zv_5_9, zv_6_9, zv_7_9, zv_8_9, zv_0_330, zv_0_4544, zv_1_4544, zv_2_4544, zv_3_4544, zv_4_4544, zv_5_4544, zv_6_4544, zv_7_4544, zv_8_4544, zv_9_4544, zv_10_4544, zv_11_4544, zv_12_4544, zv_13_4544, zv_14_4544, zv_15_4544, zv_16_4544, zv_17_4544, zv_18_4544, zv_19_4544, zv_20_4544, zv_21_4544, zv_22_4544, zv_23_4544, zv_24_4544, zv_25_4544, zv_26_4544, zv_27_4544, zv_28_4544, zv_29_4544, zv_0_11, zv_1_11, zv_0_160, true_and, and_true, Nat.reduceAdd]
      exact ⟨fun _ => fin x e, fun h => absurd (nI_le (by omega) (by omega)) h⟩
    | succ f ih =>
      intro x xn nx e
      have vx2 : (nI x).toNatClampNeg = x := nI_clamp (by omega)
      have ex : (nI n ≤ nI x) = (n ≤ x) := propext (nI_leI (by omega) (by omega))
      simp only [zk_rn] at e
      refine h16 _ _ _ ?_
      simp only [bX5_endOfToken_16, zw_0, zw_1, zs_iload4, zs_iloadn2, zs_icge, zs_aloadn0, zs_aloadNn0, zs_caload, zi_5_78, zs_ifeq, zs_iinc4, zs_goto, zc_none, zc_int, zc_ref, zc_null, zc_long, zh_0, zh_1, zh_2, zh_3, zh_4, zt_i, zt_l, zt_r, zt_n, zb_15, zb_16, zb_17, za_18, za_19, za_20, za_21, za_22, zb_23, za_24, za_25, za_26, za_27, za_28, za_29, za_30, za_31, za_32, zb_35, za_36, za_37, za_38, za_39, za_40, zb_377, zb_378, za_379, za_380, za_381, za_382, za_383, zb_384, za_385, za_386, za_387, za_388, za_389, za_390, za_391, za_392, za_393, zb_396, za_397, za_398, za_399, za_400, za_401, zb_738, za_739, za_740, za_741, za_742, za_743, za_744, za_745, za_746, za_747, zb_748, za_749, za_750, zb_751, zb_752, za_753, za_754, za_755, za_756, zb_757, za_758, za_759, za_760, zb_761, za_763, za_764, za_765, zu_0, zu_1, zu_2, zu_3, zu_4, zu_5, zu_6, zu_7, zu_8, zu_9, zu_10, zu_11, zu_12, zu_13, zu_14, zu_15, zu_16, zu_17, zu_18, zu_19, zu_20, zu_21, zu_22, zu_23, zu_24, zu_25, zu_26, zu_27, zu_28, zu_29, zu_30, zu_90, zv_0_9, zv_1_9, zv_2_9, zv_3_9, zv_4_9, zv_5_9, zv_6_9, zv_7_9, zv_8_9, zv_0_330, zv_0_4544, zv_1_4544, zv_2_4544, zv_3_4544, zv_4_4544, zv_5_4544, zv_6_4544, zv_7_4544, zv_8_4544, zv_9_4544, zv_10_4544, zv_11_4544, zv_12_4544, zv_13_4544, zv_14_4544, zv_15_4544, zv_16_4544, zv_17_4544, zv_18_4544, zv_19_4544, zv_20_4544, zv_21_4544, zv_22_4544, zv_23_4544, zv_24_4544, zv_25_4544, zv_26_4544, zv_27_4544, zv_28_4544, zv_29_4544, zv_0_11, zv_1_11, zv_0_160, true_and, and_true, Nat.reduceAdd, ex, vx2]
      refine ⟨fun h => fin x (by rw [if_neg (by omega)] at e; exact e), fun h => ?_⟩
      have vx : vp_in (nI x) 300 := vp_in_nI (by omega) (by decide)
      refine ⟨vx, ?_⟩
      rw [hb x (by omega)]
      refine zm_R_eq (c5_isDigit hE d (ht x) M) ?_
      simp only [bX5_endOfToken_16, zw_0, zw_1, zs_iload4, zs_iloadn2, zs_icge, zs_aloadn0, zs_aloadNn0, zs_caload, zi_5_78, zs_ifeq, zs_iinc4, zs_goto, zc_none, zc_int, zc_ref, zc_null, zc_long, zh_0, zh_1, zh_2, zh_3, zh_4, zt_i, zt_l, zt_r, zt_n, zb_15, zb_16, zb_17, za_18, za_19, za_20, za_21, za_22, zb_23, za_24, za_25, za_26, za_27, za_28, za_29, za_30, za_31, za_32, zb_35, za_36, za_37, za_38, za_39, za_40, zb_377, zb_378, za_379, za_380, za_381, za_382, za_383, zb_384, za_385, za_386, za_387, za_388, za_389, za_390, za_391, za_392, za_393, zb_396, za_397, za_398, za_399, za_400, za_401, zb_738, za_739, za_740, za_741, za_742, za_743, za_744, za_745, za_746, za_747, zb_748, za_749, za_750, zb_751, zb_752, za_753, za_754, za_755, za_756, zb_757, za_758, za_759, za_760, zb_761, za_763, za_764, za_765, zu_0, zu_1, zu_2, zu_3, zu_4, zu_5, zu_6, zu_7, zu_8, zu_9, zu_10, zu_11, zu_12, zu_13, zu_14, zu_15, zu_16, zu_17, zu_18, zu_19, zu_20, zu_21, zu_22, zu_23, zu_24, zu_25, zu_26, zu_27, zu_28, zu_29, zu_30, zu_90, zv_0_9, zv_1_9, zv_2_9, zv_3_9, zv_4_9, zv_5_9, zv_6_9, zv_7_9, zv_8_9, zv_0_330, zv_0_4544, zv_1_4544, zv_2_4544, zv_3_4544, zv_4_4544, zv_5_4544, zv_6_4544, zv_7_4544, zv_8_4544, zv_9_4544, zv_10_4544, zv_11_4544, zv_12_4544, zv_13_4544, zv_14_4544, zv_15_4544, zv_16_4544, zv_17_4544, zv_18_4544, zv_19_4544, zv_20_4544, zv_21_4544, zv_22_4544, zv_23_4544, zv_24_4544, zv_25_4544, zv_26_4544, zv_27_4544, zv_28_4544, zv_29_4544, zv_0_11, zv_1_11, zv_0_160, true_and, and_true, Nat.reduceAdd, zi_b0, nI_1]
      refine ⟨fun h2 => fin x (by rw [if_neg (by rw [h2]; simp)] at e; exact e), fun h2 => ?_⟩
      have h2 : zk_F (tp x) = true := by simpa using h2
      rw [if_pos ⟨by omega, h2⟩] at e
      exact ih (x + 1) (by omega) (by omega) e
  have lets : ∀ (f x : Nat), x ≤ n → n ≤ x + f → zk_en tp n s = zk_rn zk_L tp n f x → G 45 [some (.ref 765), some (.int (nI s)), some (.int (nI n)), some (.int (nI (tp s))), some (.int (nI x))] [] M := by
    intro f
    induction f with
    | zero =>
      intro x xn nx e
      refine h45 _ _ _ ?_
      simp only [bX5_endOfToken_45, zw_0, zw_1, zs_iload4, zs_iloadn2, zs_icge, zs_aloadn0, zs_aloadNn0, zs_caload, zi_5_95, zs_ifeq, zs_iinc4, zs_goto, zc_none, zc_int, zc_ref, zc_null, zc_long, zh_0, zh_1, zh_2, zh_3, zh_4, zt_i, zt_l, zt_r, zt_n, zb_15, zb_16, zb_17, za_18, za_19, za_20, za_21, za_22, zb_23, za_24, za_25, za_26, za_27, za_28, za_29, za_30, za_31, za_32, zb_35, za_36, za_37, za_38, za_39, za_40, zb_377, zb_378, za_379, za_380, za_381, za_382, za_383, zb_384, za_385, za_386, za_387, za_388, za_389, za_390, za_391, za_392, za_393, zb_396, za_397, za_398, za_399, za_400, za_401, zb_738, za_739, za_740, za_741, za_742, za_743, za_744, za_745, za_746, za_747, zb_748, za_749, za_750, zb_751, zb_752, za_753, za_754, za_755, za_756, zb_757, za_758, za_759, za_760, zb_761, za_763, za_764, za_765, zu_0, zu_1, zu_2, zu_3, zu_4, zu_5, zu_6, zu_7, zu_8, zu_9, zu_10, zu_11, zu_12, zu_13, zu_14, zu_15, zu_16, zu_17, zu_18, zu_19, zu_20, zu_21, zu_22, zu_23, zu_24, zu_25, zu_26, zu_27, zu_28, zu_29, zu_30, zu_90, zv_0_9, zv_1_9, zv_2_9, zv_3_9, zv_4_9, zv_5_9, zv_6_9, zv_7_9, zv_8_9, zv_0_330, zv_0_4544, zv_1_4544, zv_2_4544, zv_3_4544, zv_4_4544, zv_5_4544, zv_6_4544, zv_7_4544, zv_8_4544, zv_9_4544, zv_10_4544, zv_11_4544, zv_12_4544, zv_13_4544, zv_14_4544, zv_15_4544, zv_16_4544, zv_17_4544, zv_18_4544, zv_19_4544, zv_20_4544, zv_21_4544, zv_22_4544, zv_23_4544, zv_24_4544, zv_25_4544, zv_26_4544, zv_27_4544, zv_28_4544, zv_29_4544, zv_0_11, zv_1_11, zv_0_160, true_and, and_true, Nat.reduceAdd]
      exact ⟨fun _ => fin x e, fun h => absurd (nI_le (by omega) (by omega)) h⟩
    | succ f ih =>
      intro x xn nx e
      have vx2 : (nI x).toNatClampNeg = x := nI_clamp (by omega)
      have ex : (nI n ≤ nI x) = (n ≤ x) := propext (nI_leI (by omega) (by omega))
      simp only [zk_rn] at e
      refine h45 _ _ _ ?_
      simp only [bX5_endOfToken_45, zw_0, zw_1, zs_iload4, zs_iloadn2, zs_icge, zs_aloadn0, zs_aloadNn0, zs_caload, zi_5_95, zs_ifeq, zs_iinc4, zs_goto, zc_none, zc_int, zc_ref, zc_null, zc_long, zh_0, zh_1, zh_2, zh_3, zh_4, zt_i, zt_l, zt_r, zt_n, zb_15, zb_16, zb_17, za_18, za_19, za_20, za_21, za_22, zb_23, za_24, za_25, za_26, za_27, za_28, za_29, za_30, za_31, za_32, zb_35, za_36, za_37, za_38, za_39, za_40, zb_377, zb_378, za_379, za_380, za_381, za_382, za_383, zb_384, za_385, za_386, za_387, za_388, za_389, za_390, za_391, za_392, za_393, zb_396, za_397, za_398, za_399, za_400, za_401, zb_738, za_739, za_740, za_741, za_742, za_743, za_744, za_745, za_746, za_747, zb_748, za_749, za_750, zb_751, zb_752, za_753, za_754, za_755, za_756, zb_757, za_758, za_759, za_760, zb_761, za_763, za_764, za_765, zu_0, zu_1, zu_2, zu_3, zu_4, zu_5, zu_6, zu_7, zu_8, zu_9, zu_10, zu_11, zu_12, zu_13, zu_14, zu_15, zu_16, zu_17, zu_18, zu_19, zu_20, zu_21, zu_22, zu_23, zu_24, zu_25, zu_26, zu_27, zu_28, zu_29, zu_30, zu_90, zv_0_9, zv_1_9, zv_2_9, zv_3_9, zv_4_9, zv_5_9, zv_6_9, zv_7_9, zv_8_9, zv_0_330, zv_0_4544, zv_1_4544, zv_2_4544, zv_3_4544, zv_4_4544, zv_5_4544, zv_6_4544, zv_7_4544, zv_8_4544, zv_9_4544, zv_10_4544, zv_11_4544, zv_12_4544, zv_13_4544, zv_14_4544, zv_15_4544, zv_16_4544, zv_17_4544, zv_18_4544, zv_19_4544, zv_20_4544, zv_21_4544, zv_22_4544, zv_23_4544, zv_24_4544, zv_25_4544, zv_26_4544, zv_27_4544, zv_28_4544, zv_29_4544, zv_0_11, zv_1_11, zv_0_160, true_and, and_true, Nat.reduceAdd, ex, vx2]
      refine ⟨fun h => fin x (by rw [if_neg (by omega)] at e; exact e), fun h => ?_⟩
      have vx : vp_in (nI x) 300 := vp_in_nI (by omega) (by decide)
      refine ⟨vx, ?_⟩
      rw [hb x (by omega)]
      refine zm_R_eq (c5_isLetter hE d (ht x) M) ?_
      simp only [bX5_endOfToken_45, zw_0, zw_1, zs_iload4, zs_iloadn2, zs_icge, zs_aloadn0, zs_aloadNn0, zs_caload, zi_5_95, zs_ifeq, zs_iinc4, zs_goto, zc_none, zc_int, zc_ref, zc_null, zc_long, zh_0, zh_1, zh_2, zh_3, zh_4, zt_i, zt_l, zt_r, zt_n, zb_15, zb_16, zb_17, za_18, za_19, za_20, za_21, za_22, zb_23, za_24, za_25, za_26, za_27, za_28, za_29, za_30, za_31, za_32, zb_35, za_36, za_37, za_38, za_39, za_40, zb_377, zb_378, za_379, za_380, za_381, za_382, za_383, zb_384, za_385, za_386, za_387, za_388, za_389, za_390, za_391, za_392, za_393, zb_396, za_397, za_398, za_399, za_400, za_401, zb_738, za_739, za_740, za_741, za_742, za_743, za_744, za_745, za_746, za_747, zb_748, za_749, za_750, zb_751, zb_752, za_753, za_754, za_755, za_756, zb_757, za_758, za_759, za_760, zb_761, za_763, za_764, za_765, zu_0, zu_1, zu_2, zu_3, zu_4, zu_5, zu_6, zu_7, zu_8, zu_9, zu_10, zu_11, zu_12, zu_13, zu_14, zu_15, zu_16, zu_17, zu_18, zu_19, zu_20, zu_21, zu_22, zu_23, zu_24, zu_25, zu_26, zu_27, zu_28, zu_29, zu_30, zu_90, zv_0_9, zv_1_9, zv_2_9, zv_3_9, zv_4_9, zv_5_9, zv_6_9, zv_7_9, zv_8_9, zv_0_330, zv_0_4544, zv_1_4544, zv_2_4544, zv_3_4544, zv_4_4544, zv_5_4544, zv_6_4544, zv_7_4544, zv_8_4544, zv_9_4544, zv_10_4544, zv_11_4544, zv_12_4544, zv_13_4544, zv_14_4544, zv_15_4544, zv_16_4544, zv_17_4544, zv_18_4544, zv_19_4544, zv_20_4544, zv_21_4544, zv_22_4544, zv_23_4544, zv_24_4544, zv_25_4544, zv_26_4544, zv_27_4544, zv_28_4544, zv_29_4544, zv_0_11, zv_1_11, zv_0_160, true_and, and_true, Nat.reduceAdd, zi_b0, nI_1]
      refine ⟨fun h2 => fin x (by rw [if_neg (by rw [h2]; simp)] at e; exact e), fun h2 => ?_⟩
      have h2 : zk_L (tp x) = true := by simpa using h2
      rw [if_pos ⟨by omega, h2⟩] at e
      exact ih (x + 1) (by omega) (by omega) e
  refine ⟨fun hF => ?_, fun hF => ?_⟩
  · refine h38 _ _ _ ?_
    simp only [bX5_endOfToken_38, zw_0, zw_1, zs_iloadn3, zi_5_95, zs_ifeq, zh_0, zh_1, zh_2, zh_3, zh_4, zt_i, zt_l, zt_r, zt_n, zb_15, zb_16, zb_17, za_18, za_19, za_20, za_21, za_22, zb_23, za_24, za_25, za_26, za_27, za_28, za_29, za_30, za_31, za_32, zb_35, za_36, za_37, za_38, za_39, za_40, zb_377, zb_378, za_379, za_380, za_381, za_382, za_383, zb_384, za_385, za_386, za_387, za_388, za_389, za_390, za_391, za_392, za_393, zb_396, za_397, za_398, za_399, za_400, za_401, zb_738, za_739, za_740, za_741, za_742, za_743, za_744, za_745, za_746, za_747, zb_748, za_749, za_750, zb_751, zb_752, za_753, za_754, za_755, za_756, zb_757, za_758, za_759, za_760, zb_761, za_763, za_764, za_765, true_and, and_true, Nat.reduceAdd]
    refine zm_R_eq (c5_isLetter hE d tl M) ?_
    simp only [bX5_endOfToken_38, zw_0, zw_1, zs_iloadn3, zi_5_95, zs_ifeq, zh_0, zh_1, zh_2, zh_3, zh_4, zt_i, zt_l, zt_r, zt_n, zb_15, zb_16, zb_17, za_18, za_19, za_20, za_21, za_22, zb_23, za_24, za_25, za_26, za_27, za_28, za_29, za_30, za_31, za_32, zb_35, za_36, za_37, za_38, za_39, za_40, zb_377, zb_378, za_379, za_380, za_381, za_382, za_383, zb_384, za_385, za_386, za_387, za_388, za_389, za_390, za_391, za_392, za_393, zb_396, za_397, za_398, za_399, za_400, za_401, zb_738, za_739, za_740, za_741, za_742, za_743, za_744, za_745, za_746, za_747, zb_748, za_749, za_750, zb_751, zb_752, za_753, za_754, za_755, za_756, zb_757, za_758, za_759, za_760, zb_761, za_763, za_764, za_765, true_and, and_true, Nat.reduceAdd, zi_b0]
    refine ⟨fun hL => ?_, fun hL => ?_⟩
    · have e60 : (nI (tp s) = 60) = (tp s = 60) := propext (nI_eq (b := 60) (by omega) (by decide))
      have e62 : (nI (tp s) = 62) = (tp s = 62) := propext (nI_eq (b := 62) (by omega) (by decide))
      have ex : (nI n ≤ nI (s + 1)) = (n ≤ s + 1) := propext (nI_leI (by omega) (by omega))
      have vx2 : (nI (s + 1)).toNatClampNeg = s + 1 := nI_clamp (by omega)
      have een : zk_en tp n s = if (tp s = 60 ∨ tp s = 62) ∧ s + 1 < n ∧ tp (s + 1) = 61 then s + 2 else s + 1 := by
        unfold zk_en; rw [if_neg (by omega), if_neg (by rw [hF]; decide), if_neg (by rw [hL]; decide)]
      have more : (tp s = 60 ∨ tp s = 62) → G 79 [some (.ref 765), some (.int (nI s)), some (.int (nI n)), some (.int (nI (tp s))), some (.int (nI (s + 1)))] [] M := by
        intro h6
        refine h79 _ _ _ ?_
        simp only [bX5_endOfToken_79, zw_0, zw_1, zs_iload4, zs_iloadn2, zs_icge, zs_aloadn0, zs_aloadNn0, zs_caload, zs_bipush, zs_icne, zs_iinc4, zc_none, zc_int, zc_ref, zc_null, zc_long, zb_15, zb_16, zb_17, za_18, za_19, za_20, za_21, za_22, zb_23, za_24, za_25, za_26, za_27, za_28, za_29, za_30, za_31, za_32, zb_35, za_36, za_37, za_38, za_39, za_40, zb_377, zb_378, za_379, za_380, za_381, za_382, za_383, zb_384, za_385, za_386, za_387, za_388, za_389, za_390, za_391, za_392, za_393, zb_396, za_397, za_398, za_399, za_400, za_401, zb_738, za_739, za_740, za_741, za_742, za_743, za_744, za_745, za_746, za_747, zb_748, za_749, za_750, zb_751, zb_752, za_753, za_754, za_755, za_756, zb_757, za_758, za_759, za_760, zb_761, za_763, za_764, za_765, zu_0, zu_1, zu_2, zu_3, zu_4, zu_5, zu_6, zu_7, zu_8, zu_9, zu_10, zu_11, zu_12, zu_13, zu_14, zu_15, zu_16, zu_17, zu_18, zu_19, zu_20, zu_21, zu_22, zu_23, zu_24, zu_25, zu_26, zu_27, zu_28, zu_29, zu_30, zu_90, zv_0_9, zv_1_9, zv_2_9, zv_3_9, zv_4_9, zv_5_9, zv_6_9, zv_7_9, zv_8_9, zv_0_330, zv_0_4544, zv_1_4544, zv_2_4544, zv_3_4544, zv_4_4544, zv_5_4544, zv_6_4544, zv_7_4544, zv_8_4544, zv_9_4544, zv_10_4544, zv_11_4544, zv_12_4544, zv_13_4544, zv_14_4544, zv_15_4544, zv_16_4544, zv_17_4544, zv_18_4544, zv_19_4544, zv_20_4544, zv_21_4544, zv_22_4544, zv_23_4544, zv_24_4544, zv_25_4544, zv_26_4544, zv_27_4544, zv_28_4544, zv_29_4544, zv_0_11, zv_1_11, zv_0_160, true_and, and_true, Nat.reduceAdd, ex, vx2]
        refine ⟨fun h => fin _ (by rw [een, if_neg (by omega)]), fun h => ?_⟩
        have vx : vp_in (nI (s + 1)) 300 := vp_in_nI (by omega) (by decide)
        refine ⟨vx, ?_⟩
        have tl1 := ht (s + 1)
        have e61 : (nI (tp (s + 1)) = 61) = (tp (s + 1) = 61) := propext (nI_eq (b := 61) (by omega) (by decide))
        rw [hb (s + 1) (by omega), e61]
        refine ⟨fun h2 => fin _ (by rw [een, if_neg (fun z => h2 z.2.2)]), fun h2 => ?_⟩
        rw [nI_1]
        exact fin _ (by rw [een, if_pos ⟨h6, by omega, h2⟩])
      refine h67 _ _ _ ?_
      simp only [bX5_endOfToken_67, zw_0, zw_1, zs_iloadn3, zs_bipush, zs_iceq, zs_icne, zb_15, zb_16, zb_17, za_18, za_19, za_20, za_21, za_22, zb_23, za_24, za_25, za_26, za_27, za_28, za_29, za_30, za_31, za_32, zb_35, za_36, za_37, za_38, za_39, za_40, zb_377, zb_378, za_379, za_380, za_381, za_382, za_383, zb_384, za_385, za_386, za_387, za_388, za_389, za_390, za_391, za_392, za_393, zb_396, za_397, za_398, za_399, za_400, za_401, zb_738, za_739, za_740, za_741, za_742, za_743, za_744, za_745, za_746, za_747, zb_748, za_749, za_750, zb_751, zb_752, za_753, za_754, za_755, za_756, zb_757, za_758, za_759, za_760, zb_761, za_763, za_764, za_765, true_and, and_true, Nat.reduceAdd, e60, e62]
      exact ⟨fun h => more (Or.inl h), fun h => ⟨fun h2 => fin _ (by rw [een, if_neg (fun z => z.1.elim h h2)]), fun h2 => more (Or.inr h2)⟩⟩
    · have hL : zk_L (tp s) = true := by simpa using hL
      obtain ⟨m, hm, em⟩ := zk_rn_1 (tp := tp) hs hL
      refine lets m (s + 1) (by omega) (by omega) ?_
      unfold zk_en; rw [if_neg (by omega), if_neg (by rw [hF]; decide), if_pos hL, em]
  · have hF : zk_F (tp s) = true := by simpa using hF
    obtain ⟨m, hm, em⟩ := zk_rn_1 (tp := tp) hs hF
    refine figs m (s + 1) (by omega) (by omega) ?_
    unfold zk_en; rw [if_neg (by omega), if_pos hF, em]
/-- the number of figures, as the class has it -/
def zk_nc (tp : Nat → Nat) : Nat → Nat → Nat → Nat
  | 0, _, a => a
  | f + 1, p, a => zk_nc tp f (p + 1) (if 10000 < a * 10 + tp p - 48 then 10000 else a * 10 + tp p - 48)
theorem zk_nc_nr {tp : Nat → Nat} : ∀ (f p a b : Nat), (∀ j, p ≤ j → j < p + f → zk_F (tp j) = true) → b = (if a < 10000 then a else 10000) → zk_nc tp f p b = (if zk_nr tp f p a < 10000 then zk_nr tp f p a else 10000) := by
  intro f
  induction f with
  | zero => intro p a b _ h; exact h
  | succ f ih =>
    intro p a b hF h
    simp only [zk_nc, zk_nr]
    refine ih (p + 1) _ _ (fun j h1 h2 => hF j (by omega) (by omega)) ?_
    have h48 := of_decide_eq_true (hF p (Nat.le_refl _) (by omega))
    split at h
    · subst h
      (repeat' split) <;> omega
    · subst h
      (repeat' split) <;> omega
theorem zk_nc_in {tp : Nat → Nat} : ∀ (f p a : Nat), a ≤ 10000 → zk_nc tp f p a ≤ 10000 := by
  intro f
  induction f with
  | zero => intro p a h; exact h
  | succ f ih =>
    intro p a h
    simp only [zk_nc]
    refine ih _ _ ?_
    split <;> omega
theorem c5_numberFrom {E : zm_E} (hE : zm_ok E.2.2.1 E.2.2.2.2) (d : Nat) {tp : Nat → Nat} {n s e : Nat} {M : zm_M} (hT : zk_tc tp n M) (hse : s ≤ e) (he : e ≤ n) (hF : ∀ j, s ≤ j → j < e → zk_F (tp j) = true) : zm_R E (d + 1) mX5_numberFrom [.ref 765, .int (nI s), .int (nI e)] M (fun r M' => r = some (.int (nI (zk_nc tp (e - s) s 0))) ∧ M' = M) := by
  refine zX5_numberFrom hE rfl (fun G h0 h5 h36 => ?_)
  show G 0 [some (.ref 765), some (.int (nI s)), some (.int (nI e)), none, none] [] M
  obtain ⟨n300, hb, ht⟩ := hT
  have loop : ∀ (f x a : Nat), x + f = e → s ≤ x → a ≤ 10000 → zk_nc tp f x a = zk_nc tp (e - s) s 0 → G 5 [some (.ref 765), some (.int (nI s)), some (.int (nI e)), some (.int (nI a)), some (.int (nI x))] [] M := by
    intro f
    induction f with
    | zero =>
      intro x a hx sx ha ea
      refine h5 _ _ _ ?_
      simp only [bX5_numberFrom_5, zw_0, zw_1, zs_iload4, zs_iloadn2, zs_icge, zs_iloadn3, zs_bipush, zs_imul, zs_aloadn0, zs_aloadNn0, zs_caload, zs_iadd, zs_isub, zs_sipush, zi_5_55, zs_istoren3, zs_iinc4, zs_goto, zc_none, zc_int, zc_ref, zc_null, zc_long, zh_0, zh_1, zh_2, zh_3, zh_4, zt_i, zt_l, zt_r, zt_n, zb_15, zb_16, zb_17, za_18, za_19, za_20, za_21, za_22, zb_23, za_24, za_25, za_26, za_27, za_28, za_29, za_30, za_31, za_32, zb_35, za_36, za_37, za_38, za_39, za_40, zb_377, zb_378, za_379, za_380, za_381, za_382, za_383, zb_384, za_385, za_386, za_387, za_388, za_389, za_390, za_391, za_392, za_393, zb_396, za_397, za_398, za_399, za_400, za_401, zb_738, za_739, za_740, za_741, za_742, za_743, za_744, za_745, za_746, za_747, zb_748, za_749, za_750, zb_751, zb_752, za_753, za_754, za_755, za_756, zb_757, za_758, za_759, za_760, zb_761, za_763, za_764, za_765, zu_0, zu_1, zu_2, zu_3, zu_4, zu_5, zu_6, zu_7, zu_8, zu_9, zu_10, zu_11, zu_12, zu_13, zu_14, zu_15, zu_16, zu_17, zu_18, zu_19, zu_20, zu_21, zu_22, zu_23, zu_24, zu_25, zu_26, zu_27, zu_28, zu_29, zu_30, zu_90, zv_0_9, zv_1_9, zv_2_9, zv_3_9, zv_4_9, zv_5_9, zv_6_9, zv_7_9, zv_8_9, zv_0_330, zv_0_4544, zv_1_4544, zv_2_4544, zv_3_4544, zv_4_4544, zv_5_4544, zv_6_4544, zv_7_4544, zv_8_4544, zv_9_4544, zv_10_4544, zv_11_4544, zv_12_4544, zv_13_4544, zv_14_4544, zv_15_4544, zv_16_4544, zv_17_4544, zv_18_4544, zv_19_4544, zv_20_4544, zv_21_4544, zv_22_4544, zv_23_4544, zv_24_4544, zv_25_4544, zv_26_4544, zv_27_4544, zv_28_4544, zv_29_4544, zv_0_11, zv_1_11, zv_0_160, true_and, and_true, Nat.reduceAdd]
      refine ⟨fun _ => ?_, fun h => absurd (nI_le (by omega) (by omega)) h⟩
      refine h36 _ _ _ ?_
      simp only [bX5_numberFrom_36, zw_0, zw_1, zs_iloadn3, zs_ireturn, zn_int, zn_b0, zn_b1, zb_15, zb_16, zb_17, za_18, za_19, za_20, za_21, za_22, zb_23, za_24, za_25, za_26, za_27, za_28, za_29, za_30, za_31, za_32, zb_35, za_36, za_37, za_38, za_39, za_40, zb_377, zb_378, za_379, za_380, za_381, za_382, za_383, zb_384, za_385, za_386, za_387, za_388, za_389, za_390, za_391, za_392, za_393, zb_396, za_397, za_398, za_399, za_400, za_401, zb_738, za_739, za_740, za_741, za_742, za_743, za_744, za_745, za_746, za_747, zb_748, za_749, za_750, zb_751, zb_752, za_753, za_754, za_755, za_756, zb_757, za_758, za_759, za_760, zb_761, za_763, za_764, za_765, true_and, and_true, Nat.reduceAdd]
      rw [← ea]
      rfl
    | succ f ih =>
      intro x a hx sx ha ea
      have vx : vp_in (nI x) 300 := vp_in_nI (by omega) (by decide)
      have vx2 : (nI x).toNatClampNeg = x := nI_clamp (by omega)
      have mx := hb x (by omega)
      have tl := ht x
      have f48 := of_decide_eq_true (hF x sx (by omega))
      simp only [zk_nc] at ea
      have ev : nI a * 10 + nI (tp x) - 48 = nI (a * 10 + tp x - 48) := by
        rw [show nI a * (10 : Int32) = nI (a * 10) from pk_mul a 10, nI_add]
        exact zk_s48 (by omega)
      have em : (if (10000 : Int32) < nI (a * 10 + tp x - 48) then (10000 : Int32) else nI (a * 10 + tp x - 48)) = nI (if 10000 < a * 10 + tp x - 48 then 10000 else a * 10 + tp x - 48) := by
        have e1 : ((10000 : Int32) < nI (a * 10 + tp x - 48)) = (10000 < a * 10 + tp x - 48) := propext (nI_ltI (a := 10000) (by decide) (by omega))
        by_cases c : 10000 < a * 10 + tp x - 48
        · rw [if_pos (by rw [e1]; exact c), if_pos c]; rfl
        · rw [if_neg (by rw [e1]; exact c), if_neg c]
      refine h5 _ _ _ ?_
      simp only [bX5_numberFrom_5, zw_0, zw_1, zs_iload4, zs_iloadn2, zs_icge, zs_iloadn3, zs_bipush, zs_imul, zs_aloadn0, zs_aloadNn0, zs_caload, zs_iadd, zs_isub, zs_sipush, zi_5_55, zs_istoren3, zs_iinc4, zs_goto, zc_none, zc_int, zc_ref, zc_null, zc_long, zh_0, zh_1, zh_2, zh_3, zh_4, zt_i, zt_l, zt_r, zt_n, zb_15, zb_16, zb_17, za_18, za_19, za_20, za_21, za_22, zb_23, za_24, za_25, za_26, za_27, za_28, za_29, za_30, za_31, za_32, zb_35, za_36, za_37, za_38, za_39, za_40, zb_377, zb_378, za_379, za_380, za_381, za_382, za_383, zb_384, za_385, za_386, za_387, za_388, za_389, za_390, za_391, za_392, za_393, zb_396, za_397, za_398, za_399, za_400, za_401, zb_738, za_739, za_740, za_741, za_742, za_743, za_744, za_745, za_746, za_747, zb_748, za_749, za_750, zb_751, zb_752, za_753, za_754, za_755, za_756, zb_757, za_758, za_759, za_760, zb_761, za_763, za_764, za_765, zu_0, zu_1, zu_2, zu_3, zu_4, zu_5, zu_6, zu_7, zu_8, zu_9, zu_10, zu_11, zu_12, zu_13, zu_14, zu_15, zu_16, zu_17, zu_18, zu_19, zu_20, zu_21, zu_22, zu_23, zu_24, zu_25, zu_26, zu_27, zu_28, zu_29, zu_30, zu_90, zv_0_9, zv_1_9, zv_2_9, zv_3_9, zv_4_9, zv_5_9, zv_6_9, zv_7_9, zv_8_9, zv_0_330, zv_0_4544, zv_1_4544, zv_2_4544, zv_3_4544, zv_4_4544, zv_5_4544, zv_6_4544, zv_7_4544, zv_8_4544, zv_9_4544, zv_10_4544, zv_11_4544, zv_12_4544, zv_13_4544, zv_14_4544, zv_15_4544, zv_16_4544, zv_17_4544, zv_18_4544, zv_19_4544, zv_20_4544, zv_21_4544, zv_22_4544, zv_23_4544, zv_24_4544, zv_25_4544, zv_26_4544, zv_27_4544, zv_28_4544, zv_29_4544, zv_0_11, zv_1_11, zv_0_160, true_and, and_true, Nat.reduceAdd, vx, vx2, mx, ev, em, nI_1]
      refine ⟨fun h => absurd h (nI_ge (by omega) (by omega)), fun _ => ?_⟩
      exact ih (x + 1) _ (by omega) (by omega) (by split <;> omega) ea
  refine h0 _ _ _ ?_
  simp only [bX5_numberFrom_0, zw_0, zw_1, zs_iconst, zs_istoren3, zs_iloadn1, zs_istore4, zc_none, zc_int, zc_ref, zc_null, zc_long, zb_15, zb_16, zb_17, za_18, za_19, za_20, za_21, za_22, zb_23, za_24, za_25, za_26, za_27, za_28, za_29, za_30, za_31, za_32, zb_35, za_36, za_37, za_38, za_39, za_40, zb_377, zb_378, za_379, za_380, za_381, za_382, za_383, zb_384, za_385, za_386, za_387, za_388, za_389, za_390, za_391, za_392, za_393, zb_396, za_397, za_398, za_399, za_400, za_401, zb_738, za_739, za_740, za_741, za_742, za_743, za_744, za_745, za_746, za_747, zb_748, za_749, za_750, zb_751, zb_752, za_753, za_754, za_755, za_756, zb_757, za_758, za_759, za_760, zb_761, za_763, za_764, za_765, true_and, and_true, Nat.reduceAdd]
  exact loop (e - s) s 0 (by omega) (by omega) (by omega) rfl
