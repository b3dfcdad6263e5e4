/-! ===== ranked ===== -/
theorem c11_ranked {E : zm_E} (hE : zm_ok E.2.2.1 E.2.2.2.2) (d : Nat) {n m : Nat} (hn : n ≤ 10) (hm : m ≤ 10) (r b : Int32) {M : zm_M} (hc : M.1 17 0 = nI n) (hd : M.1 23 2 = nI m) {Q : Option Value → zm_M → Prop} (q1 : zi_in r 0 9 = 0 → Q (some (.int (-1))) M) (q2 : ¬ zi_in r 0 9 = 0 → Q (some (.int (zc_s (fun p => if M.1 20 p = r then (if b = 0 then 1 else zc_s (zc_szat (M.1 26) (M.1 28) (M.1 27) (nI p)) m) else 0) n))) M) : zm_R E (d + 2) mX11_ranked [.ref 15, .int r, .int b] M Q := by
  refine zX11_ranked hE rfl (fun G h0 h12 h17 h69 h70 h72 h78 => ?_)
  show G 0 [some (.ref 15), some (.int r), some (.int b), none, none] [] M
  refine h0 _ _ _ ?_
  simp only [bX11_ranked_0, zw_0, zw_1, zs_iloadn1, zs_iconst, zs_bipush, zi_11_86, zs_ifne, zs_ireturn, zh_0, zh_1, zh_2, zh_3, zh_4, zt_i, zt_l, zt_r, zt_n, zn_int, zn_b0, zn_b1, zb_15, zb_16, zb_17, za_18, za_19, za_20, za_21, za_22, zb_23, za_24, za_25, za_26, za_27, za_28, za_29, za_30, za_31, za_32, zb_35, za_36, za_37, za_38, za_39, za_40, zb_377, zb_378, za_379, za_380, za_381, za_382, za_383, zb_384, za_385, za_386, za_387, za_388, za_389, za_390, za_391, za_392, za_393, zb_396, za_397, za_398, za_399, za_400, za_401, zb_738, za_739, za_740, za_741, za_742, za_743, za_744, za_745, za_746, za_747, zb_748, za_749, za_750, zb_751, zb_752, za_753, za_754, za_755, za_756, zb_757, za_758, za_759, za_760, zb_761, za_763, za_764, za_765, true_and, and_true, Nat.reduceAdd]
  refine zm_R_eq (c11_within hE d r 0 9 M) ?_
  simp only [bX11_ranked_0, zw_0, zw_1, zs_iloadn1, zs_iconst, zs_bipush, zi_11_86, zs_ifne, zs_ireturn, zh_0, zh_1, zh_2, zh_3, zh_4, zt_i, zt_l, zt_r, zt_n, zn_int, zn_b0, zn_b1, zb_15, zb_16, zb_17, za_18, za_19, za_20, za_21, za_22, zb_23, za_24, za_25, za_26, za_27, za_28, za_29, za_30, za_31, za_32, zb_35, za_36, za_37, za_38, za_39, za_40, zb_377, zb_378, za_379, za_380, za_381, za_382, za_383, zb_384, za_385, za_386, za_387, za_388, za_389, za_390, za_391, za_392, za_393, zb_396, za_397, za_398, za_399, za_400, za_401, zb_738, za_739, za_740, za_741, za_742, za_743, za_744, za_745, za_746, za_747, zb_748, za_749, za_750, zb_751, zb_752, za_753, za_754, za_755, za_756, zb_757, za_758, za_759, za_760, zb_761, za_763, za_764, za_765, true_and, and_true, Nat.reduceAdd]
  refine ⟨fun hr => ?_, fun h => q1 h⟩
  have q2 := q2 hr
  have loop : ∀ (f k : Nat), k + f = n → G 17 [some (.ref 15), some (.int r), some (.int b), some (.int (zc_s (fun p => if M.1 20 p = r then (if b = 0 then 1 else zc_s (zc_szat (M.1 26) (M.1 28) (M.1 27) (nI p)) m) else 0) k)), some (.int (nI k))] [] M := by
    intro f
    induction f with
    | zero =>
      intro k hk
      have hk : k = n := by omega
      subst hk
      refine h17 _ _ _ ?_
      simp only [bX11_ranked_17, zw_0, zw_1, zs_iload4, zs_aloadn0, zs_aloadNn0, zg_11_10, zg_11_28, zg_11_77, zs_icge, zg_11_240, zs_iaload, zs_iloadn1, zs_icne, zs_iloadn3, zs_iloadn2, zs_ifeq, zg_11_136, zi_11_358, zs_goto, zh_0, zh_1, zh_2, zh_3, zh_4, zt_i, zt_l, zt_r, zt_n, zb_15, zb_16, zb_17, za_18, za_19, za_20, za_21, za_22, zb_23, za_24, za_25, za_26, za_27, za_28, za_29, za_30, za_31, za_32, zb_35, za_36, za_37, za_38, za_39, za_40, zb_377, zb_378, za_379, za_380, za_381, za_382, za_383, zb_384, za_385, za_386, za_387, za_388, za_389, za_390, za_391, za_392, za_393, zb_396, za_397, za_398, za_399, za_400, za_401, zb_738, za_739, za_740, za_741, za_742, za_743, za_744, za_745, za_746, za_747, zb_748, za_749, za_750, zb_751, zb_752, za_753, za_754, za_755, za_756, zb_757, za_758, za_759, za_760, zb_761, za_763, za_764, za_765, zu_0, zu_1, zu_2, zu_3, zu_4, zu_5, zu_6, zu_7, zu_8, zu_9, zu_10, zu_11, zu_12, zu_13, zu_14, zu_15, zu_16, zu_17, zu_18, zu_19, zu_20, zu_21, zu_22, zu_23, zu_24, zu_25, zu_26, zu_27, zu_28, zu_29, zu_30, zu_90, zv_0_9, zv_1_9, zv_2_9, zv_3_9, zv_4_9, zv_5_9, zv_6_9, zv_7_9, zv_8_9, zv_0_330, zv_0_4544, zv_1_4544, zv_2_4544, zv_3_4544, zv_4_4544, zv_5_4544, zv_6_4544, zv_7_4544, zv_8_4544, zv_9_4544, zv_10_4544, zv_11_4544, zv_12_4544, zv_13_4544, zv_14_4544, zv_15_4544, zv_16_4544, zv_17_4544, zv_18_4544, zv_19_4544, zv_20_4544, zv_21_4544, zv_22_4544, zv_23_4544, zv_24_4544, zv_25_4544, zv_26_4544, zv_27_4544, zv_28_4544, zv_29_4544, zv_0_11, zv_1_11, zv_0_160, true_and, and_true, Nat.reduceAdd, hc]
      refine ⟨fun _ => ?_, fun h => absurd (nI_le (Nat.le_refl _) (by omega)) h⟩
      refine h78 _ _ _ ?_
      simp only [bX11_ranked_78, zw_0, zw_1, zs_iloadn3, zs_ireturn, zn_int, zn_b0, zn_b1, zb_15, zb_16, zb_17, za_18, za_19, za_20, za_21, za_22, zb_23, za_24, za_25, za_26, za_27, za_28, za_29, za_30, za_31, za_32, zb_35, za_36, za_37, za_38, za_39, za_40, zb_377, zb_378, za_379, za_380, za_381, za_382, za_383, zb_384, za_385, za_386, za_387, za_388, za_389, za_390, za_391, za_392, za_393, zb_396, za_397, za_398, za_399, za_400, za_401, zb_738, za_739, za_740, za_741, za_742, za_743, za_744, za_745, za_746, za_747, zb_748, za_749, za_750, zb_751, zb_752, za_753, za_754, za_755, za_756, zb_757, za_758, za_759, za_760, zb_761, za_763, za_764, za_765, true_and, and_true, Nat.reduceAdd]
      exact q2
    | succ f ih =>
      intro k hk
      have i1 : vp_in (nI k) 10 := vp_in_nI (by omega) (by decide)
      have i2 : (nI k).toNatClampNeg = k := nI_clamp (by omega)
      have next : ∀ v, v = zc_s (fun p => if M.1 20 p = r then (if b = 0 then 1 else zc_s (zc_szat (M.1 26) (M.1 28) (M.1 27) (nI p)) m) else 0) (k + 1) → G 72 [some (.ref 15), some (.int r), some (.int b), some (.int v), some (.int (nI k))] [] M := by
        intro v hv
        refine h72 _ _ _ ?_
        simp only [bX11_ranked_72, zw_0, zw_1, zs_iinc4, zs_goto, zc_none, zc_int, zc_ref, zc_null, zc_long, zb_15, zb_16, zb_17, za_18, za_19, za_20, za_21, za_22, zb_23, za_24, za_25, za_26, za_27, za_28, za_29, za_30, za_31, za_32, zb_35, za_36, za_37, za_38, za_39, za_40, zb_377, zb_378, za_379, za_380, za_381, za_382, za_383, zb_384, za_385, za_386, za_387, za_388, za_389, za_390, za_391, za_392, za_393, zb_396, za_397, za_398, za_399, za_400, za_401, zb_738, za_739, za_740, za_741, za_742, za_743, za_744, za_745, za_746, za_747, zb_748, za_749, za_750, zb_751, zb_752, za_753, za_754, za_755, za_756, zb_757, za_758, za_759, za_760, zb_761, za_763, za_764, za_765, true_and, and_true, Nat.reduceAdd]
        rw [hv, nI_1]
        exact ih (k + 1) (by omega)
      have add : ∀ v, M.1 20 k = r → v = (if b = 0 then 1 else zc_s (zc_szat (M.1 26) (M.1 28) (M.1 27) (nI k)) m) → G 70 [some (.ref 15), some (.int r), some (.int b), some (.int (zc_s (fun p => if M.1 20 p = r then (if b = 0 then 1 else zc_s (zc_szat (M.1 26) (M.1 28) (M.1 27) (nI p)) m) else 0) k)), some (.int (nI k))] [.int v, .int (zc_s (fun p => if M.1 20 p = r then (if b = 0 then 1 else zc_s (zc_szat (M.1 26) (M.1 28) (M.1 27) (nI p)) m) else 0) k)] M := by
        intro v h1 hv
        refine h70 _ _ _ ?_
        simp only [bX11_ranked_70, zw_0, zw_1, zs_iadd, zs_istoren3, zc_none, zc_int, zc_ref, zc_null, zc_long, zb_15, zb_16, zb_17, za_18, za_19, za_20, za_21, za_22, zb_23, za_24, za_25, za_26, za_27, za_28, za_29, za_30, za_31, za_32, zb_35, za_36, za_37, za_38, za_39, za_40, zb_377, zb_378, za_379, za_380, za_381, za_382, za_383, zb_384, za_385, za_386, za_387, za_388, za_389, za_390, za_391, za_392, za_393, zb_396, za_397, za_398, za_399, za_400, za_401, zb_738, za_739, za_740, za_741, za_742, za_743, za_744, za_745, za_746, za_747, zb_748, za_749, za_750, zb_751, zb_752, za_753, za_754, za_755, za_756, zb_757, za_758, za_759, za_760, zb_761, za_763, za_764, za_765, true_and, and_true, Nat.reduceAdd]
        refine next _ ?_
        rw [hv]
        simp only [zc_s, if_pos h1]
      refine h17 _ _ _ ?_
      simp only [bX11_ranked_17, zw_0, zw_1, zs_iload4, zs_aloadn0, zs_aloadNn0, zg_11_10, zg_11_28, zg_11_77, zs_icge, zg_11_240, zs_iaload, zs_iloadn1, zs_icne, zs_iloadn3, zs_iloadn2, zs_ifeq, zg_11_136, zi_11_358, zs_goto, zh_0, zh_1, zh_2, zh_3, zh_4, zt_i, zt_l, zt_r, zt_n, zb_15, zb_16, zb_17, za_18, za_19, za_20, za_21, za_22, zb_23, za_24, za_25, za_26, za_27, za_28, za_29, za_30, za_31, za_32, zb_35, za_36, za_37, za_38, za_39, za_40, zb_377, zb_378, za_379, za_380, za_381, za_382, za_383, zb_384, za_385, za_386, za_387, za_388, za_389, za_390, za_391, za_392, za_393, zb_396, za_397, za_398, za_399, za_400, za_401, zb_738, za_739, za_740, za_741, za_742, za_743, za_744, za_745, za_746, za_747, zb_748, za_749, za_750, zb_751, zb_752, za_753, za_754, za_755, za_756, zb_757, za_758, za_759, za_760, zb_761, za_763, za_764, za_765, zu_0, zu_1, zu_2, zu_3, zu_4, zu_5, zu_6, zu_7, zu_8, zu_9, zu_10, zu_11, zu_12, zu_13, zu_14, zu_15, zu_16, zu_17, zu_18, zu_19, zu_20, zu_21, zu_22, zu_23, zu_24, zu_25, zu_26, zu_27, zu_28, zu_29, zu_30, zu_90, zv_0_9, zv_1_9, zv_2_9, zv_3_9, zv_4_9, zv_5_9, zv_6_9, zv_7_9, zv_8_9, zv_0_330, zv_0_4544, zv_1_4544, zv_2_4544, zv_3_4544, zv_4_4544, zv_5_4544, zv_6_4544, zv_7_4544, zv_8_4544, zv_9_4544, zv_10_4544, zv_11_4544, zv_12_4544, zv_13_4544, zv_14_4544, zv_15_4544, zv_16_4544, zv_17_4544, zv_18_4544, zv_19_4544, zv_20_4544, zv_21_4544, zv_22_4544, zv_23_4544, zv_24_4544, zv_25_4544, zv_26_4544, zv_27_4544, zv_28_4544, zv_29_4544, zv_0_11, zv_1_11, zv_0_160, true_and, and_true, Nat.reduceAdd, hc, i1, i2]
      refine ⟨fun h => absurd h (nI_ge (by omega) (by omega)), fun _ => ⟨fun h => next _ ?_, fun h => ⟨fun hb => ?_, fun hb => ?_⟩⟩⟩
      · simp only [zc_s, if_neg h, Int32.add_zero]
      · refine h69 _ _ _ ?_
        simp only [bX11_ranked_69, zw_0, zw_1, zs_iconst, zb_15, zb_16, zb_17, za_18, za_19, za_20, za_21, za_22, zb_23, za_24, za_25, za_26, za_27, za_28, za_29, za_30, za_31, za_32, zb_35, za_36, za_37, za_38, za_39, za_40, zb_377, zb_378, za_379, za_380, za_381, za_382, za_383, zb_384, za_385, za_386, za_387, za_388, za_389, za_390, za_391, za_392, za_393, zb_396, za_397, za_398, za_399, za_400, za_401, zb_738, za_739, za_740, za_741, za_742, za_743, za_744, za_745, za_746, za_747, zb_748, za_749, za_750, zb_751, zb_752, za_753, za_754, za_755, za_756, zb_757, za_758, za_759, za_760, zb_761, za_763, za_764, za_765, true_and, and_true, Nat.reduceAdd]
        exact add _ h (by rw [if_pos hb])
      · refine zm_R_eq (c10_sizesAt hE d hm (nI k) hd) ?_
        simp only [bX11_ranked_17, zw_0, zw_1, zs_iload4, zs_aloadn0, zs_aloadNn0, zg_11_10, zg_11_28, zg_11_77, zs_icge, zg_11_240, zs_iaload, zs_iloadn1, zs_icne, zs_iloadn3, zs_iloadn2, zs_ifeq, zg_11_136, zi_11_358, zs_goto, zh_0, zh_1, zh_2, zh_3, zh_4, zt_i, zt_l, zt_r, zt_n, zb_15, zb_16, zb_17, za_18, za_19, za_20, za_21, za_22, zb_23, za_24, za_25, za_26, za_27, za_28, za_29, za_30, za_31, za_32, zb_35, za_36, za_37, za_38, za_39, za_40, zb_377, zb_378, za_379, za_380, za_381, za_382, za_383, zb_384, za_385, za_386, za_387, za_388, za_389, za_390, za_391, za_392, za_393, zb_396, za_397, za_398, za_399, za_400, za_401, zb_738, za_739, za_740, za_741, za_742, za_743, za_744, za_745, za_746, za_747, zb_748, za_749, za_750, zb_751, zb_752, za_753, za_754, za_755, za_756, zb_757, za_758, za_759, za_760, zb_761, za_763, za_764, za_765, zu_0, zu_1, zu_2, zu_3, zu_4, zu_5, zu_6, zu_7, zu_8, zu_9, zu_10, zu_11, zu_12, zu_13, zu_14, zu_15, zu_16, zu_17, zu_18, zu_19, zu_20, zu_21, zu_22, zu_23, zu_24, zu_25, zu_26, zu_27, zu_28, zu_29, zu_30, zu_90, zv_0_9, zv_1_9, zv_2_9, zv_3_9, zv_4_9, zv_5_9, zv_6_9, zv_7_9, zv_8_9, zv_0_330, zv_0_4544, zv_1_4544, zv_2_4544, zv_3_4544, zv_4_4544, zv_5_4544, zv_6_4544, zv_7_4544, zv_8_4544, zv_9_4544, zv_10_4544, zv_11_4544, zv_12_4544, zv_13_4544, zv_14_4544, zv_15_4544, zv_16_4544, zv_17_4544, zv_18_4544, zv_19_4544, zv_20_4544, zv_21_4544, zv_22_4544, zv_23_4544, zv_24_4544, zv_25_4544, zv_26_4544, zv_27_4544, zv_28_4544, zv_29_4544, zv_0_11, zv_1_11, zv_0_160, true_and, and_true, Nat.reduceAdd]
        exact add _ h (by rw [if_neg hb])
  refine h12 _ _ _ ?_
  simp only [bX11_ranked_12, zw_0, zw_1, zs_iconst, zs_istoren3, zs_istore4, zc_none, zc_int, zc_ref, zc_null, zc_long, zb_15, zb_16, zb_17, za_18, za_19, za_20, za_21, za_22, zb_23, za_24, za_25, za_26, za_27, za_28, za_29, za_30, za_31, za_32, zb_35, za_36, za_37, za_38, za_39, za_40, zb_377, zb_378, za_379, za_380, za_381, za_382, za_383, zb_384, za_385, za_386, za_387, za_388, za_389, za_390, za_391, za_392, za_393, zb_396, za_397, za_398, za_399, za_400, za_401, zb_738, za_739, za_740, za_741, za_742, za_743, za_744, za_745, za_746, za_747, zb_748, za_749, za_750, zb_751, zb_752, za_753, za_754, za_755, za_756, zb_757, za_758, za_759, za_760, zb_761, za_763, za_764, za_765, true_and, and_true, Nat.reduceAdd]
  exact loop n 0 (by omega)
theorem c_ranked {E : zm_E} (hE : zm_ok E.2.2.1 E.2.2.2.2) (d : Nat) {n m : Nat} (hm : m ≤ 10) (r b : Int32) {M : zm_M} (hw : zt_wf n (fun i => M.1 1 (90 + i))) (hc : M.1 1 0 = nI n) (hd : M.1 1 8 = nI m) (ha : ∀ k, k < m → ∃ j, j < n ∧ zp M 2 k = nI j) {Q : Option Value → zm_M → Prop} (q1 : zi_in r 0 9 = 0 → Q (some (.int (-1))) M) (q2 : ¬ zi_in r 0 9 = 0 → Q (some (.int (if b = 0 then nI (zc_n (fun p => decide (nI (zt_rk (fun i => M.1 1 (90 + i)) p) = r)) n) else zc_s (fun k => if ¬ zp M 4 k = 2 ∧ nI (zt_rk (fun i => M.1 1 (90 + i)) (zp M 2 k).toNatClampNeg) = r then zp M 3 k else 0) m))) M) : zm_R E (d + 2) mX12_ranked [.ref 0, .int r, .int b] M Q := by
  refine zX12_ranked hE rfl (fun G h0 h12 h20 h46 h47 h55 h58 h108 h109 h118 h127 h128 => ?_)
  show G 0 [some (.ref 0), some (.int r), some (.int b), none, none, none] [] M
  have hn := hw.1
  refine h0 _ _ _ ?_
  simp only [bX12_ranked_0, zw_0, zw_1, zs_iloadn1, zs_iconst, zs_bipush, zi_12_69, zs_ifne, zs_ireturn, zh_0, zh_1, zh_2, zh_3, zh_4, zt_i, zt_l, zt_r, zt_n, zn_int, zn_b0, zn_b1, zb_0, za_1, za_2, za_3, za_4, za_5, za_6, za_7, za_8, za_9, za_10, za_11, za_12, za_13, za_14, true_and, and_true, Nat.reduceAdd]
  refine zm_R_eq (c_isIn hE d r 0 9 M) ?_
  simp only [bX12_ranked_0, zw_0, zw_1, zs_iloadn1, zs_iconst, zs_bipush, zi_12_69, zs_ifne, zs_ireturn, zh_0, zh_1, zh_2, zh_3, zh_4, zt_i, zt_l, zt_r, zt_n, zn_int, zn_b0, zn_b1, zb_0, za_1, za_2, za_3, za_4, za_5, za_6, za_7, za_8, za_9, za_10, za_11, za_12, za_13, za_14, true_and, and_true, Nat.reduceAdd]
  refine ⟨fun hr => ?_, fun h => q1 h⟩
  have q2 := q2 hr
  have fin : ∀ v, v = (if b = 0 then nI (zc_n (fun p => decide (nI (zt_rk (fun i => M.1 1 (90 + i)) p) = r)) n) else zc_s (fun k => if ¬ zp M 4 k = 2 ∧ nI (zt_rk (fun i => M.1 1 (90 + i)) (zp M 2 k).toNatClampNeg) = r then zp M 3 k else 0) m) → ∀ l, G 128 l [.int v] M := by
    intro v hv l
    refine h128 _ _ _ ?_
    simp only [bX12_ranked_128, zw_0, zw_1, zs_ireturn, zn_int, zn_b0, zn_b1, zb_0, za_1, za_2, za_3, za_4, za_5, za_6, za_7, za_8, za_9, za_10, za_11, za_12, za_13, za_14, true_and, and_true, Nat.reduceAdd]
    rw [hv]
    exact q2
  have loop2 : ∀ (f k : Nat), k + f = m → G 58 [some (.ref 0), some (.int r), some (.int b), some (.int (nI (zc_n (fun p => decide (nI (zt_rk (fun i => M.1 1 (90 + i)) p) = r)) n))), some (.int (zc_s (fun k => if ¬ zp M 4 k = 2 ∧ nI (zt_rk (fun i => M.1 1 (90 + i)) (zp M 2 k).toNatClampNeg) = r then zp M 3 k else 0) k)), some (.int (nI k))] [] M := by
    intro f
    induction f with
    | zero =>
      intro k hk
      have hk : k = m := by omega
      subst hk
      refine h58 _ _ _ ?_
      simp only [bX12_ranked_58, zw_0, zw_1, zs_iload5, zs_aloadn0, zs_aloadNn0, zg_12_7, zs_bipush, zs_iaload, zs_icge, zs_iload4, zs_iconst, zi_12_304, zs_iceq, zi_12_262, zs_iloadn1, zs_icne, zs_goto, zh_0, zh_1, zh_2, zh_3, zh_4, zt_i, zt_l, zt_r, zt_n, zb_0, za_1, za_2, za_3, za_4, za_5, za_6, za_7, za_8, za_9, za_10, za_11, za_12, za_13, za_14, zu_0, zu_1, zu_2, zu_3, zu_4, zu_5, zu_6, zu_7, zu_8, zu_9, zu_10, zu_11, zu_12, zu_13, zu_14, zu_15, zu_16, zu_17, zu_18, zu_19, zu_20, zu_21, zu_22, zu_23, zu_24, zu_25, zu_26, zu_27, zu_28, zu_29, zu_30, zu_90, zv_0_9, zv_1_9, zv_2_9, zv_3_9, zv_4_9, zv_5_9, zv_6_9, zv_7_9, zv_8_9, zv_0_330, zv_0_4544, zv_1_4544, zv_2_4544, zv_3_4544, zv_4_4544, zv_5_4544, zv_6_4544, zv_7_4544, zv_8_4544, zv_9_4544, zv_10_4544, zv_11_4544, zv_12_4544, zv_13_4544, zv_14_4544, zv_15_4544, zv_16_4544, zv_17_4544, zv_18_4544, zv_19_4544, zv_20_4544, zv_21_4544, zv_22_4544, zv_23_4544, zv_24_4544, zv_25_4544, zv_26_4544, zv_27_4544, zv_28_4544, zv_29_4544, zv_0_11, zv_1_11, zv_0_160, true_and, and_true, Nat.reduceAdd, hd]
      refine ⟨fun _ => ?_, fun h => absurd (nI_le (Nat.le_refl _) (by omega)) h⟩
      refine h118 _ _ _ ?_
      simp only [bX12_ranked_118, zw_0, zw_1, zs_iloadn2, zs_ifeq, zs_iload4, zs_goto, zb_0, za_1, za_2, za_3, za_4, za_5, za_6, za_7, za_8, za_9, za_10, za_11, za_12, za_13, za_14, true_and, and_true, Nat.reduceAdd]
      refine ⟨fun hb => ?_, fun hb => fin _ (by rw [if_neg hb]) _⟩
      refine h127 _ _ _ ?_
      simp only [bX12_ranked_127, zw_0, zw_1, zs_iloadn3, zb_0, za_1, za_2, za_3, za_4, za_5, za_6, za_7, za_8, za_9, za_10, za_11, za_12, za_13, za_14, true_and, and_true, Nat.reduceAdd]
      exact fin _ (by rw [if_pos hb]) _
    | succ f ih =>
      intro k hk
      have next : ∀ v, v = (if ¬ zp M 4 k = 2 ∧ nI (zt_rk (fun i => M.1 1 (90 + i)) (zp M 2 k).toNatClampNeg) = r then zp M 3 k else 0) → G 109 [some (.ref 0), some (.int r), some (.int b), some (.int (nI (zc_n (fun p => decide (nI (zt_rk (fun i => M.1 1 (90 + i)) p) = r)) n))), some (.int (zc_s (fun k => if ¬ zp M 4 k = 2 ∧ nI (zt_rk (fun i => M.1 1 (90 + i)) (zp M 2 k).toNatClampNeg) = r then zp M 3 k else 0) k)), some (.int (nI k))] [.int v, .int (zc_s (fun k => if ¬ zp M 4 k = 2 ∧ nI (zt_rk (fun i => M.1 1 (90 + i)) (zp M 2 k).toNatClampNeg) = r then zp M 3 k else 0) k)] M := by
        intro v hv
        refine h109 _ _ _ ?_
        simp only [bX12_ranked_109, zw_0, zw_1, zs_iadd, zs_istore4, zs_iinc5, zs_goto, zc_none, zc_int, zc_ref, zc_null, zc_long, zb_0, za_1, za_2, za_3, za_4, za_5, za_6, za_7, za_8, za_9, za_10, za_11, za_12, za_13, za_14, true_and, and_true, Nat.reduceAdd]
        rw [hv, nI_1]
        exact ih (k + 1) (by omega)
      have no : ¬ (¬ zp M 4 k = 2 ∧ nI (zt_rk (fun i => M.1 1 (90 + i)) (zp M 2 k).toNatClampNeg) = r) → G 108 [some (.ref 0), some (.int r), some (.int b), some (.int (nI (zc_n (fun p => decide (nI (zt_rk (fun i => M.1 1 (90 + i)) p) = r)) n))), some (.int (zc_s (fun k => if ¬ zp M 4 k = 2 ∧ nI (zt_rk (fun i => M.1 1 (90 + i)) (zp M 2 k).toNatClampNeg) = r then zp M 3 k else 0) k)), some (.int (nI k))] [.int (zc_s (fun k => if ¬ zp M 4 k = 2 ∧ nI (zt_rk (fun i => M.1 1 (90 + i)) (zp M 2 k).toNatClampNeg) = r then zp M 3 k else 0) k)] M := by
        intro h
        refine h108 _ _ _ ?_
        simp only [bX12_ranked_108, zw_0, zw_1, zs_iconst, zb_0, za_1, za_2, za_3, za_4, za_5, za_6, za_7, za_8, za_9, za_10, za_11, za_12, za_13, za_14, true_and, and_true, Nat.reduceAdd]
        exact next _ (by rw [if_neg h])
      obtain ⟨j, hj, ej⟩ := ha k (by omega)
      refine h58 _ _ _ ?_
      simp only [bX12_ranked_58, zw_0, zw_1, zs_iload5, zs_aloadn0, zs_aloadNn0, zg_12_7, zs_bipush, zs_iaload, zs_icge, zs_iload4, zs_iconst, zi_12_304, zs_iceq, zi_12_262, zs_iloadn1, zs_icne, zs_goto, zh_0, zh_1, zh_2, zh_3, zh_4, zt_i, zt_l, zt_r, zt_n, zb_0, za_1, za_2, za_3, za_4, za_5, za_6, za_7, za_8, za_9, za_10, za_11, za_12, za_13, za_14, zu_0, zu_1, zu_2, zu_3, zu_4, zu_5, zu_6, zu_7, zu_8, zu_9, zu_10, zu_11, zu_12, zu_13, zu_14, zu_15, zu_16, zu_17, zu_18, zu_19, zu_20, zu_21, zu_22, zu_23, zu_24, zu_25, zu_26, zu_27, zu_28, zu_29, zu_30, zu_90, zv_0_9, zv_1_9, zv_2_9, zv_3_9, zv_4_9, zv_5_9, zv_6_9, zv_7_9, zv_8_9, zv_0_330, zv_0_4544, zv_1_4544, zv_2_4544, zv_3_4544, zv_4_4544, zv_5_4544, zv_6_4544, zv_7_4544, zv_8_4544, zv_9_4544, zv_10_4544, zv_11_4544, zv_12_4544, zv_13_4544, zv_14_4544, zv_15_4544, zv_16_4544, zv_17_4544, zv_18_4544, zv_19_4544, zv_20_4544, zv_21_4544, zv_22_4544, zv_23_4544, zv_24_4544, zv_25_4544, zv_26_4544, zv_27_4544, zv_28_4544, zv_29_4544, zv_0_11, zv_1_11, zv_0_160, true_and, and_true, Nat.reduceAdd, hd]
      refine ⟨fun h => absurd h (nI_ge (by omega) (by omega)), fun _ => ?_⟩
      refine zm_R_eq (c_gt hE d (k := k) (by omega) 4 (by decide) M) ?_
      simp only [bX12_ranked_58, zw_0, zw_1, zs_iload5, zs_aloadn0, zs_aloadNn0, zg_12_7, zs_bipush, zs_iaload, zs_icge, zs_iload4, zs_iconst, zi_12_304, zs_iceq, zi_12_262, zs_iloadn1, zs_icne, zs_goto, zh_0, zh_1, zh_2, zh_3, zh_4, zt_i, zt_l, zt_r, zt_n, zb_0, za_1, za_2, za_3, za_4, za_5, za_6, za_7, za_8, za_9, za_10, za_11, za_12, za_13, za_14, zu_0, zu_1, zu_2, zu_3, zu_4, zu_5, zu_6, zu_7, zu_8, zu_9, zu_10, zu_11, zu_12, zu_13, zu_14, zu_15, zu_16, zu_17, zu_18, zu_19, zu_20, zu_21, zu_22, zu_23, zu_24, zu_25, zu_26, zu_27, zu_28, zu_29, zu_30, zu_90, zv_0_9, zv_1_9, zv_2_9, zv_3_9, zv_4_9, zv_5_9, zv_6_9, zv_7_9, zv_8_9, zv_0_330, zv_0_4544, zv_1_4544, zv_2_4544, zv_3_4544, zv_4_4544, zv_5_4544, zv_6_4544, zv_7_4544, zv_8_4544, zv_9_4544, zv_10_4544, zv_11_4544, zv_12_4544, zv_13_4544, zv_14_4544, zv_15_4544, zv_16_4544, zv_17_4544, zv_18_4544, zv_19_4544, zv_20_4544, zv_21_4544, zv_22_4544, zv_23_4544, zv_24_4544, zv_25_4544, zv_26_4544, zv_27_4544, zv_28_4544, zv_29_4544, zv_0_11, zv_1_11, zv_0_160, true_and, and_true, Nat.reduceAdd]
      refine ⟨fun h => no (fun z => z.1 h), fun h1 => ?_⟩
      refine zm_R_eq (c_gt hE d (k := k) (by omega) 2 (by decide) M) ?_
      rw [ej]
      simp only [bX12_ranked_58, zw_0, zw_1, zs_iload5, zs_aloadn0, zs_aloadNn0, zg_12_7, zs_bipush, zs_iaload, zs_icge, zs_iload4, zs_iconst, zi_12_304, zs_iceq, zi_12_262, zs_iloadn1, zs_icne, zs_goto, zh_0, zh_1, zh_2, zh_3, zh_4, zt_i, zt_l, zt_r, zt_n, zb_0, za_1, za_2, za_3, za_4, za_5, za_6, za_7, za_8, za_9, za_10, za_11, za_12, za_13, za_14, zu_0, zu_1, zu_2, zu_3, zu_4, zu_5, zu_6, zu_7, zu_8, zu_9, zu_10, zu_11, zu_12, zu_13, zu_14, zu_15, zu_16, zu_17, zu_18, zu_19, zu_20, zu_21, zu_22, zu_23, zu_24, zu_25, zu_26, zu_27, zu_28, zu_29, zu_30, zu_90, zv_0_9, zv_1_9, zv_2_9, zv_3_9, zv_4_9, zv_5_9, zv_6_9, zv_7_9, zv_8_9, zv_0_330, zv_0_4544, zv_1_4544, zv_2_4544, zv_3_4544, zv_4_4544, zv_5_4544, zv_6_4544, zv_7_4544, zv_8_4544, zv_9_4544, zv_10_4544, zv_11_4544, zv_12_4544, zv_13_4544, zv_14_4544, zv_15_4544, zv_16_4544, zv_17_4544, zv_18_4544, zv_19_4544, zv_20_4544, zv_21_4544, zv_22_4544, zv_23_4544, zv_24_4544, zv_25_4544, zv_26_4544, zv_27_4544, zv_28_4544, zv_29_4544, zv_0_11, zv_1_11, zv_0_160, true_and, and_true, Nat.reduceAdd]
      refine zm_R_eq (c_rankOf hE d hw hj) ?_
      simp only [bX12_ranked_58, zw_0, zw_1, zs_iload5, zs_aloadn0, zs_aloadNn0, zg_12_7, zs_bipush, zs_iaload, zs_icge, zs_iload4, zs_iconst, zi_12_304, zs_iceq, zi_12_262, zs_iloadn1, zs_icne, zs_goto, zh_0, zh_1, zh_2, zh_3, zh_4, zt_i, zt_l, zt_r, zt_n, zb_0, za_1, za_2, za_3, za_4, za_5, za_6, za_7, za_8, za_9, za_10, za_11, za_12, za_13, za_14, zu_0, zu_1, zu_2, zu_3, zu_4, zu_5, zu_6, zu_7, zu_8, zu_9, zu_10, zu_11, zu_12, zu_13, zu_14, zu_15, zu_16, zu_17, zu_18, zu_19, zu_20, zu_21, zu_22, zu_23, zu_24, zu_25, zu_26, zu_27, zu_28, zu_29, zu_30, zu_90, zv_0_9, zv_1_9, zv_2_9, zv_3_9, zv_4_9, zv_5_9, zv_6_9, zv_7_9, zv_8_9, zv_0_330, zv_0_4544, zv_1_4544, zv_2_4544, zv_3_4544, zv_4_4544, zv_5_4544, zv_6_4544, zv_7_4544, zv_8_4544, zv_9_4544, zv_10_4544, zv_11_4544, zv_12_4544, zv_13_4544, zv_14_4544, zv_15_4544, zv_16_4544, zv_17_4544, zv_18_4544, zv_19_4544, zv_20_4544, zv_21_4544, zv_22_4544, zv_23_4544, zv_24_4544, zv_25_4544, zv_26_4544, zv_27_4544, zv_28_4544, zv_29_4544, zv_0_11, zv_1_11, zv_0_160, true_and, and_true, Nat.reduceAdd]
      refine ⟨fun h => no (fun z => h (by have := z.2; rw [ej, nI_clamp (by omega)] at this; exact this)), fun h2 => ?_⟩
      refine zm_R_eq (c_gt hE d (k := k) (by omega) 3 (by decide) M) ?_
      simp only [bX12_ranked_58, zw_0, zw_1, zs_iload5, zs_aloadn0, zs_aloadNn0, zg_12_7, zs_bipush, zs_iaload, zs_icge, zs_iload4, zs_iconst, zi_12_304, zs_iceq, zi_12_262, zs_iloadn1, zs_icne, zs_goto, zh_0, zh_1, zh_2, zh_3, zh_4, zt_i, zt_l, zt_r, zt_n, zb_0, za_1, za_2, za_3, za_4, za_5, za_6, za_7, za_8, za_9, za_10, za_11, za_12, za_13, za_14, zu_0, zu_1, zu_2, zu_3, zu_4, zu_5, zu_6, zu_7, zu_8, zu_9, zu_10, zu_11, zu_12, zu_13, zu_14, zu_15, zu_16, zu_17, zu_18, zu_19, zu_20, zu_21, zu_22, zu_23, zu_24, zu_25, zu_26, zu_27, zu_28, zu_29, zu_30, zu_90, zv_0_9, zv_1_9, zv_2_9, zv_3_9, zv_4_9, zv_5_9, zv_6_9, zv_7_9, zv_8_9, zv_0_330, zv_0_4544, zv_1_4544, zv_2_4544, zv_3_4544, zv_4_4544, zv_5_4544, zv_6_4544, zv_7_4544, zv_8_4544, zv_9_4544, zv_10_4544, zv_11_4544, zv_12_4544, zv_13_4544, zv_14_4544, zv_15_4544, zv_16_4544, zv_17_4544, zv_18_4544, zv_19_4544, zv_20_4544, zv_21_4544, zv_22_4544, zv_23_4544, zv_24_4544, zv_25_4544, zv_26_4544, zv_27_4544, zv_28_4544, zv_29_4544, zv_0_11, zv_1_11, zv_0_160, true_and, and_true, Nat.reduceAdd]
      exact next _ (by rw [if_pos ⟨h1, by rw [ej, nI_clamp (by omega)]; exact h2⟩])
  have loop : ∀ (f k : Nat), k + f = n → G 20 [some (.ref 0), some (.int r), some (.int b), some (.int (nI (zc_n (fun p => decide (nI (zt_rk (fun i => M.1 1 (90 + i)) p) = r)) k))), some (.int 0), some (.int (nI k))] [] M := by
    intro f
    induction f with
    | zero =>
      intro k hk
      have hk : k = n := by omega
      subst hk
      refine h20 _ _ _ ?_
      simp only [bX12_ranked_20, zw_0, zw_1, zs_iload5, zs_aloadn0, zs_aloadNn0, zg_12_7, zs_iconst, zs_iaload, zs_icge, zs_iloadn3, zi_12_262, zs_iloadn1, zs_icne, zs_goto, zh_0, zh_1, zh_2, zh_3, zh_4, zt_i, zt_l, zt_r, zt_n, zb_0, za_1, za_2, za_3, za_4, za_5, za_6, za_7, za_8, za_9, za_10, za_11, za_12, za_13, za_14, zu_0, zu_1, zu_2, zu_3, zu_4, zu_5, zu_6, zu_7, zu_8, zu_9, zu_10, zu_11, zu_12, zu_13, zu_14, zu_15, zu_16, zu_17, zu_18, zu_19, zu_20, zu_21, zu_22, zu_23, zu_24, zu_25, zu_26, zu_27, zu_28, zu_29, zu_30, zu_90, zv_0_9, zv_1_9, zv_2_9, zv_3_9, zv_4_9, zv_5_9, zv_6_9, zv_7_9, zv_8_9, zv_0_330, zv_0_4544, zv_1_4544, zv_2_4544, zv_3_4544, zv_4_4544, zv_5_4544, zv_6_4544, zv_7_4544, zv_8_4544, zv_9_4544, zv_10_4544, zv_11_4544, zv_12_4544, zv_13_4544, zv_14_4544, zv_15_4544, zv_16_4544, zv_17_4544, zv_18_4544, zv_19_4544, zv_20_4544, zv_21_4544, zv_22_4544, zv_23_4544, zv_24_4544, zv_25_4544, zv_26_4544, zv_27_4544, zv_28_4544, zv_29_4544, zv_0_11, zv_1_11, zv_0_160, true_and, and_true, Nat.reduceAdd, hc]
      refine ⟨fun _ => ?_, fun h => absurd (nI_le (Nat.le_refl _) (by omega)) h⟩
      refine h55 _ _ _ ?_
      simp only [bX12_ranked_55, zw_0, zw_1, zs_iconst, zs_istore5, zc_none, zc_int, zc_ref, zc_null, zc_long, zb_0, za_1, za_2, za_3, za_4, za_5, za_6, za_7, za_8, za_9, za_10, za_11, za_12, za_13, za_14, true_and, and_true, Nat.reduceAdd]
      exact loop2 m 0 (by omega)
    | succ f ih =>
      intro k hk
      have next : ∀ v, nI (zc_n (fun p => decide (nI (zt_rk (fun i => M.1 1 (90 + i)) p) = r)) k) + v = nI (zc_n (fun p => decide (nI (zt_rk (fun i => M.1 1 (90 + i)) p) = r)) (k + 1)) → G 47 [some (.ref 0), some (.int r), some (.int b), some (.int (nI (zc_n (fun p => decide (nI (zt_rk (fun i => M.1 1 (90 + i)) p) = r)) k))), some (.int 0), some (.int (nI k))] [.int v, .int (nI (zc_n (fun p => decide (nI (zt_rk (fun i => M.1 1 (90 + i)) p) = r)) k))] M := by
        intro v hv
        refine h47 _ _ _ ?_
        simp only [bX12_ranked_47, zw_0, zw_1, zs_iadd, zs_istoren3, zs_iinc5, zs_goto, zc_none, zc_int, zc_ref, zc_null, zc_long, zb_0, za_1, za_2, za_3, za_4, za_5, za_6, za_7, za_8, za_9, za_10, za_11, za_12, za_13, za_14, true_and, and_true, Nat.reduceAdd]
        rw [hv, nI_1]
        exact ih (k + 1) (by omega)
      refine h20 _ _ _ ?_
      simp only [bX12_ranked_20, zw_0, zw_1, zs_iload5, zs_aloadn0, zs_aloadNn0, zg_12_7, zs_iconst, zs_iaload, zs_icge, zs_iloadn3, zi_12_262, zs_iloadn1, zs_icne, zs_goto, zh_0, zh_1, zh_2, zh_3, zh_4, zt_i, zt_l, zt_r, zt_n, zb_0, za_1, za_2, za_3, za_4, za_5, za_6, za_7, za_8, za_9, za_10, za_11, za_12, za_13, za_14, zu_0, zu_1, zu_2, zu_3, zu_4, zu_5, zu_6, zu_7, zu_8, zu_9, zu_10, zu_11, zu_12, zu_13, zu_14, zu_15, zu_16, zu_17, zu_18, zu_19, zu_20, zu_21, zu_22, zu_23, zu_24, zu_25, zu_26, zu_27, zu_28, zu_29, zu_30, zu_90, zv_0_9, zv_1_9, zv_2_9, zv_3_9, zv_4_9, zv_5_9, zv_6_9, zv_7_9, zv_8_9, zv_0_330, zv_0_4544, zv_1_4544, zv_2_4544, zv_3_4544, zv_4_4544, zv_5_4544, zv_6_4544, zv_7_4544, zv_8_4544, zv_9_4544, zv_10_4544, zv_11_4544, zv_12_4544, zv_13_4544, zv_14_4544, zv_15_4544, zv_16_4544, zv_17_4544, zv_18_4544, zv_19_4544, zv_20_4544, zv_21_4544, zv_22_4544, zv_23_4544, zv_24_4544, zv_25_4544, zv_26_4544, zv_27_4544, zv_28_4544, zv_29_4544, zv_0_11, zv_1_11, zv_0_160, true_and, and_true, Nat.reduceAdd, hc]
      refine ⟨fun h => absurd h (nI_ge (by omega) (by omega)), fun _ => ?_⟩
      refine zm_R_eq (c_rankOf hE d hw (show k < n by omega)) ?_
      simp only [bX12_ranked_20, zw_0, zw_1, zs_iload5, zs_aloadn0, zs_aloadNn0, zg_12_7, zs_iconst, zs_iaload, zs_icge, zs_iloadn3, zi_12_262, zs_iloadn1, zs_icne, zs_goto, zh_0, zh_1, zh_2, zh_3, zh_4, zt_i, zt_l, zt_r, zt_n, zb_0, za_1, za_2, za_3, za_4, za_5, za_6, za_7, za_8, za_9, za_10, za_11, za_12, za_13, za_14, zu_0, zu_1, zu_2, zu_3, zu_4, zu_5, zu_6, zu_7, zu_8, zu_9, zu_10, zu_11, zu_12, zu_13, zu_14, zu_15, zu_16, zu_17, zu_18, zu_19, zu_20, zu_21, zu_22, zu_23, zu_24, zu_25, zu_26, zu_27, zu_28, zu_29, zu_30, zu_90, zv_0_9, zv_1_9, zv_2_9, zv_3_9, zv_4_9, zv_5_9, zv_6_9, zv_7_9, zv_8_9, zv_0_330, zv_0_4544, zv_1_4544, zv_2_4544, zv_3_4544, zv_4_4544, zv_5_4544, zv_6_4544, zv_7_4544, zv_8_4544, zv_9_4544, zv_10_4544, zv_11_4544, zv_12_4544, zv_13_4544, zv_14_4544, zv_15_4544, zv_16_4544, zv_17_4544, zv_18_4544, zv_19_4544, zv_20_4544, zv_21_4544, zv_22_4544, zv_23_4544, zv_24_4544, zv_25_4544, zv_26_4544, zv_27_4544, zv_28_4544, zv_29_4544, zv_0_11, zv_1_11, zv_0_160, true_and, and_true, Nat.reduceAdd]
      refine ⟨fun h => ?_, fun h => next _ ?_⟩
      · refine h46 _ _ _ ?_
        simp only [bX12_ranked_46, zw_0, zw_1, zs_iconst, zb_0, za_1, za_2, za_3, za_4, za_5, za_6, za_7, za_8, za_9, za_10, za_11, za_12, za_13, za_14, true_and, and_true, Nat.reduceAdd]
        refine next _ ?_
        simp only [zc_n, h, decide_false, Bool.false_eq_true, if_false]
        simp
      · rw [nI_1]
        simp only [zc_n, h, decide_true, if_true]
  refine h12 _ _ _ ?_
  simp only [bX12_ranked_12, zw_0, zw_1, zs_iconst, zs_istoren3, zs_istore4, zs_istore5, zc_none, zc_int, zc_ref, zc_null, zc_long, zb_0, za_1, za_2, za_3, za_4, za_5, za_6, za_7, za_8, za_9, za_10, za_11, za_12, za_13, za_14, true_and, and_true, Nat.reduceAdd]
  exact loop n 0 (by omega)
/-! sums in two orders -/
theorem zc_s_0 : ∀ n, zc_s (fun _ => 0) n = 0 := by
  intro n
  induction n with
  | zero => rfl
  | succ n ih => show zc_s _ n + 0 = 0; rw [ih]; rfl
theorem zc_s_add (f g : Nat → Int32) : ∀ n, zc_s (fun i => f i + g i) n = zc_s f n + zc_s g n := by
  intro n
  induction n with
  | zero => rfl
  | succ n ih =>
    show zc_s _ n + (f n + g n) = (zc_s f n + f n) + (zc_s g n + g n)
    rw [ih, Int32.add_assoc, Int32.add_assoc, ← Int32.add_assoc (zc_s g n), Int32.add_comm (zc_s g n) (f n), Int32.add_assoc]
theorem zc_s_swap (f : Nat → Nat → Int32) (m : Nat) : ∀ n, zc_s (fun p => zc_s (fun k => f p k) m) n = zc_s (fun k => zc_s (fun p => f p k) n) m := by
  intro n
  induction n with
  | zero => exact (zc_s_0 m).symm
  | succ n ih =>
    show zc_s _ n + _ = _
    rw [ih, ← zc_s_add]
    rfl
theorem zc_s_one {n j : Nat} (hj : j < n) (v : Int32) (f : Nat → Int32) (h1 : f j = v) (h2 : ∀ i, i < n → i ≠ j → f i = 0) : zc_s f n = v := by
  induction n with
  | zero => omega
  | succ n ih =>
    show zc_s f n + f n = v
    by_cases e : j = n
    · subst e
      have : zc_s f j = 0 := by
        rw [zc_s_c (g := fun _ => 0) j (fun i hi => h2 i (by omega) (by omega))]
        exact zc_s_0 j
      rw [this, h1, Int32.zero_add]
    · rw [ih (by omega) (fun i hi hne => h2 i (by omega) hne), h2 n (by omega) (fun z => e z.symm), Int32.add_zero]
theorem zc_sn (P : Nat → Bool) : ∀ n, zc_s (fun p => if P p = true then 1 else 0) n = nI (zc_n P n) := by
  intro n
  induction n with
  | zero => rfl
  | succ n ih =>
    simp only [zc_s, zc_n]
    rw [ih]
    by_cases h : P n = true
    · simp only [if_pos h]; rw [nI_1]
    · simp only [if_neg h, Int32.add_zero, Nat.add_zero]
/-- both ways of reckoning RANKED -/
theorem zr_ranked {n m : Nat} (hn : n ≤ 10) {rk : Nat → Nat} {R at_ how size at' how' size' : Nat → Int32} (hR : ∀ p, p < n → R p = nI (rk p)) (e1 : ∀ k, k < m → at' k = at_ k) (e2 : ∀ k, k < m → how' k = how k) (e3 : ∀ k, k < m → size' k = size k) (ha : ∀ k, k < m → ∃ j, j < n ∧ at_ k = nI j) (r b : Int32) : zc_s (fun p => if R p = r then (if b = 0 then 1 else zc_s (zc_szat at' how' size' (nI p)) m) else 0) n = if b = 0 then nI (zc_n (fun p => decide (nI (rk p) = r)) n) else zc_s (fun k => if ¬ how k = 2 ∧ nI (rk (at_ k).toNatClampNeg) = r then size k else 0) m := by
  by_cases hb : b = 0
  · rw [if_pos hb, ← zc_sn]
    refine zc_s_c n (fun p hp => ?_)
    rw [hR p hp]
    simp [hb]
  · rw [if_neg hb]
    have s1 : zc_s (fun p => if R p = r then (if b = 0 then 1 else zc_s (zc_szat at' how' size' (nI p)) m) else 0) n = zc_s (fun p => zc_s (fun k => if R p = r then zc_szat at' how' size' (nI p) k else 0) m) n := by
      refine zc_s_c n (fun p hp => ?_)
      rw [if_neg hb]
      by_cases h : R p = r
      · rw [if_pos h]
        exact zc_s_c m (fun k _ => by rw [if_pos h])
      · rw [if_neg h]
        rw [zc_s_c (g := fun _ => 0) m (fun k _ => by rw [if_neg h])]
        exact (zc_s_0 m).symm
    rw [s1, zc_s_swap]
    refine zc_s_c m (fun k hk => ?_)
    obtain ⟨j, hj, ej⟩ := ha k hk
    refine zc_s_one hj _ _ ?_ (fun i hi hne => ?_)
    · have hk2 : zc_desk at' how' (nI j) k = decide (¬ how k = 2) := by
        unfold zc_desk
        rw [e1 k hk, e2 k hk, ej]
        simp
      simp only [zc_szat, hk2, hR j hj, e3 k hk, ej]
      rw [nI_clamp (by omega)]
      by_cases h1 : nI (rk j) = r <;> by_cases h2 : how k = 2 <;> simp [h1, h2]
    · have hk2 : zc_desk at' how' (nI i) k = false := by
        unfold zc_desk
        have : ¬ nI j = nI i := fun z => hne ((nI_eq (by omega) (by omega)).mp z).symm
        rw [e1 k hk, ej]
        simp [this]
      simp only [zc_szat, hk2, Bool.false_eq_true, if_false, ite_self]
/-! ===== play ===== -/
def zl_st (c : Nat → Int32) (one : Nat) (t : Nat) (s : Int32 × Int32 × Int32) : Int32 × Int32 × Int32 :=
  if t % 2 = 0 then (if c (5 * one + t / 2) ≤ s.1 then (c (5 * one + t / 2), 0, nI one) else s) else (if c (5 * (1 - one) + t / 2) ≤ s.2.1 then (0, c (5 * (1 - one) + t / 2), nI (1 - one)) else s)
def zl_pl (c : Nat → Int32) (one : Nat) (l : Int32) : Nat → Int32 × Int32 × Int32
  | 0 => if l = 0 then (0, 99, -1) else (99, 0, -1)
  | k + 1 => zl_st c one (8 - k) (zl_pl c one l k)
theorem zl_pl_c {c c' : Nat → Int32} (h : ∀ i, i < 10 → c i = c' i) {one : Nat} (ho : one ≤ 1) (l : Int32) : ∀ k, zl_pl c one l k = zl_pl c' one l k := by
  intro k
  induction k with
  | zero => rfl
  | succ k ih =>
    simp only [zl_pl, zl_st]
    rw [ih, h _ (by omega), h _ (by omega)]
theorem zl_ev : ∀ t, t < 9 → ((nI t - nI t / 2 * 2 = 0) ↔ t % 2 = 0) ∧ nI t / 2 = nI (t / 2) ∧ ¬ nI t < 0 := by decide +kernel
theorem zl_dn : ∀ k, k < 9 → nI (8 - k) + (-1) = (if k = 8 then -1 else nI (8 - (k + 1))) := by decide +kernel
theorem c_play {E : zm_E} (hE : zm_ok E.2.2.1 E.2.2.2.2) (d : Nat) (o l : Int32) {M : zm_M} {Q : Option Value → zm_M → Prop} (q1 : zi_in o 0 1 = 0 → Q (some (.int (-2))) M) (q2 : ∀ i, i ≤ 1 → o = nI i → Q (some (.int (zl_pl (fun k => M.1 1 (138 + k)) i l 9).2.2)) M) : zm_R E (d + 2) mX12_play [.ref 0, .int o, .int l] M Q := by
  refine zX12_play hE rfl (fun G h0 h12 h21 h22 h31 h33 h42 h58 h59 h78 h81 h102 h104 h110 h120 h121 h131 h133 h144 h147 h149 h155 => ?_)
  show G 0 [some (.ref 0), some (.int o), some (.int l), none, none, none, none, none, none] [] M
  refine h0 _ _ _ ?_
  simp only [bX12_play_0, zw_0, zw_1, zs_iloadn1, zs_iconst, zi_12_69, zs_ifne, zs_bipush, zs_ireturn, zh_0, zh_1, zh_2, zh_3, zh_4, zt_i, zt_l, zt_r, zt_n, zn_int, zn_b0, zn_b1, zb_0, za_1, za_2, za_3, za_4, za_5, za_6, za_7, za_8, za_9, za_10, za_11, za_12, za_13, za_14, true_and, and_true, Nat.reduceAdd]
  refine zm_R_eq (c_isIn hE d o 0 1 M) ?_
  simp only [bX12_play_0, zw_0, zw_1, zs_iloadn1, zs_iconst, zi_12_69, zs_ifne, zs_bipush, zs_ireturn, zh_0, zh_1, zh_2, zh_3, zh_4, zt_i, zt_l, zt_r, zt_n, zn_int, zn_b0, zn_b1, zb_0, za_1, za_2, za_3, za_4, za_5, za_6, za_7, za_8, za_9, za_10, za_11, za_12, za_13, za_14, true_and, and_true, Nat.reduceAdd]
  refine ⟨fun ho => ?_, fun h => q1 h⟩
  obtain ⟨i, hi, rfl⟩ := zi_in_of (n := 1) (by decide) ho
  have q2 := q2 i hi rfl
  have fin : ∀ a b c d e f, G 155 [some (.ref 0), some (.int (nI i)), a, b, c, some (.int (zl_pl (fun k => M.1 1 (138 + k)) i l 9).2.2), d, e, f] [] M := by
    intros
    refine h155 _ _ _ ?_
    simp only [bX12_play_155, zw_0, zw_1, zs_iload5, zs_ireturn, zn_int, zn_b0, zn_b1, zb_0, za_1, za_2, za_3, za_4, za_5, za_6, za_7, za_8, za_9, za_10, za_11, za_12, za_13, za_14, true_and, and_true, Nat.reduceAdd]
    exact q2
  have loop : ∀ (f k : Nat) (l7 l8 : Option Value), k + f = 9 → G 42 [some (.ref 0), some (.int (nI i)), some (.int l), some (.int (zl_pl (fun k => M.1 1 (138 + k)) i l k).1), some (.int (zl_pl (fun k => M.1 1 (138 + k)) i l k).2.1), some (.int (zl_pl (fun k => M.1 1 (138 + k)) i l k).2.2), some (.int (if k = 9 then -1 else nI (8 - k))), l7, l8] [] M := by
    intro f
    induction f with
    | zero =>
      intro k l7 l8 hk
      have hk : k = 9 := by omega
      subst hk
      refine h42 _ _ _ ?_
      simp only [bX12_play_42, zw_0, zw_1, zs_iload6, zs_iflt, zs_iconst, zs_irem, zs_ifne, zs_goto, zb_0, za_1, za_2, za_3, za_4, za_5, za_6, za_7, za_8, za_9, za_10, za_11, za_12, za_13, za_14, true_and, and_true, Nat.reduceAdd]
      exact ⟨fun _ => fin _ _ _ _ _ _, fun h => absurd (by decide) h⟩
    | succ f ih =>
      intro k l7 l8 hk
      obtain ⟨v1, v2, v3⟩ := zl_ev (8 - k) (by omega)
      rw [if_neg (by omega)]
      have next : ∀ s l7 l8, s = zl_pl (fun k => M.1 1 (138 + k)) i l (k + 1) → G 149 [some (.ref 0), some (.int (nI i)), some (.int l), some (.int s.1), some (.int s.2.1), some (.int s.2.2), some (.int (nI (8 - k))), l7, l8] [] M := by
        intro s l7 l8 hs
        refine h149 _ _ _ ?_
        simp only [bX12_play_149, zw_0, zw_1, zs_iinc6, zs_goto, zc_none, zc_int, zc_ref, zc_null, zc_long, zb_0, za_1, za_2, za_3, za_4, za_5, za_6, za_7, za_8, za_9, za_10, za_11, za_12, za_13, za_14, true_and, and_true, Nat.reduceAdd]
        rw [hs]
        have := ih (k + 1) l7 l8 (by omega)
        rw [zl_dn k (by omega)]
        by_cases h8 : k = 8
        · rw [if_pos h8]; rw [if_pos (by omega)] at this; exact this
        · rw [if_neg h8]; rw [if_neg (by omega)] at this; exact this
      have es : zl_pl (fun k => M.1 1 (138 + k)) i l (k + 1) = zl_st (fun k => M.1 1 (138 + k)) i (8 - k) (zl_pl (fun k => M.1 1 (138 + k)) i l k) := rfl
      rw [es] at next
      have ht : 8 - k < 9 := by omega
      generalize zl_pl (fun k => M.1 1 (138 + k)) i l k = s at next ⊢
      generalize 8 - k = t at *
      have x1 : (138 : Int32) + 5 * nI i + nI (t / 2) = nI (138 + (5 * i + t / 2)) := by
        rw [show (5 : Int32) = nI 5 from rfl, show (138 : Int32) = nI 138 from rfl, pk_mul, nI_add, nI_add, Nat.add_assoc]
      have y1 : (1 : Int32) - nI i = nI (1 - i) := by rw [show (1 : Int32) = nI 1 from rfl, pk_sub hi]
      have x2 : (138 : Int32) + 5 * nI (1 - i) + nI (t / 2) = nI (138 + (5 * (1 - i) + t / 2)) := by
        rw [show (5 : Int32) = nI 5 from rfl, show (138 : Int32) = nI 138 from rfl, pk_mul, nI_add, nI_add, Nat.add_assoc]
      obtain ⟨i1, i2⟩ := zx_ck (k := 138) (p := 5 * i + t / 2) (N := 4544) (by omega) (by decide)
      obtain ⟨i3, i4⟩ := zx_ck (k := 138) (p := 5 * (1 - i) + t / 2) (N := 4544) (by omega) (by decide)
      refine h42 _ _ _ ?_
      simp only [bX12_play_42, zw_0, zw_1, zs_iload6, zs_iflt, zs_iconst, zs_irem, zs_ifne, zs_goto, zb_0, za_1, za_2, za_3, za_4, za_5, za_6, za_7, za_8, za_9, za_10, za_11, za_12, za_13, za_14, true_and, and_true, Nat.reduceAdd]
      refine ⟨fun h => absurd h v3, fun _ => ⟨by decide, fun h => ?_, fun h => ?_⟩⟩
      · have hp : ¬ t % 2 = 0 := fun z => h (v1.mpr z)
        have stp : zl_st (fun k => M.1 1 (138 + k)) i t s = if M.1 1 (138 + (5 * (1 - i) + t / 2)) ≤ s.2.1 then (0, M.1 1 (138 + (5 * (1 - i) + t / 2)), nI (1 - i)) else s := by
          unfold zl_st
          rw [if_neg hp]
        refine h58 _ _ _ ?_
        simp only [bX12_play_58, zw_0, zw_1, zs_iconst, zb_0, za_1, za_2, za_3, za_4, za_5, za_6, za_7, za_8, za_9, za_10, za_11, za_12, za_13, za_14, true_and, and_true, Nat.reduceAdd]
        refine h59 _ _ _ ?_
        simp only [bX12_play_59, zw_0, zw_1, zs_istore7, zs_aloadn0, zs_aloadNn0, zg_12_7, zs_sipush, zs_iconst, zs_iload7, zs_ifeq, zs_iloadn1, zs_goto, zc_none, zc_int, zc_ref, zc_null, zc_long, zb_0, za_1, za_2, za_3, za_4, za_5, za_6, za_7, za_8, za_9, za_10, za_11, za_12, za_13, za_14, true_and, and_true, Nat.reduceAdd]
        refine ⟨fun _ => ?_, fun h => (h (by trivial)).elim⟩
        refine h78 _ _ _ ?_
        simp only [bX12_play_78, zw_0, zw_1, zs_iconst, zs_iloadn1, zs_isub, zb_0, za_1, za_2, za_3, za_4, za_5, za_6, za_7, za_8, za_9, za_10, za_11, za_12, za_13, za_14, true_and, and_true, Nat.reduceAdd, y1]
        refine h81 _ _ _ ?_
        simp only [bX12_play_81, zw_0, zw_1, zs_imul, zs_iadd, zs_iload6, zs_iconst, zs_idiv, zs_iaload, zs_istore8, zs_iload8, zs_iload7, zs_ifeq, zs_iloadn3, zs_goto, zc_none, zc_int, zc_ref, zc_null, zc_long, zb_0, za_1, za_2, za_3, za_4, za_5, za_6, za_7, za_8, za_9, za_10, za_11, za_12, za_13, za_14, zu_0, zu_1, zu_2, zu_3, zu_4, zu_5, zu_6, zu_7, zu_8, zu_9, zu_10, zu_11, zu_12, zu_13, zu_14, zu_15, zu_16, zu_17, zu_18, zu_19, zu_20, zu_21, zu_22, zu_23, zu_24, zu_25, zu_26, zu_27, zu_28, zu_29, zu_30, zu_90, zv_0_9, zv_1_9, zv_2_9, zv_3_9, zv_4_9, zv_5_9, zv_6_9, zv_7_9, zv_8_9, zv_0_330, zv_0_4544, zv_1_4544, zv_2_4544, zv_3_4544, zv_4_4544, zv_5_4544, zv_6_4544, zv_7_4544, zv_8_4544, zv_9_4544, zv_10_4544, zv_11_4544, zv_12_4544, zv_13_4544, zv_14_4544, zv_15_4544, zv_16_4544, zv_17_4544, zv_18_4544, zv_19_4544, zv_20_4544, zv_21_4544, zv_22_4544, zv_23_4544, zv_24_4544, zv_25_4544, zv_26_4544, zv_27_4544, zv_28_4544, zv_29_4544, zv_0_11, zv_1_11, zv_0_160, true_and, and_true, Nat.reduceAdd, v2, x2, i3, i4]
        refine ⟨by decide, fun _ => ?_, fun h => (h (by trivial)).elim⟩
        refine h102 _ _ _ ?_
        simp only [bX12_play_102, zw_0, zw_1, zs_iload4, zb_0, za_1, za_2, za_3, za_4, za_5, za_6, za_7, za_8, za_9, za_10, za_11, za_12, za_13, za_14, true_and, and_true, Nat.reduceAdd]
        refine h104 _ _ _ ?_
        simp only [bX12_play_104, zw_0, zw_1, zs_icle, zs_goto, zb_0, za_1, za_2, za_3, za_4, za_5, za_6, za_7, za_8, za_9, za_10, za_11, za_12, za_13, za_14, true_and, and_true, Nat.reduceAdd]
        refine ⟨fun h => ?_, fun h => next s _ _ (by rw [stp, if_neg h])⟩
        refine h110 _ _ _ ?_
        simp only [bX12_play_110, zw_0, zw_1, zs_iload7, zs_ifeq, zs_iload8, zs_goto, zb_0, za_1, za_2, za_3, za_4, za_5, za_6, za_7, za_8, za_9, za_10, za_11, za_12, za_13, za_14, true_and, and_true, Nat.reduceAdd]
        refine ⟨fun _ => ?_, fun h => (h (by trivial)).elim⟩
        refine h120 _ _ _ ?_
        simp only [bX12_play_120, zw_0, zw_1, zs_iconst, zb_0, za_1, za_2, za_3, za_4, za_5, za_6, za_7, za_8, za_9, za_10, za_11, za_12, za_13, za_14, true_and, and_true, Nat.reduceAdd]
        refine h121 _ _ _ ?_
        simp only [bX12_play_121, zw_0, zw_1, zs_istoren3, zs_iload7, zs_ifeq, zs_iconst, zs_goto, zc_none, zc_int, zc_ref, zc_null, zc_long, zb_0, za_1, za_2, za_3, za_4, za_5, za_6, za_7, za_8, za_9, za_10, za_11, za_12, za_13, za_14, true_and, and_true, Nat.reduceAdd]
        refine ⟨fun _ => ?_, fun h => (h (by trivial)).elim⟩
        refine h131 _ _ _ ?_
        simp only [bX12_play_131, zw_0, zw_1, zs_iload8, zb_0, za_1, za_2, za_3, za_4, za_5, za_6, za_7, za_8, za_9, za_10, za_11, za_12, za_13, za_14, true_and, and_true, Nat.reduceAdd]
        refine h133 _ _ _ ?_
        simp only [bX12_play_133, zw_0, zw_1, zs_istore4, zs_iload7, zs_ifeq, zs_iloadn1, zs_goto, zc_none, zc_int, zc_ref, zc_null, zc_long, zb_0, za_1, za_2, za_3, za_4, za_5, za_6, za_7, za_8, za_9, za_10, za_11, za_12, za_13, za_14, true_and, and_true, Nat.reduceAdd]
        refine ⟨fun _ => ?_, fun h => (h (by trivial)).elim⟩
        refine h144 _ _ _ ?_
        simp only [bX12_play_144, zw_0, zw_1, zs_iconst, zs_iloadn1, zs_isub, zb_0, za_1, za_2, za_3, za_4, za_5, za_6, za_7, za_8, za_9, za_10, za_11, za_12, za_13, za_14, true_and, and_true, Nat.reduceAdd, y1]
        refine h147 _ _ _ ?_
        simp only [bX12_play_147, zw_0, zw_1, zs_istore5, zc_none, zc_int, zc_ref, zc_null, zc_long, zb_0, za_1, za_2, za_3, za_4, za_5, za_6, za_7, za_8, za_9, za_10, za_11, za_12, za_13, za_14, true_and, and_true, Nat.reduceAdd]
        exact next (0, M.1 1 (138 + (5 * (1 - i) + t / 2)), nI (1 - i)) _ _ (by rw [stp, if_pos h])
      · have hp : t % 2 = 0 := v1.mp h
        have stp : zl_st (fun k => M.1 1 (138 + k)) i t s = if M.1 1 (138 + (5 * i + t / 2)) ≤ s.1 then (M.1 1 (138 + (5 * i + t / 2)), 0, nI i) else s := by
          unfold zl_st
          rw [if_pos hp]
        refine h59 _ _ _ ?_
        simp only [bX12_play_59, zw_0, zw_1, zs_istore7, zs_aloadn0, zs_aloadNn0, zg_12_7, zs_sipush, zs_iconst, zs_iload7, zs_ifeq, zs_iloadn1, zs_goto, zc_none, zc_int, zc_ref, zc_null, zc_long, zb_0, za_1, za_2, za_3, za_4, za_5, za_6, za_7, za_8, za_9, za_10, za_11, za_12, za_13, za_14, true_and, and_true, Nat.reduceAdd]
        refine ⟨fun h => absurd h (by decide), fun _ => ?_⟩
        refine h81 _ _ _ ?_
        simp only [bX12_play_81, zw_0, zw_1, zs_imul, zs_iadd, zs_iload6, zs_iconst, zs_idiv, zs_iaload, zs_istore8, zs_iload8, zs_iload7, zs_ifeq, zs_iloadn3, zs_goto, zc_none, zc_int, zc_ref, zc_null, zc_long, zb_0, za_1, za_2, za_3, za_4, za_5, za_6, za_7, za_8, za_9, za_10, za_11, za_12, za_13, za_14, zu_0, zu_1, zu_2, zu_3, zu_4, zu_5, zu_6, zu_7, zu_8, zu_9, zu_10, zu_11, zu_12, zu_13, zu_14, zu_15, zu_16, zu_17, zu_18, zu_19, zu_20, zu_21, zu_22, zu_23, zu_24, zu_25, zu_26, zu_27, zu_28, zu_29, zu_30, zu_90, zv_0_9, zv_1_9, zv_2_9, zv_3_9, zv_4_9, zv_5_9, zv_6_9, zv_7_9, zv_8_9, zv_0_330, zv_0_4544, zv_1_4544, zv_2_4544, zv_3_4544, zv_4_4544, zv_5_4544, zv_6_4544, zv_7_4544, zv_8_4544, zv_9_4544, zv_10_4544, zv_11_4544, zv_12_4544, zv_13_4544, zv_14_4544, zv_15_4544, zv_16_4544, zv_17_4544, zv_18_4544, zv_19_4544, zv_20_4544, zv_21_4544, zv_22_4544, zv_23_4544, zv_24_4544, zv_25_4544, zv_26_4544, zv_27_4544, zv_28_4544, zv_29_4544, zv_0_11, zv_1_11, zv_0_160, true_and, and_true, Nat.reduceAdd, v2, x1, i1, i2]
        refine ⟨by decide, fun h => absurd h (by decide), fun _ => ?_⟩
        refine h104 _ _ _ ?_
        simp only [bX12_play_104, zw_0, zw_1, zs_icle, zs_goto, zb_0, za_1, za_2, za_3, za_4, za_5, za_6, za_7, za_8, za_9, za_10, za_11, za_12, za_13, za_14, true_and, and_true, Nat.reduceAdd]
        refine ⟨fun h => ?_, fun h => next s _ _ (by rw [stp, if_neg h])⟩
        refine h110 _ _ _ ?_
        simp only [bX12_play_110, zw_0, zw_1, zs_iload7, zs_ifeq, zs_iload8, zs_goto, zb_0, za_1, za_2, za_3, za_4, za_5, za_6, za_7, za_8, za_9, za_10, za_11, za_12, za_13, za_14, true_and, and_true, Nat.reduceAdd]
        refine ⟨fun h => absurd h (by decide), fun _ => ?_⟩
        refine h121 _ _ _ ?_
        simp only [bX12_play_121, zw_0, zw_1, zs_istoren3, zs_iload7, zs_ifeq, zs_iconst, zs_goto, zc_none, zc_int, zc_ref, zc_null, zc_long, zb_0, za_1, za_2, za_3, za_4, za_5, za_6, za_7, za_8, za_9, za_10, za_11, za_12, za_13, za_14, true_and, and_true, Nat.reduceAdd]
        refine ⟨fun h => absurd h (by decide), fun _ => ?_⟩
        refine h133 _ _ _ ?_
        simp only [bX12_play_133, zw_0, zw_1, zs_istore4, zs_iload7, zs_ifeq, zs_iloadn1, zs_goto, zc_none, zc_int, zc_ref, zc_null, zc_long, zb_0, za_1, za_2, za_3, za_4, za_5, za_6, za_7, za_8, za_9, za_10, za_11, za_12, za_13, za_14, true_and, and_true, Nat.reduceAdd]
        refine ⟨fun h => absurd h (by decide), fun _ => ?_⟩
        refine h147 _ _ _ ?_
        simp only [bX12_play_147, zw_0, zw_1, zs_istore5, zc_none, zc_int, zc_ref, zc_null, zc_long, zb_0, za_1, za_2, za_3, za_4, za_5, za_6, za_7, za_8, za_9, za_10, za_11, za_12, za_13, za_14, true_and, and_true, Nat.reduceAdd]
        exact next (M.1 1 (138 + (5 * i + t / 2)), 0, nI i) _ _ (by rw [stp, if_pos h])
  have fire : ∀ a b, (a, b, (-1 : Int32)) = zl_pl (fun k => M.1 1 (138 + k)) i l 0 → G 33 [some (.ref 0), some (.int (nI i)), some (.int l), some (.int a), none, none, none, none, none] [.int b] M := by
    intro a b hab
    refine h33 _ _ _ ?_
    simp only [bX12_play_33, zw_0, zw_1, zs_istore4, zs_iconst, zs_istore5, zs_bipush, zs_istore6, zc_none, zc_int, zc_ref, zc_null, zc_long, zb_0, za_1, za_2, za_3, za_4, za_5, za_6, za_7, za_8, za_9, za_10, za_11, za_12, za_13, za_14, true_and, and_true, Nat.reduceAdd]
    have := loop 9 0 none none (by omega)
    rw [← hab] at this
    exact this
  refine h12 _ _ _ ?_
  simp only [bX12_play_12, zw_0, zw_1, zs_iloadn2, zs_ifeq, zs_bipush, zs_goto, zb_0, za_1, za_2, za_3, za_4, za_5, za_6, za_7, za_8, za_9, za_10, za_11, za_12, za_13, za_14, true_and, and_true, Nat.reduceAdd]
  refine ⟨fun hl => ?_, fun hl => ?_⟩
  · refine h21 _ _ _ ?_
    simp only [bX12_play_21, zw_0, zw_1, zs_iconst, zb_0, za_1, za_2, za_3, za_4, za_5, za_6, za_7, za_8, za_9, za_10, za_11, za_12, za_13, za_14, true_and, and_true, Nat.reduceAdd]
    refine h22 _ _ _ ?_
    simp only [bX12_play_22, zw_0, zw_1, zs_istoren3, zs_iloadn2, zs_ifeq, zs_iconst, zs_goto, zc_none, zc_int, zc_ref, zc_null, zc_long, zb_0, za_1, za_2, za_3, za_4, za_5, za_6, za_7, za_8, za_9, za_10, za_11, za_12, za_13, za_14, true_and, and_true, Nat.reduceAdd]
    refine ⟨fun _ => ?_, fun h => absurd hl h⟩
    refine h31 _ _ _ ?_
    simp only [bX12_play_31, zw_0, zw_1, zs_bipush, zb_0, za_1, za_2, za_3, za_4, za_5, za_6, za_7, za_8, za_9, za_10, za_11, za_12, za_13, za_14, true_and, and_true, Nat.reduceAdd]
    exact fire _ _ (by simp only [zl_pl]; rw [if_pos hl])
  · refine h22 _ _ _ ?_
    simp only [bX12_play_22, zw_0, zw_1, zs_istoren3, zs_iloadn2, zs_ifeq, zs_iconst, zs_goto, zc_none, zc_int, zc_ref, zc_null, zc_long, zb_0, za_1, za_2, za_3, za_4, za_5, za_6, za_7, za_8, za_9, za_10, za_11, za_12, za_13, za_14, true_and, and_true, Nat.reduceAdd]
    exact ⟨fun h => absurd h hl, fun _ => fire _ _ (by simp only [zl_pl]; rw [if_neg hl])⟩
