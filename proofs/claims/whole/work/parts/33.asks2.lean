/-! ===== ofApology, book, befell, ranked, play ===== -/
theorem c10_has {E : zm_E} (hE : zm_ok E.2.2.1 E.2.2.2.2) (d : Nat) {w n : Nat} (hw : w = 23 ∨ w = 738) (hn : n ≤ 1000) (o : Int32) {M : zm_M} (hc : M.1 w 2 = nI n) : zm_R E (d + 1) mX10_has [.ref w, .int o] M (fun r M' => r = some (.int (zi_b (zo_is n o))) ∧ M' = M) := by
  have hz : zi_b (zo_is n o) = if o < 0 then 0 else if o < nI n then 1 else 0 := by
    rw [← zo_in hn]
    unfold zi_in
    by_cases h1 : o < 0
    · rw [if_pos h1, if_pos h1]
    · rw [if_neg h1, if_neg h1]
      obtain ⟨k, hk, rfl⟩ := nI_of h1
      cases n with
      | zero =>
        rw [if_pos (Int32.lt_iff_toInt_lt.mpr (by rw [nI_toInt hk]; show (-1 : Int) < k; omega)), if_neg (nI_nlt (by omega) hk)]
      | succ n =>
        rw [nI_pred]
        by_cases h2 : k < n + 1
        · rw [if_neg (nI_nlt (by omega) (by omega)), if_pos (nI_lt h2 (by omega))]
        · rw [if_pos (nI_lt (by omega) hk), if_neg (nI_nlt (by omega) (by omega))]
  rw [hz]
  rcases hw with rfl | rfl
  all_goals
    refine zX10_has hE rfl (fun G h0 h16 h17 => ?_)
    show G 0 [some (.ref _), some (.int o)] [] M
    repeat' (first | (refine h0 _ _ _ ?_; simp only [bX10_has_0, zw_0, zw_1, zs_iloadn1, zs_iflt, zs_aloadn0, zs_aloadNn0, zg_10_18, zs_icge, zs_iconst, zs_goto, zb_15, zb_16, zb_17, za_18, za_19, za_20, za_21, za_22, zb_23, za_24, za_25, za_26, za_27, za_28, za_29, za_30, za_31, za_32, zb_35, za_36, za_37, za_38, za_39, za_40, zb_377, zb_378, za_379, za_380, za_381, za_382, za_383, zb_384, za_385, za_386, za_387, za_388, za_389, za_390, za_391, za_392, za_393, zb_396, za_397, za_398, za_399, za_400, za_401, zb_738, za_739, za_740, za_741, za_742, za_743, za_744, za_745, za_746, za_747, zb_748, za_749, za_750, zb_751, zb_752, za_753, za_754, za_755, za_756, zb_757, za_758, za_759, za_760, zb_761, za_763, za_764, za_765, true_and, and_true, Nat.reduceAdd, hc]) | (refine h16 _ _ _ ?_; simp only [bX10_has_16, zw_0, zw_1, zs_iconst, zb_15, zb_16, zb_17, za_18, za_19, za_20, za_21, za_22, zb_23, za_24, za_25, za_26, za_27, za_28, za_29, za_30, za_31, za_32, zb_35, za_36, za_37, za_38, za_39, za_40, zb_377, zb_378, za_379, za_380, za_381, za_382, za_383, zb_384, za_385, za_386, za_387, za_388, za_389, za_390, za_391, za_392, za_393, zb_396, za_397, za_398, za_399, za_400, za_401, zb_738, za_739, za_740, za_741, za_742, za_743, za_744, za_745, za_746, za_747, zb_748, za_749, za_750, zb_751, zb_752, za_753, za_754, za_755, za_756, zb_757, za_758, za_759, za_760, zb_761, za_763, za_764, za_765, true_and, and_true, Nat.reduceAdd, hc]) | (refine h17 _ _ _ ?_; simp only [bX10_has_17, zw_0, zw_1, zs_ireturn, zn_int, zn_b0, zn_b1, zb_15, zb_16, zb_17, za_18, za_19, za_20, za_21, za_22, zb_23, za_24, za_25, za_26, za_27, za_28, za_29, za_30, za_31, za_32, zb_35, za_36, za_37, za_38, za_39, za_40, zb_377, zb_378, za_379, za_380, za_381, za_382, za_383, zb_384, za_385, za_386, za_387, za_388, za_389, za_390, za_391, za_392, za_393, zb_396, za_397, za_398, za_399, za_400, za_401, zb_738, za_739, za_740, za_741, za_742, za_743, za_744, za_745, za_746, za_747, zb_748, za_749, za_750, zb_751, zb_752, za_753, za_754, za_755, za_756, zb_757, za_758, za_759, za_760, zb_761, za_763, za_764, za_765, true_and, and_true, Nat.reduceAdd, hc]) | apply And.intro | intro _ | rfl)
    all_goals first | simp [*] | (simp only [*]; simp [Int32.not_lt.mpr, *])
theorem c_ofApology {E : zm_E} (hE : zm_ok E.2.2.1 E.2.2.2.2) (d : Nat) {m : Nat} (hm : m ≤ 10) (a w : Int32) {M : zm_M} (hc : M.1 1 8 = nI m) {Q : Option Value → zm_M → Prop} (q1 : (zo_is m a = false ∨ zi_in w 0 6 = 0) → Q (some (.int (-2))) M) (q2 : ∀ k f, k < m → f ≤ 6 → a = nI k → w = nI f → Q (some (.int (zp M f k))) M) : zm_R E (d + 3) mX12_ofApology [.ref 0, .int a, .int w] M Q := by
  refine zX12_ofApology hE rfl (fun G h0 h27 h29 => ?_)
  show G 0 [some (.ref 0), some (.int a), some (.int w)] [] M
  have bad : (zo_is m a = false ∨ zi_in w 0 6 = 0) → G 27 [some (.ref 0), some (.int a), some (.int w)] [] M := by
    intro hb
    refine h27 _ _ _ ?_
    simp only [bX12_ofApology_27, zw_0, zw_1, zs_bipush, zb_0, za_1, za_2, za_3, za_4, za_5, za_6, za_7, za_8, za_9, za_10, za_11, za_12, za_13, za_14, true_and, and_true, Nat.reduceAdd]
    refine h29 _ _ _ ?_
    simp only [bX12_ofApology_29, zw_0, zw_1, zs_ireturn, zn_int, zn_b0, zn_b1, zb_0, za_1, za_2, za_3, za_4, za_5, za_6, za_7, za_8, za_9, za_10, za_11, za_12, za_13, za_14, true_and, and_true, Nat.reduceAdd]
    exact q1 hb
  refine h0 _ _ _ ?_
  simp only [bX12_ofApology_0, zw_0, zw_1, zs_aloadn0, zs_aloadNn0, zs_iloadn1, zi_12_362, zs_ifeq, zs_iloadn2, zs_iconst, zs_bipush, zi_12_69, zi_12_304, zs_goto, zh_0, zh_1, zh_2, zh_3, zh_4, zt_i, zt_l, zt_r, zt_n, zb_0, za_1, za_2, za_3, za_4, za_5, za_6, za_7, za_8, za_9, za_10, za_11, za_12, za_13, za_14, true_and, and_true, Nat.reduceAdd]
  refine zm_R_eq (c_isApology hE d a M) ?_
  rw [hc, zo_in (by omega)]
  simp only [bX12_ofApology_0, zw_0, zw_1, zs_aloadn0, zs_aloadNn0, zs_iloadn1, zi_12_362, zs_ifeq, zs_iloadn2, zs_iconst, zs_bipush, zi_12_69, zi_12_304, zs_goto, zh_0, zh_1, zh_2, zh_3, zh_4, zt_i, zt_l, zt_r, zt_n, zb_0, za_1, za_2, za_3, za_4, za_5, za_6, za_7, za_8, za_9, za_10, za_11, za_12, za_13, za_14, true_and, and_true, Nat.reduceAdd, zi_b0]
  refine ⟨fun h => bad (Or.inl h), fun hp => ?_⟩
  simp only [Bool.not_eq_false] at hp
  obtain ⟨k, hk, rfl⟩ := zo_of hp (by omega)
  refine zm_R_eq (c_isIn hE (d + 1) w 0 6 M) ?_
  simp only [bX12_ofApology_0, zw_0, zw_1, zs_aloadn0, zs_aloadNn0, zs_iloadn1, zi_12_362, zs_ifeq, zs_iloadn2, zs_iconst, zs_bipush, zi_12_69, zi_12_304, zs_goto, zh_0, zh_1, zh_2, zh_3, zh_4, zt_i, zt_l, zt_r, zt_n, zb_0, za_1, za_2, za_3, za_4, za_5, za_6, za_7, za_8, za_9, za_10, za_11, za_12, za_13, za_14, true_and, and_true, Nat.reduceAdd]
  refine ⟨fun h => bad (Or.inr h), fun h => ?_⟩
  obtain ⟨f, hf, rfl⟩ := zi_in_of (n := 6) (by decide) h
  refine zm_R_eq (c_gt hE (d + 1) (k := k) (by omega) f (by omega) M) ?_
  simp only [bX12_ofApology_0, zw_0, zw_1, zs_aloadn0, zs_aloadNn0, zs_iloadn1, zi_12_362, zs_ifeq, zs_iloadn2, zs_iconst, zs_bipush, zi_12_69, zi_12_304, zs_goto, zh_0, zh_1, zh_2, zh_3, zh_4, zt_i, zt_l, zt_r, zt_n, zb_0, za_1, za_2, za_3, za_4, za_5, za_6, za_7, za_8, za_9, za_10, za_11, za_12, za_13, za_14, true_and, and_true, Nat.reduceAdd]
  refine h29 _ _ _ ?_
  simp only [bX12_ofApology_29, zw_0, zw_1, zs_ireturn, zn_int, zn_b0, zn_b1, zb_0, za_1, za_2, za_3, za_4, za_5, za_6, za_7, za_8, za_9, za_10, za_11, za_12, za_13, za_14, true_and, and_true, Nat.reduceAdd]
  exact q2 k f hk hf rfl rfl
theorem c11_ofApology {E : zm_E} (hE : zm_ok E.2.2.1 E.2.2.2.2) (d : Nat) {m : Nat} (hm : m ≤ 10) (a w : Int32) {M : zm_M} (hc : M.1 23 2 = nI m) {Q : Option Value → zm_M → Prop} (q1 : (zo_is m a = false ∨ zi_in w 0 6 = 0) → Q (some (.int (-2))) M) (q2 : ∀ k f, k < m → f ≤ 6 → a = nI k → w = nI f → Q (some (.int (M.1 (24 + f) k))) M) : zm_R E (d + 2) mX11_ofApology [.ref 15, .int a, .int w] M Q := by
  refine zX11_ofApology hE rfl (fun G h0 h19 h64 h71 h78 h85 h92 h99 h106 h113 => ?_)
  show G 0 [some (.ref 15), some (.int a), some (.int w), none] [] M
  refine h0 _ _ _ ?_
  simp only [bX11_ofApology_0, zw_0, zw_1, zs_aloadn0, zs_aloadNn0, zg_11_10, zg_11_136, zs_astoren3, zs_astoreNn3, zs_aloadn3, zs_aloadNn3, zs_iloadn1, zi_11_151, zs_ifne, zs_bipush, zs_ireturn, zc_none, zc_int, zc_ref, zc_null, zc_long, zh_0, zh_1, zh_2, zh_3, zh_4, zt_i, zt_l, zt_r, zt_n, zn_int, zn_b0, zn_b1, zb_15, zb_16, zb_17, za_18, za_19, za_20, za_21, za_22, zb_23, za_24, za_25, za_26, za_27, za_28, za_29, za_30, za_31, za_32, zb_35, za_36, za_37, za_38, za_39, za_40, zb_377, zb_378, za_379, za_380, za_381, za_382, za_383, zb_384, za_385, za_386, za_387, za_388, za_389, za_390, za_391, za_392, za_393, zb_396, za_397, za_398, za_399, za_400, za_401, zb_738, za_739, za_740, za_741, za_742, za_743, za_744, za_745, za_746, za_747, zb_748, za_749, za_750, zb_751, zb_752, za_753, za_754, za_755, za_756, zb_757, za_758, za_759, za_760, zb_761, za_763, za_764, za_765, true_and, and_true, Nat.reduceAdd]
  refine zm_R_eq (c10_has hE d (Or.inl rfl) (by omega) a hc) ?_
  simp only [bX11_ofApology_0, zw_0, zw_1, zs_aloadn0, zs_aloadNn0, zg_11_10, zg_11_136, zs_astoren3, zs_astoreNn3, zs_aloadn3, zs_aloadNn3, zs_iloadn1, zi_11_151, zs_ifne, zs_bipush, zs_ireturn, zc_none, zc_int, zc_ref, zc_null, zc_long, zh_0, zh_1, zh_2, zh_3, zh_4, zt_i, zt_l, zt_r, zt_n, zn_int, zn_b0, zn_b1, zb_15, zb_16, zb_17, za_18, za_19, za_20, za_21, za_22, zb_23, za_24, za_25, za_26, za_27, za_28, za_29, za_30, za_31, za_32, zb_35, za_36, za_37, za_38, za_39, za_40, zb_377, zb_378, za_379, za_380, za_381, za_382, za_383, zb_384, za_385, za_386, za_387, za_388, za_389, za_390, za_391, za_392, za_393, zb_396, za_397, za_398, za_399, za_400, za_401, zb_738, za_739, za_740, za_741, za_742, za_743, za_744, za_745, za_746, za_747, zb_748, za_749, za_750, zb_751, zb_752, za_753, za_754, za_755, za_756, zb_757, za_758, za_759, za_760, zb_761, za_763, za_764, za_765, true_and, and_true, Nat.reduceAdd, zi_b1]
  refine ⟨fun hp => ?_, fun h => q1 (Or.inl (by simpa [zi_b0] using h))⟩
  obtain ⟨k, hk, rfl⟩ := zo_of hp (by omega)
  have i1 : vp_in (nI k) 10 := vp_in_nI (by omega) (by decide)
  have i2 : (nI k).toNatClampNeg = k := nI_clamp (by omega)
  refine h19 _ _ _ ?_
  simp only [bX11_ofApology_19, zw_0, zw_1, zs_iloadn2, zs_tsw, zm_sw, zb_15, zb_16, zb_17, za_18, za_19, za_20, za_21, za_22, zb_23, za_24, za_25, za_26, za_27, za_28, za_29, za_30, za_31, za_32, zb_35, za_36, za_37, za_38, za_39, za_40, zb_377, zb_378, za_379, za_380, za_381, za_382, za_383, zb_384, za_385, za_386, za_387, za_388, za_389, za_390, za_391, za_392, za_393, zb_396, za_397, za_398, za_399, za_400, za_401, zb_738, za_739, za_740, za_741, za_742, za_743, za_744, za_745, za_746, za_747, zb_748, za_749, za_750, zb_751, zb_752, za_753, za_754, za_755, za_756, zb_757, za_758, za_759, za_760, zb_761, za_763, za_764, za_765, true_and, and_true, Nat.reduceAdd]
  refine ⟨?_, fun h0 => ⟨?_, fun h1 => ⟨?_, fun h2 => ⟨?_, fun h3 => ⟨?_, fun h4 => ⟨?_, fun h5 => ⟨?_, fun h6 => ?_⟩⟩⟩⟩⟩⟩⟩
  · rintro rfl
    refine h64 _ _ _ ?_
    simp only [bX11_ofApology_64, zw_0, zw_1, zs_aloadn3, zs_aloadNn3, zg_11_266, zs_iloadn1, zs_iaload, zs_ireturn, zn_int, zn_b0, zn_b1, zb_15, zb_16, zb_17, za_18, za_19, za_20, za_21, za_22, zb_23, za_24, za_25, za_26, za_27, za_28, za_29, za_30, za_31, za_32, zb_35, za_36, za_37, za_38, za_39, za_40, zb_377, zb_378, za_379, za_380, za_381, za_382, za_383, zb_384, za_385, za_386, za_387, za_388, za_389, za_390, za_391, za_392, za_393, zb_396, za_397, za_398, za_399, za_400, za_401, zb_738, za_739, za_740, za_741, za_742, za_743, za_744, za_745, za_746, za_747, zb_748, za_749, za_750, zb_751, zb_752, za_753, za_754, za_755, za_756, zb_757, za_758, za_759, za_760, zb_761, za_763, za_764, za_765, zu_0, zu_1, zu_2, zu_3, zu_4, zu_5, zu_6, zu_7, zu_8, zu_9, zu_10, zu_11, zu_12, zu_13, zu_14, zu_15, zu_16, zu_17, zu_18, zu_19, zu_20, zu_21, zu_22, zu_23, zu_24, zu_25, zu_26, zu_27, zu_28, zu_29, zu_30, zu_90, zv_0_9, zv_1_9, zv_2_9, zv_3_9, zv_4_9, zv_5_9, zv_6_9, zv_7_9, zv_8_9, zv_0_330, zv_0_4544, zv_1_4544, zv_2_4544, zv_3_4544, zv_4_4544, zv_5_4544, zv_6_4544, zv_7_4544, zv_8_4544, zv_9_4544, zv_10_4544, zv_11_4544, zv_12_4544, zv_13_4544, zv_14_4544, zv_15_4544, zv_16_4544, zv_17_4544, zv_18_4544, zv_19_4544, zv_20_4544, zv_21_4544, zv_22_4544, zv_23_4544, zv_24_4544, zv_25_4544, zv_26_4544, zv_27_4544, zv_28_4544, zv_29_4544, zv_0_11, zv_1_11, zv_0_160, true_and, and_true, Nat.reduceAdd, i1, i2]
    exact q2 k 0 hk (by decide) rfl rfl
  · rintro rfl
    refine h71 _ _ _ ?_
    simp only [bX11_ofApology_71, zw_0, zw_1, zs_aloadn3, zs_aloadNn3, zg_11_161, zs_iloadn1, zs_iaload, zs_ireturn, zn_int, zn_b0, zn_b1, zb_15, zb_16, zb_17, za_18, za_19, za_20, za_21, za_22, zb_23, za_24, za_25, za_26, za_27, za_28, za_29, za_30, za_31, za_32, zb_35, za_36, za_37, za_38, za_39, za_40, zb_377, zb_378, za_379, za_380, za_381, za_382, za_383, zb_384, za_385, za_386, za_387, za_388, za_389, za_390, za_391, za_392, za_393, zb_396, za_397, za_398, za_399, za_400, za_401, zb_738, za_739, za_740, za_741, za_742, za_743, za_744, za_745, za_746, za_747, zb_748, za_749, za_750, zb_751, zb_752, za_753, za_754, za_755, za_756, zb_757, za_758, za_759, za_760, zb_761, za_763, za_764, za_765, zu_0, zu_1, zu_2, zu_3, zu_4, zu_5, zu_6, zu_7, zu_8, zu_9, zu_10, zu_11, zu_12, zu_13, zu_14, zu_15, zu_16, zu_17, zu_18, zu_19, zu_20, zu_21, zu_22, zu_23, zu_24, zu_25, zu_26, zu_27, zu_28, zu_29, zu_30, zu_90, zv_0_9, zv_1_9, zv_2_9, zv_3_9, zv_4_9, zv_5_9, zv_6_9, zv_7_9, zv_8_9, zv_0_330, zv_0_4544, zv_1_4544, zv_2_4544, zv_3_4544, zv_4_4544, zv_5_4544, zv_6_4544, zv_7_4544, zv_8_4544, zv_9_4544, zv_10_4544, zv_11_4544, zv_12_4544, zv_13_4544, zv_14_4544, zv_15_4544, zv_16_4544, zv_17_4544, zv_18_4544, zv_19_4544, zv_20_4544, zv_21_4544, zv_22_4544, zv_23_4544, zv_24_4544, zv_25_4544, zv_26_4544, zv_27_4544, zv_28_4544, zv_29_4544, zv_0_11, zv_1_11, zv_0_160, true_and, and_true, Nat.reduceAdd, i1, i2]
    exact q2 k 1 hk (by decide) rfl rfl
  · rintro rfl
    refine h78 _ _ _ ?_
    simp only [bX11_ofApology_78, zw_0, zw_1, zs_aloadn3, zs_aloadNn3, zg_11_158, zs_iloadn1, zs_iaload, zs_ireturn, zn_int, zn_b0, zn_b1, zb_15, zb_16, zb_17, za_18, za_19, za_20, za_21, za_22, zb_23, za_24, za_25, za_26, za_27, za_28, za_29, za_30, za_31, za_32, zb_35, za_36, za_37, za_38, za_39, za_40, zb_377, zb_378, za_379, za_380, za_381, za_382, za_383, zb_384, za_385, za_386, za_387, za_388, za_389, za_390, za_391, za_392, za_393, zb_396, za_397, za_398, za_399, za_400, za_401, zb_738, za_739, za_740, za_741, za_742, za_743, za_744, za_745, za_746, za_747, zb_748, za_749, za_750, zb_751, zb_752, za_753, za_754, za_755, za_756, zb_757, za_758, za_759, za_760, zb_761, za_763, za_764, za_765, zu_0, zu_1, zu_2, zu_3, zu_4, zu_5, zu_6, zu_7, zu_8, zu_9, zu_10, zu_11, zu_12, zu_13, zu_14, zu_15, zu_16, zu_17, zu_18, zu_19, zu_20, zu_21, zu_22, zu_23, zu_24, zu_25, zu_26, zu_27, zu_28, zu_29, zu_30, zu_90, zv_0_9, zv_1_9, zv_2_9, zv_3_9, zv_4_9, zv_5_9, zv_6_9, zv_7_9, zv_8_9, zv_0_330, zv_0_4544, zv_1_4544, zv_2_4544, zv_3_4544, zv_4_4544, zv_5_4544, zv_6_4544, zv_7_4544, zv_8_4544, zv_9_4544, zv_10_4544, zv_11_4544, zv_12_4544, zv_13_4544, zv_14_4544, zv_15_4544, zv_16_4544, zv_17_4544, zv_18_4544, zv_19_4544, zv_20_4544, zv_21_4544, zv_22_4544, zv_23_4544, zv_24_4544, zv_25_4544, zv_26_4544, zv_27_4544, zv_28_4544, zv_29_4544, zv_0_11, zv_1_11, zv_0_160, true_and, and_true, Nat.reduceAdd, i1, i2]
    exact q2 k 2 hk (by decide) rfl rfl
  · rintro rfl
    refine h85 _ _ _ ?_
    simp only [bX11_ofApology_85, zw_0, zw_1, zs_aloadn3, zs_aloadNn3, zg_11_269, zs_iloadn1, zs_iaload, zs_ireturn, zn_int, zn_b0, zn_b1, zb_15, zb_16, zb_17, za_18, za_19, za_20, za_21, za_22, zb_23, za_24, za_25, za_26, za_27, za_28, za_29, za_30, za_31, za_32, zb_35, za_36, za_37, za_38, za_39, za_40, zb_377, zb_378, za_379, za_380, za_381, za_382, za_383, zb_384, za_385, za_386, za_387, za_388, za_389, za_390, za_391, za_392, za_393, zb_396, za_397, za_398, za_399, za_400, za_401, zb_738, za_739, za_740, za_741, za_742, za_743, za_744, za_745, za_746, za_747, zb_748, za_749, za_750, zb_751, zb_752, za_753, za_754, za_755, za_756, zb_757, za_758, za_759, za_760, zb_761, za_763, za_764, za_765, zu_0, zu_1, zu_2, zu_3, zu_4, zu_5, zu_6, zu_7, zu_8, zu_9, zu_10, zu_11, zu_12, zu_13, zu_14, zu_15, zu_16, zu_17, zu_18, zu_19, zu_20, zu_21, zu_22, zu_23, zu_24, zu_25, zu_26, zu_27, zu_28, zu_29, zu_30, zu_90, zv_0_9, zv_1_9, zv_2_9, zv_3_9, zv_4_9, zv_5_9, zv_6_9, zv_7_9, zv_8_9, zv_0_330, zv_0_4544, zv_1_4544, zv_2_4544, zv_3_4544, zv_4_4544, zv_5_4544, zv_6_4544, zv_7_4544, zv_8_4544, zv_9_4544, zv_10_4544, zv_11_4544, zv_12_4544, zv_13_4544, zv_14_4544, zv_15_4544, zv_16_4544, zv_17_4544, zv_18_4544, zv_19_4544, zv_20_4544, zv_21_4544, zv_22_4544, zv_23_4544, zv_24_4544, zv_25_4544, zv_26_4544, zv_27_4544, zv_28_4544, zv_29_4544, zv_0_11, zv_1_11, zv_0_160, true_and, and_true, Nat.reduceAdd, i1, i2]
    exact q2 k 3 hk (by decide) rfl rfl
  · rintro rfl
    refine h92 _ _ _ ?_
    simp only [bX11_ofApology_92, zw_0, zw_1, zs_aloadn3, zs_aloadNn3, zg_11_152, zs_iloadn1, zs_iaload, zs_ireturn, zn_int, zn_b0, zn_b1, zb_15, zb_16, zb_17, za_18, za_19, za_20, za_21, za_22, zb_23, za_24, za_25, za_26, za_27, za_28, za_29, za_30, za_31, za_32, zb_35, za_36, za_37, za_38, za_39, za_40, zb_377, zb_378, za_379, za_380, za_381, za_382, za_383, zb_384, za_385, za_386, za_387, za_388, za_389, za_390, za_391, za_392, za_393, zb_396, za_397, za_398, za_399, za_400, za_401, zb_738, za_739, za_740, za_741, za_742, za_743, za_744, za_745, za_746, za_747, zb_748, za_749, za_750, zb_751, zb_752, za_753, za_754, za_755, za_756, zb_757, za_758, za_759, za_760, zb_761, za_763, za_764, za_765, zu_0, zu_1, zu_2, zu_3, zu_4, zu_5, zu_6, zu_7, zu_8, zu_9, zu_10, zu_11, zu_12, zu_13, zu_14, zu_15, zu_16, zu_17, zu_18, zu_19, zu_20, zu_21, zu_22, zu_23, zu_24, zu_25, zu_26, zu_27, zu_28, zu_29, zu_30, zu_90, zv_0_9, zv_1_9, zv_2_9, zv_3_9, zv_4_9, zv_5_9, zv_6_9, zv_7_9, zv_8_9, zv_0_330, zv_0_4544, zv_1_4544, zv_2_4544, zv_3_4544, zv_4_4544, zv_5_4544, zv_6_4544, zv_7_4544, zv_8_4544, zv_9_4544, zv_10_4544, zv_11_4544, zv_12_4544, zv_13_4544, zv_14_4544, zv_15_4544, zv_16_4544, zv_17_4544, zv_18_4544, zv_19_4544, zv_20_4544, zv_21_4544, zv_22_4544, zv_23_4544, zv_24_4544, zv_25_4544, zv_26_4544, zv_27_4544, zv_28_4544, zv_29_4544, zv_0_11, zv_1_11, zv_0_160, true_and, and_true, Nat.reduceAdd, i1, i2]
    exact q2 k 4 hk (by decide) rfl rfl
  · rintro rfl
    refine h99 _ _ _ ?_
    simp only [bX11_ofApology_99, zw_0, zw_1, zs_aloadn3, zs_aloadNn3, zg_11_270, zs_iloadn1, zs_iaload, zs_ireturn, zn_int, zn_b0, zn_b1, zb_15, zb_16, zb_17, za_18, za_19, za_20, za_21, za_22, zb_23, za_24, za_25, za_26, za_27, za_28, za_29, za_30, za_31, za_32, zb_35, za_36, za_37, za_38, za_39, za_40, zb_377, zb_378, za_379, za_380, za_381, za_382, za_383, zb_384, za_385, za_386, za_387, za_388, za_389, za_390, za_391, za_392, za_393, zb_396, za_397, za_398, za_399, za_400, za_401, zb_738, za_739, za_740, za_741, za_742, za_743, za_744, za_745, za_746, za_747, zb_748, za_749, za_750, zb_751, zb_752, za_753, za_754, za_755, za_756, zb_757, za_758, za_759, za_760, zb_761, za_763, za_764, za_765, zu_0, zu_1, zu_2, zu_3, zu_4, zu_5, zu_6, zu_7, zu_8, zu_9, zu_10, zu_11, zu_12, zu_13, zu_14, zu_15, zu_16, zu_17, zu_18, zu_19, zu_20, zu_21, zu_22, zu_23, zu_24, zu_25, zu_26, zu_27, zu_28, zu_29, zu_30, zu_90, zv_0_9, zv_1_9, zv_2_9, zv_3_9, zv_4_9, zv_5_9, zv_6_9, zv_7_9, zv_8_9, zv_0_330, zv_0_4544, zv_1_4544, zv_2_4544, zv_3_4544, zv_4_4544, zv_5_4544, zv_6_4544, zv_7_4544, zv_8_4544, zv_9_4544, zv_10_4544, zv_11_4544, zv_12_4544, zv_13_4544, zv_14_4544, zv_15_4544, zv_16_4544, zv_17_4544, zv_18_4544, zv_19_4544, zv_20_4544, zv_21_4544, zv_22_4544, zv_23_4544, zv_24_4544, zv_25_4544, zv_26_4544, zv_27_4544, zv_28_4544, zv_29_4544, zv_0_11, zv_1_11, zv_0_160, true_and, and_true, Nat.reduceAdd, i1, i2]
    exact q2 k 5 hk (by decide) rfl rfl
  · rintro rfl
    refine h106 _ _ _ ?_
    simp only [bX11_ofApology_106, zw_0, zw_1, zs_aloadn3, zs_aloadNn3, zg_11_164, zs_iloadn1, zs_iaload, zs_ireturn, zn_int, zn_b0, zn_b1, zb_15, zb_16, zb_17, za_18, za_19, za_20, za_21, za_22, zb_23, za_24, za_25, za_26, za_27, za_28, za_29, za_30, za_31, za_32, zb_35, za_36, za_37, za_38, za_39, za_40, zb_377, zb_378, za_379, za_380, za_381, za_382, za_383, zb_384, za_385, za_386, za_387, za_388, za_389, za_390, za_391, za_392, za_393, zb_396, za_397, za_398, za_399, za_400, za_401, zb_738, za_739, za_740, za_741, za_742, za_743, za_744, za_745, za_746, za_747, zb_748, za_749, za_750, zb_751, zb_752, za_753, za_754, za_755, za_756, zb_757, za_758, za_759, za_760, zb_761, za_763, za_764, za_765, zu_0, zu_1, zu_2, zu_3, zu_4, zu_5, zu_6, zu_7, zu_8, zu_9, zu_10, zu_11, zu_12, zu_13, zu_14, zu_15, zu_16, zu_17, zu_18, zu_19, zu_20, zu_21, zu_22, zu_23, zu_24, zu_25, zu_26, zu_27, zu_28, zu_29, zu_30, zu_90, zv_0_9, zv_1_9, zv_2_9, zv_3_9, zv_4_9, zv_5_9, zv_6_9, zv_7_9, zv_8_9, zv_0_330, zv_0_4544, zv_1_4544, zv_2_4544, zv_3_4544, zv_4_4544, zv_5_4544, zv_6_4544, zv_7_4544, zv_8_4544, zv_9_4544, zv_10_4544, zv_11_4544, zv_12_4544, zv_13_4544, zv_14_4544, zv_15_4544, zv_16_4544, zv_17_4544, zv_18_4544, zv_19_4544, zv_20_4544, zv_21_4544, zv_22_4544, zv_23_4544, zv_24_4544, zv_25_4544, zv_26_4544, zv_27_4544, zv_28_4544, zv_29_4544, zv_0_11, zv_1_11, zv_0_160, true_and, and_true, Nat.reduceAdd, i1, i2]
    exact q2 k 6 hk (by decide) rfl rfl
  · refine h113 _ _ _ ?_
    simp only [bX11_ofApology_113, zw_0, zw_1, zs_bipush, zs_ireturn, zn_int, zn_b0, zn_b1, zb_15, zb_16, zb_17, za_18, za_19, za_20, za_21, za_22, zb_23, za_24, za_25, za_26, za_27, za_28, za_29, za_30, za_31, za_32, zb_35, za_36, za_37, za_38, za_39, za_40, zb_377, zb_378, za_379, za_380, za_381, za_382, za_383, zb_384, za_385, za_386, za_387, za_388, za_389, za_390, za_391, za_392, za_393, zb_396, za_397, za_398, za_399, za_400, za_401, zb_738, za_739, za_740, za_741, za_742, za_743, za_744, za_745, za_746, za_747, zb_748, za_749, za_750, zb_751, zb_752, za_753, za_754, za_755, za_756, zb_757, za_758, za_759, za_760, zb_761, za_763, za_764, za_765, true_and, and_true, Nat.reduceAdd]
    refine q1 (Or.inr ?_)
    rcases zi_in01 w 0 6 with z | z
    · exact z
    · obtain ⟨f, hf, rfl⟩ := zi_in_of (p := w) (n := 6) (by decide) (by show ¬ zi_in w 0 6 = 0; rw [z]; decide)
      rcases (show f = 0 ∨ f = 1 ∨ f = 2 ∨ f = 3 ∨ f = 4 ∨ f = 5 ∨ f = 6 by omega) with rfl | rfl | rfl | rfl | rfl | rfl | rfl
      · exact absurd rfl h0
      · exact absurd rfl h1
      · exact absurd rfl h2
      · exact absurd rfl h3
      · exact absurd rfl h4
      · exact absurd rfl h5
      · exact absurd rfl h6
/-! book -/
def zk_bk (dy v w : Int32) : Int32 := if w = 0 then dy else if w = 1 then v / 40000 else if w = 2 then v / 10000 - v / 10000 / 4 * 4 else if w = 3 then v - v / 10000 * 10000 else -2
theorem zx_4484 (k : Nat) : (4484 : Int32) + 2 * nI k = nI (4484 + 2 * k) := by rw [← nI_add, ← pk_mul]; rfl
theorem c_book {E : zm_E} (hE : zm_ok E.2.2.1 E.2.2.2.2) (d : Nat) {m : Nat} (hm : m ≤ 30) (i w : Int32) {M : zm_M} (hc : M.1 1 9 = nI m) {Q : Option Value → zm_M → Prop} (q0 : i = -1 → Q (some (.int (nI m))) M) (q1 : ¬ i = -1 → zo_is m i = false → Q (some (.int (-2))) M) (q2 : ∀ k, k < m → i = nI k → Q (some (.int (zk_bk (M.1 1 (4484 + 2 * k)) (M.1 1 (4484 + 2 * k + 1)) w))) M) : zm_R E (d + 2) mX12_book [.ref 0, .int i, .int w] M Q := by
  refine zX12_book hE rfl (fun G h0 h13 h33 h67 h80 h95 h108 h110 => ?_)
  show G 0 [some (.ref 0), some (.int i), some (.int w), none] [] M
  refine h0 _ _ _ ?_
  simp only [bX12_book_0, zw_0, zw_1, zs_iloadn1, zs_iconst, zs_icne, zs_aloadn0, zs_aloadNn0, zg_12_7, zs_bipush, zs_iaload, zs_ireturn, zn_int, zn_b0, zn_b1, zb_0, za_1, za_2, za_3, za_4, za_5, za_6, za_7, za_8, za_9, za_10, za_11, za_12, za_13, za_14, zu_0, zu_1, zu_2, zu_3, zu_4, zu_5, zu_6, zu_7, zu_8, zu_9, zu_10, zu_11, zu_12, zu_13, zu_14, zu_15, zu_16, zu_17, zu_18, zu_19, zu_20, zu_21, zu_22, zu_23, zu_24, zu_25, zu_26, zu_27, zu_28, zu_29, zu_30, zu_90, zv_0_9, zv_1_9, zv_2_9, zv_3_9, zv_4_9, zv_5_9, zv_6_9, zv_7_9, zv_8_9, zv_0_330, zv_0_4544, zv_1_4544, zv_2_4544, zv_3_4544, zv_4_4544, zv_5_4544, zv_6_4544, zv_7_4544, zv_8_4544, zv_9_4544, zv_10_4544, zv_11_4544, zv_12_4544, zv_13_4544, zv_14_4544, zv_15_4544, zv_16_4544, zv_17_4544, zv_18_4544, zv_19_4544, zv_20_4544, zv_21_4544, zv_22_4544, zv_23_4544, zv_24_4544, zv_25_4544, zv_26_4544, zv_27_4544, zv_28_4544, zv_29_4544, zv_0_11, zv_1_11, zv_0_160, true_and, and_true, Nat.reduceAdd]
  refine ⟨fun hne => ?_, fun h => by rw [hc]; exact q0 h⟩
  refine h13 _ _ _ ?_
  simp only [bX12_book_13, zw_0, zw_1, zs_iloadn1, zs_iconst, zs_aloadn0, zs_aloadNn0, zg_12_7, zs_bipush, zs_iaload, zs_isub, zi_12_69, zs_ifne, zs_ireturn, zh_0, zh_1, zh_2, zh_3, zh_4, zt_i, zt_l, zt_r, zt_n, zn_int, zn_b0, zn_b1, zb_0, za_1, za_2, za_3, za_4, za_5, za_6, za_7, za_8, za_9, za_10, za_11, za_12, za_13, za_14, zu_0, zu_1, zu_2, zu_3, zu_4, zu_5, zu_6, zu_7, zu_8, zu_9, zu_10, zu_11, zu_12, zu_13, zu_14, zu_15, zu_16, zu_17, zu_18, zu_19, zu_20, zu_21, zu_22, zu_23, zu_24, zu_25, zu_26, zu_27, zu_28, zu_29, zu_30, zu_90, zv_0_9, zv_1_9, zv_2_9, zv_3_9, zv_4_9, zv_5_9, zv_6_9, zv_7_9, zv_8_9, zv_0_330, zv_0_4544, zv_1_4544, zv_2_4544, zv_3_4544, zv_4_4544, zv_5_4544, zv_6_4544, zv_7_4544, zv_8_4544, zv_9_4544, zv_10_4544, zv_11_4544, zv_12_4544, zv_13_4544, zv_14_4544, zv_15_4544, zv_16_4544, zv_17_4544, zv_18_4544, zv_19_4544, zv_20_4544, zv_21_4544, zv_22_4544, zv_23_4544, zv_24_4544, zv_25_4544, zv_26_4544, zv_27_4544, zv_28_4544, zv_29_4544, zv_0_11, zv_1_11, zv_0_160, true_and, and_true, Nat.reduceAdd]
  refine zm_R_eq (c_isIn hE d i 0 _ M) ?_
  rw [hc, zo_in (by omega)]
  simp only [bX12_book_13, zw_0, zw_1, zs_iloadn1, zs_iconst, zs_aloadn0, zs_aloadNn0, zg_12_7, zs_bipush, zs_iaload, zs_isub, zi_12_69, zs_ifne, zs_ireturn, zh_0, zh_1, zh_2, zh_3, zh_4, zt_i, zt_l, zt_r, zt_n, zn_int, zn_b0, zn_b1, zb_0, za_1, za_2, za_3, za_4, za_5, za_6, za_7, za_8, za_9, za_10, za_11, za_12, za_13, za_14, zu_0, zu_1, zu_2, zu_3, zu_4, zu_5, zu_6, zu_7, zu_8, zu_9, zu_10, zu_11, zu_12, zu_13, zu_14, zu_15, zu_16, zu_17, zu_18, zu_19, zu_20, zu_21, zu_22, zu_23, zu_24, zu_25, zu_26, zu_27, zu_28, zu_29, zu_30, zu_90, zv_0_9, zv_1_9, zv_2_9, zv_3_9, zv_4_9, zv_5_9, zv_6_9, zv_7_9, zv_8_9, zv_0_330, zv_0_4544, zv_1_4544, zv_2_4544, zv_3_4544, zv_4_4544, zv_5_4544, zv_6_4544, zv_7_4544, zv_8_4544, zv_9_4544, zv_10_4544, zv_11_4544, zv_12_4544, zv_13_4544, zv_14_4544, zv_15_4544, zv_16_4544, zv_17_4544, zv_18_4544, zv_19_4544, zv_20_4544, zv_21_4544, zv_22_4544, zv_23_4544, zv_24_4544, zv_25_4544, zv_26_4544, zv_27_4544, zv_28_4544, zv_29_4544, zv_0_11, zv_1_11, zv_0_160, true_and, and_true, Nat.reduceAdd, zi_b1]
  refine ⟨fun hp => ?_, fun h => q1 hne (by simpa [zi_b0] using h)⟩
  obtain ⟨k, hk, rfl⟩ := zo_of hp (by omega)
  obtain ⟨i1, i2⟩ := zx_ck (k := 4484) (p := 2 * k) (N := 4544) (by omega) (by decide)
  obtain ⟨i3, i4⟩ := zx_ck (k := 4484 + 2 * k) (p := 1) (N := 4544) (by omega) (by decide)
  have fin : ∀ v l, v = zk_bk (M.1 1 (4484 + 2 * k)) (M.1 1 (4484 + 2 * k + 1)) w → G 110 l [.int v] M := by
    intro v l hv
    refine h110 _ _ _ ?_
    simp only [bX12_book_110, zw_0, zw_1, zs_ireturn, zn_int, zn_b0, zn_b1, zb_0, za_1, za_2, za_3, za_4, za_5, za_6, za_7, za_8, za_9, za_10, za_11, za_12, za_13, za_14, true_and, and_true, Nat.reduceAdd]
    rw [hv]
    exact q2 k hk rfl
  refine h33 _ _ _ ?_
  simp only [bX12_book_33, zw_0, zw_1, zs_aloadn0, zs_aloadNn0, zg_12_7, zs_sipush, zs_iconst, zs_iloadn1, zs_imul, zs_iadd, zs_iaload, zs_istoren3, zs_iloadn2, zs_ifne, zs_goto, zc_none, zc_int, zc_ref, zc_null, zc_long, zb_0, za_1, za_2, za_3, za_4, za_5, za_6, za_7, za_8, za_9, za_10, za_11, za_12, za_13, za_14, zu_0, zu_1, zu_2, zu_3, zu_4, zu_5, zu_6, zu_7, zu_8, zu_9, zu_10, zu_11, zu_12, zu_13, zu_14, zu_15, zu_16, zu_17, zu_18, zu_19, zu_20, zu_21, zu_22, zu_23, zu_24, zu_25, zu_26, zu_27, zu_28, zu_29, zu_30, zu_90, zv_0_9, zv_1_9, zv_2_9, zv_3_9, zv_4_9, zv_5_9, zv_6_9, zv_7_9, zv_8_9, zv_0_330, zv_0_4544, zv_1_4544, zv_2_4544, zv_3_4544, zv_4_4544, zv_5_4544, zv_6_4544, zv_7_4544, zv_8_4544, zv_9_4544, zv_10_4544, zv_11_4544, zv_12_4544, zv_13_4544, zv_14_4544, zv_15_4544, zv_16_4544, zv_17_4544, zv_18_4544, zv_19_4544, zv_20_4544, zv_21_4544, zv_22_4544, zv_23_4544, zv_24_4544, zv_25_4544, zv_26_4544, zv_27_4544, zv_28_4544, zv_29_4544, zv_0_11, zv_1_11, zv_0_160, true_and, and_true, Nat.reduceAdd, zx_4484, nI_1, i1, i2, i3, i4]
  refine ⟨fun h0 => ?_, fun h0 => fin _ _ (by rw [h0]; rfl)⟩
  refine h67 _ _ _ ?_
  simp only [bX12_book_67, zw_0, zw_1, zs_iloadn2, zs_iconst, zs_icne, zs_iloadn3, zdw_12_401, zs_idiv, zs_goto, zb_0, za_1, za_2, za_3, za_4, za_5, za_6, za_7, za_8, za_9, za_10, za_11, za_12, za_13, za_14, true_and, and_true, Nat.reduceAdd]
  refine ⟨fun h1 => ?_, fun h1 => ⟨by decide, fin _ _ (by rw [h1]; rfl)⟩⟩
  refine h80 _ _ _ ?_
  simp only [bX12_book_80, zw_0, zw_1, zs_iloadn2, zs_iconst, zs_icne, zs_iloadn3, zs_sipush, zs_idiv, zs_irem, zs_goto, zb_0, za_1, za_2, za_3, za_4, za_5, za_6, za_7, za_8, za_9, za_10, za_11, za_12, za_13, za_14, true_and, and_true, Nat.reduceAdd]
  refine ⟨fun h2 => ?_, fun h2 => ⟨by decide, by decide, fin _ _ (by rw [h2]; rfl)⟩⟩
  refine h95 _ _ _ ?_
  simp only [bX12_book_95, zw_0, zw_1, zs_iloadn2, zs_iconst, zs_icne, zs_iloadn3, zs_sipush, zs_irem, zs_goto, zb_0, za_1, za_2, za_3, za_4, za_5, za_6, za_7, za_8, za_9, za_10, za_11, za_12, za_13, za_14, true_and, and_true, Nat.reduceAdd]
  refine ⟨fun h3 => ?_, fun h3 => ⟨by decide, fin _ _ (by rw [h3]; rfl)⟩⟩
  refine h108 _ _ _ ?_
  simp only [bX12_book_108, zw_0, zw_1, zs_bipush, zb_0, za_1, za_2, za_3, za_4, za_5, za_6, za_7, za_8, za_9, za_10, za_11, za_12, za_13, za_14, true_and, and_true, Nat.reduceAdd]
  refine fin _ _ ?_
  unfold zk_bk
  rw [if_neg h0, if_neg h1, if_neg h2, if_neg h3]
theorem zx_m4 (k w : Nat) : nI k * (4 : Int32) + nI w = nI (4 * k + w) := by rw [← nI_add, Nat.mul_comm, ← pk_mul]; rfl
theorem c11_book {E : zm_E} (hE : zm_ok E.2.2.1 E.2.2.2.2) (d : Nat) {m : Nat} (hm : m ≤ 30) (i w : Int32) {M : zm_M} (hc : M.1 23 11 = nI m) {Q : Option Value → zm_M → Prop} (q0 : i = -1 → Q (some (.int (nI m))) M) (q1 : ¬ i = -1 → (zo_is m i = false ∨ zi_in w 0 3 = 0) → Q (some (.int (-2))) M) (q2 : ∀ k f, k < m → f ≤ 3 → i = nI k → w = nI f → Q (some (.int (M.1 32 (4 * k + f)))) M) : zm_R E (d + 2) mX11_book [.ref 15, .int i, .int w] M Q := by
  refine zX11_book hE rfl (fun G h0 h18 h41 h44 => ?_)
  show G 0 [some (.ref 15), some (.int i), some (.int w), none] [] M
  refine h0 _ _ _ ?_
  simp only [bX11_book_0, zw_0, zw_1, zs_aloadn0, zs_aloadNn0, zg_11_10, zg_11_136, zs_astoren3, zs_astoreNn3, zs_iloadn1, zs_iconst, zs_icne, zs_aloadn3, zs_aloadNn3, zg_11_273, zs_ireturn, zc_none, zc_int, zc_ref, zc_null, zc_long, zn_int, zn_b0, zn_b1, zb_15, zb_16, zb_17, za_18, za_19, za_20, za_21, za_22, zb_23, za_24, za_25, za_26, za_27, za_28, za_29, za_30, za_31, za_32, zb_35, za_36, za_37, za_38, za_39, za_40, zb_377, zb_378, za_379, za_380, za_381, za_382, za_383, zb_384, za_385, za_386, za_387, za_388, za_389, za_390, za_391, za_392, za_393, zb_396, za_397, za_398, za_399, za_400, za_401, zb_738, za_739, za_740, za_741, za_742, za_743, za_744, za_745, za_746, za_747, zb_748, za_749, za_750, zb_751, zb_752, za_753, za_754, za_755, za_756, zb_757, za_758, za_759, za_760, zb_761, za_763, za_764, za_765, true_and, and_true, Nat.reduceAdd, hc]
  refine ⟨fun hne => ?_, fun h => q0 h⟩
  have bad : (zo_is m i = false ∨ zi_in w 0 3 = 0) → G 41 [some (.ref 15), some (.int i), some (.int w), some (.ref 23)] [] M := by
    intro hb
    refine h41 _ _ _ ?_
    simp only [bX11_book_41, zw_0, zw_1, zs_bipush, zs_ireturn, zn_int, zn_b0, zn_b1, zb_15, zb_16, zb_17, za_18, za_19, za_20, za_21, za_22, zb_23, za_24, za_25, za_26, za_27, za_28, za_29, za_30, za_31, za_32, zb_35, za_36, za_37, za_38, za_39, za_40, zb_377, zb_378, za_379, za_380, za_381, za_382, za_383, zb_384, za_385, za_386, za_387, za_388, za_389, za_390, za_391, za_392, za_393, zb_396, za_397, za_398, za_399, za_400, za_401, zb_738, za_739, za_740, za_741, za_742, za_743, za_744, za_745, za_746, za_747, zb_748, za_749, za_750, zb_751, zb_752, za_753, za_754, za_755, za_756, zb_757, za_758, za_759, za_760, zb_761, za_763, za_764, za_765, true_and, and_true, Nat.reduceAdd]
    exact q1 hne hb
  refine h18 _ _ _ ?_
  simp only [bX11_book_18, zw_0, zw_1, zs_iloadn1, zs_iconst, zs_aloadn3, zs_aloadNn3, zg_11_273, zs_isub, zi_11_86, zs_ifeq, zs_iloadn2, zs_ifne, zh_0, zh_1, zh_2, zh_3, zh_4, zt_i, zt_l, zt_r, zt_n, zb_15, zb_16, zb_17, za_18, za_19, za_20, za_21, za_22, zb_23, za_24, za_25, za_26, za_27, za_28, za_29, za_30, za_31, za_32, zb_35, za_36, za_37, za_38, za_39, za_40, zb_377, zb_378, za_379, za_380, za_381, za_382, za_383, zb_384, za_385, za_386, za_387, za_388, za_389, za_390, za_391, za_392, za_393, zb_396, za_397, za_398, za_399, za_400, za_401, zb_738, za_739, za_740, za_741, za_742, za_743, za_744, za_745, za_746, za_747, zb_748, za_749, za_750, zb_751, zb_752, za_753, za_754, za_755, za_756, zb_757, za_758, za_759, za_760, zb_761, za_763, za_764, za_765, true_and, and_true, Nat.reduceAdd, hc]
  refine zm_R_eq (c11_within hE d i 0 _ M) ?_
  rw [zo_in (by omega)]
  simp only [bX11_book_18, zw_0, zw_1, zs_iloadn1, zs_iconst, zs_aloadn3, zs_aloadNn3, zg_11_273, zs_isub, zi_11_86, zs_ifeq, zs_iloadn2, zs_ifne, zh_0, zh_1, zh_2, zh_3, zh_4, zt_i, zt_l, zt_r, zt_n, zb_15, zb_16, zb_17, za_18, za_19, za_20, za_21, za_22, zb_23, za_24, za_25, za_26, za_27, za_28, za_29, za_30, za_31, za_32, zb_35, za_36, za_37, za_38, za_39, za_40, zb_377, zb_378, za_379, za_380, za_381, za_382, za_383, zb_384, za_385, za_386, za_387, za_388, za_389, za_390, za_391, za_392, za_393, zb_396, za_397, za_398, za_399, za_400, za_401, zb_738, za_739, za_740, za_741, za_742, za_743, za_744, za_745, za_746, za_747, zb_748, za_749, za_750, zb_751, zb_752, za_753, za_754, za_755, za_756, zb_757, za_758, za_759, za_760, zb_761, za_763, za_764, za_765, true_and, and_true, Nat.reduceAdd, zi_b0]
  refine ⟨fun h => bad (Or.inl h), fun hp => ?_⟩
  simp only [Bool.not_eq_false] at hp
  obtain ⟨k, hk, rfl⟩ := zo_of hp (by omega)
  refine zm_R_eq (c11_within hE d w 0 3 M) ?_
  simp only [bX11_book_18, zw_0, zw_1, zs_iloadn1, zs_iconst, zs_aloadn3, zs_aloadNn3, zg_11_273, zs_isub, zi_11_86, zs_ifeq, zs_iloadn2, zs_ifne, zh_0, zh_1, zh_2, zh_3, zh_4, zt_i, zt_l, zt_r, zt_n, zb_15, zb_16, zb_17, za_18, za_19, za_20, za_21, za_22, zb_23, za_24, za_25, za_26, za_27, za_28, za_29, za_30, za_31, za_32, zb_35, za_36, za_37, za_38, za_39, za_40, zb_377, zb_378, za_379, za_380, za_381, za_382, za_383, zb_384, za_385, za_386, za_387, za_388, za_389, za_390, za_391, za_392, za_393, zb_396, za_397, za_398, za_399, za_400, za_401, zb_738, za_739, za_740, za_741, za_742, za_743, za_744, za_745, za_746, za_747, zb_748, za_749, za_750, zb_751, zb_752, za_753, za_754, za_755, za_756, zb_757, za_758, za_759, za_760, zb_761, za_763, za_764, za_765, true_and, and_true, Nat.reduceAdd]
  refine ⟨fun h => ?_, fun h => bad (Or.inr h)⟩
  obtain ⟨f, hf, rfl⟩ := zi_in_of (n := 3) (by decide) h
  have i1 : vp_in (nI (4 * k + f)) 120 := vp_in_nI (by omega) (by decide)
  have i2 : (nI (4 * k + f)).toNatClampNeg = 4 * k + f := nI_clamp (by omega)
  refine h44 _ _ _ ?_
  simp only [bX11_book_44, zw_0, zw_1, zs_aloadn3, zs_aloadNn3, zg_11_276, zs_iloadn1, zs_iconst, zs_imul, zs_iloadn2, zs_iadd, zs_iaload, zs_ireturn, zn_int, zn_b0, zn_b1, zb_15, zb_16, zb_17, za_18, za_19, za_20, za_21, za_22, zb_23, za_24, za_25, za_26, za_27, za_28, za_29, za_30, za_31, za_32, zb_35, za_36, za_37, za_38, za_39, za_40, zb_377, zb_378, za_379, za_380, za_381, za_382, za_383, zb_384, za_385, za_386, za_387, za_388, za_389, za_390, za_391, za_392, za_393, zb_396, za_397, za_398, za_399, za_400, za_401, zb_738, za_739, za_740, za_741, za_742, za_743, za_744, za_745, za_746, za_747, zb_748, za_749, za_750, zb_751, zb_752, za_753, za_754, za_755, za_756, zb_757, za_758, za_759, za_760, zb_761, za_763, za_764, za_765, zu_0, zu_1, zu_2, zu_3, zu_4, zu_5, zu_6, zu_7, zu_8, zu_9, zu_10, zu_11, zu_12, zu_13, zu_14, zu_15, zu_16, zu_17, zu_18, zu_19, zu_20, zu_21, zu_22, zu_23, zu_24, zu_25, zu_26, zu_27, zu_28, zu_29, zu_30, zu_90, zv_0_9, zv_1_9, zv_2_9, zv_3_9, zv_4_9, zv_5_9, zv_6_9, zv_7_9, zv_8_9, zv_0_330, zv_0_4544, zv_1_4544, zv_2_4544, zv_3_4544, zv_4_4544, zv_5_4544, zv_6_4544, zv_7_4544, zv_8_4544, zv_9_4544, zv_10_4544, zv_11_4544, zv_12_4544, zv_13_4544, zv_14_4544, zv_15_4544, zv_16_4544, zv_17_4544, zv_18_4544, zv_19_4544, zv_20_4544, zv_21_4544, zv_22_4544, zv_23_4544, zv_24_4544, zv_25_4544, zv_26_4544, zv_27_4544, zv_28_4544, zv_29_4544, zv_0_11, zv_1_11, zv_0_160, true_and, and_true, Nat.reduceAdd, zx_m4, i1, i2]
  exact q2 k f hk hf rfl rfl
/-! befell -/
theorem c10_notesOf {E : zm_E} (hE : zm_ok E.2.2.1 E.2.2.2.2) (d : Nat) {m : Nat} (hm : m ≤ 30) (w : Int32) {M : zm_M} (hc : M.1 23 11 = nI m) : zm_R E (d + 1) mX10_notesOf [.ref 23, .int w] M (fun r M' => r = some (.int (nI (zc_n (fun i => decide (M.1 32 (4 * i + 2) = w)) m))) ∧ M' = M) := by
  refine zX10_notesOf hE rfl (fun G h0 h4 h29 h35 => ?_)
  show G 0 [some (.ref 23), some (.int w), none, none] [] M
  have loop : ∀ (f k : Nat), k + f = m → G 4 [some (.ref 23), some (.int w), some (.int (nI (zc_n (fun i => decide (M.1 32 (4 * i + 2) = w)) k))), some (.int (nI k))] [] M := by
    intro f
    induction f with
    | zero =>
      intro k hk
      have hk : k = m := by omega
      subst hk
      refine h4 _ _ _ ?_
      simp only [bX10_notesOf_4, zw_0, zw_1, zs_iloadn3, zs_aloadn0, zs_aloadNn0, zg_10_46, zs_icge, zg_10_49, zs_iconst, zs_imul, zs_iadd, zs_iaload, zs_iloadn1, zs_icne, zs_iinc2, zc_none, zc_int, zc_ref, zc_null, zc_long, zb_15, zb_16, zb_17, za_18, za_19, za_20, za_21, za_22, zb_23, za_24, za_25, za_26, za_27, za_28, za_29, za_30, za_31, za_32, zb_35, za_36, za_37, za_38, za_39, za_40, zb_377, zb_378, za_379, za_380, za_381, za_382, za_383, zb_384, za_385, za_386, za_387, za_388, za_389, za_390, za_391, za_392, za_393, zb_396, za_397, za_398, za_399, za_400, za_401, zb_738, za_739, za_740, za_741, za_742, za_743, za_744, za_745, za_746, za_747, zb_748, za_749, za_750, zb_751, zb_752, za_753, za_754, za_755, za_756, zb_757, za_758, za_759, za_760, zb_761, za_763, za_764, za_765, zu_0, zu_1, zu_2, zu_3, zu_4, zu_5, zu_6, zu_7, zu_8, zu_9, zu_10, zu_11, zu_12, zu_13, zu_14, zu_15, zu_16, zu_17, zu_18, zu_19, zu_20, zu_21, zu_22, zu_23, zu_24, zu_25, zu_26, zu_27, zu_28, zu_29, zu_30, zu_90, zv_0_9, zv_1_9, zv_2_9, zv_3_9, zv_4_9, zv_5_9, zv_6_9, zv_7_9, zv_8_9, zv_0_330, zv_0_4544, zv_1_4544, zv_2_4544, zv_3_4544, zv_4_4544, zv_5_4544, zv_6_4544, zv_7_4544, zv_8_4544, zv_9_4544, zv_10_4544, zv_11_4544, zv_12_4544, zv_13_4544, zv_14_4544, zv_15_4544, zv_16_4544, zv_17_4544, zv_18_4544, zv_19_4544, zv_20_4544, zv_21_4544, zv_22_4544, zv_23_4544, zv_24_4544, zv_25_4544, zv_26_4544, zv_27_4544, zv_28_4544, zv_29_4544, zv_0_11, zv_1_11, zv_0_160, true_and, and_true, Nat.reduceAdd, hc]
      refine ⟨fun _ => ?_, fun h => absurd (nI_le (Nat.le_refl _) (by omega)) h⟩
      refine h35 _ _ _ ?_
      simp only [bX10_notesOf_35, zw_0, zw_1, zs_iloadn2, zs_ireturn, zn_int, zn_b0, zn_b1, zb_15, zb_16, zb_17, za_18, za_19, za_20, za_21, za_22, zb_23, za_24, za_25, za_26, za_27, za_28, za_29, za_30, za_31, za_32, zb_35, za_36, za_37, za_38, za_39, za_40, zb_377, zb_378, za_379, za_380, za_381, za_382, za_383, zb_384, za_385, za_386, za_387, za_388, za_389, za_390, za_391, za_392, za_393, zb_396, za_397, za_398, za_399, za_400, za_401, zb_738, za_739, za_740, za_741, za_742, za_743, za_744, za_745, za_746, za_747, zb_748, za_749, za_750, zb_751, zb_752, za_753, za_754, za_755, za_756, zb_757, za_758, za_759, za_760, zb_761, za_763, za_764, za_765, true_and, and_true, Nat.reduceAdd]
    | succ f ih =>
      intro k hk
      have i1 : vp_in (nI (4 * k + 2)) 120 := vp_in_nI (by omega) (by decide)
      have i2 : (nI (4 * k + 2)).toNatClampNeg = 4 * k + 2 := nI_clamp (by omega)
      have e2 : nI k * (4 : Int32) + 2 = nI (4 * k + 2) := zx_m4 k 2
      have next : ∀ v, v = nI (zc_n (fun i => decide (M.1 32 (4 * i + 2) = w)) (k + 1)) → G 29 [some (.ref 23), some (.int w), some (.int v), some (.int (nI k))] [] M := by
        intro v hv
        refine h29 _ _ _ ?_
        simp only [bX10_notesOf_29, zw_0, zw_1, zs_iinc3, zs_goto, zc_none, zc_int, zc_ref, zc_null, zc_long, zb_15, zb_16, zb_17, za_18, za_19, za_20, za_21, za_22, zb_23, za_24, za_25, za_26, za_27, za_28, za_29, za_30, za_31, za_32, zb_35, za_36, za_37, za_38, za_39, za_40, zb_377, zb_378, za_379, za_380, za_381, za_382, za_383, zb_384, za_385, za_386, za_387, za_388, za_389, za_390, za_391, za_392, za_393, zb_396, za_397, za_398, za_399, za_400, za_401, zb_738, za_739, za_740, za_741, za_742, za_743, za_744, za_745, za_746, za_747, zb_748, za_749, za_750, zb_751, zb_752, za_753, za_754, za_755, za_756, zb_757, za_758, za_759, za_760, zb_761, za_763, za_764, za_765, true_and, and_true, Nat.reduceAdd]
        rw [hv, nI_1]
        exact ih (k + 1) (by omega)
      refine h4 _ _ _ ?_
      simp only [bX10_notesOf_4, zw_0, zw_1, zs_iloadn3, zs_aloadn0, zs_aloadNn0, zg_10_46, zs_icge, zg_10_49, zs_iconst, zs_imul, zs_iadd, zs_iaload, zs_iloadn1, zs_icne, zs_iinc2, zc_none, zc_int, zc_ref, zc_null, zc_long, zb_15, zb_16, zb_17, za_18, za_19, za_20, za_21, za_22, zb_23, za_24, za_25, za_26, za_27, za_28, za_29, za_30, za_31, za_32, zb_35, za_36, za_37, za_38, za_39, za_40, zb_377, zb_378, za_379, za_380, za_381, za_382, za_383, zb_384, za_385, za_386, za_387, za_388, za_389, za_390, za_391, za_392, za_393, zb_396, za_397, za_398, za_399, za_400, za_401, zb_738, za_739, za_740, za_741, za_742, za_743, za_744, za_745, za_746, za_747, zb_748, za_749, za_750, zb_751, zb_752, za_753, za_754, za_755, za_756, zb_757, za_758, za_759, za_760, zb_761, za_763, za_764, za_765, zu_0, zu_1, zu_2, zu_3, zu_4, zu_5, zu_6, zu_7, zu_8, zu_9, zu_10, zu_11, zu_12, zu_13, zu_14, zu_15, zu_16, zu_17, zu_18, zu_19, zu_20, zu_21, zu_22, zu_23, zu_24, zu_25, zu_26, zu_27, zu_28, zu_29, zu_30, zu_90, zv_0_9, zv_1_9, zv_2_9, zv_3_9, zv_4_9, zv_5_9, zv_6_9, zv_7_9, zv_8_9, zv_0_330, zv_0_4544, zv_1_4544, zv_2_4544, zv_3_4544, zv_4_4544, zv_5_4544, zv_6_4544, zv_7_4544, zv_8_4544, zv_9_4544, zv_10_4544, zv_11_4544, zv_12_4544, zv_13_4544, zv_14_4544, zv_15_4544, zv_16_4544, zv_17_4544, zv_18_4544, zv_19_4544, zv_20_4544, zv_21_4544, zv_22_4544, zv_23_4544, zv_24_4544, zv_25_4544, zv_26_4544, zv_27_4544, zv_28_4544, zv_29_4544, zv_0_11, zv_1_11, zv_0_160, true_and, and_true, Nat.reduceAdd, hc, e2, i1, i2]
      refine ⟨fun h => absurd h (nI_ge (by omega) (by omega)), fun _ => ⟨fun h => next _ ?_, fun h => next _ ?_⟩⟩
      · simp only [zc_n, h, decide_false, Bool.false_eq_true, if_false]
        simp
      · rw [nI_1]
        simp only [zc_n, h, decide_true, if_true]
  refine h0 _ _ _ ?_
  simp only [bX10_notesOf_0, zw_0, zw_1, zs_iconst, zs_istoren2, zs_istoren3, zc_none, zc_int, zc_ref, zc_null, zc_long, zb_15, zb_16, zb_17, za_18, za_19, za_20, za_21, za_22, zb_23, za_24, za_25, za_26, za_27, za_28, za_29, za_30, za_31, za_32, zb_35, za_36, za_37, za_38, za_39, za_40, zb_377, zb_378, za_379, za_380, za_381, za_382, za_383, zb_384, za_385, za_386, za_387, za_388, za_389, za_390, za_391, za_392, za_393, zb_396, za_397, za_398, za_399, za_400, za_401, zb_738, za_739, za_740, za_741, za_742, za_743, za_744, za_745, za_746, za_747, zb_748, za_749, za_750, zb_751, zb_752, za_753, za_754, za_755, za_756, zb_757, za_758, za_759, za_760, zb_761, za_763, za_764, za_765, true_and, and_true, Nat.reduceAdd]
  exact loop m 0 (by omega)
theorem c11_befell {E : zm_E} (hE : zm_ok E.2.2.1 E.2.2.2.2) (d : Nat) {m : Nat} (hm : m ≤ 30) (w : Int32) {M : zm_M} (hc : M.1 23 11 = nI m) {Q : Option Value → zm_M → Prop} (q1 : zi_in w 0 3 = 0 → Q (some (.int (-2))) M) (q2 : ¬ zi_in w 0 3 = 0 → Q (some (.int (nI (zc_n (fun i => decide (M.1 32 (4 * i + 2) = w)) m)))) M) : zm_R E (d + 2) mX11_befell [.ref 15, .int w] M Q := by
  refine zX11_befell hE rfl (fun G h0 h23 h25 => ?_)
  show G 0 [some (.ref 15), some (.int w)] [] M
  refine h0 _ _ _ ?_
  simp only [bX11_befell_0, zw_0, zw_1, zs_iloadn1, zs_iconst, zi_11_86, zs_ifeq, zs_aloadn0, zs_aloadNn0, zg_11_10, zg_11_136, zi_11_377, zs_goto, zh_0, zh_1, zh_2, zh_3, zh_4, zt_i, zt_l, zt_r, zt_n, zb_15, zb_16, zb_17, za_18, za_19, za_20, za_21, za_22, zb_23, za_24, za_25, za_26, za_27, za_28, za_29, za_30, za_31, za_32, zb_35, za_36, za_37, za_38, za_39, za_40, zb_377, zb_378, za_379, za_380, za_381, za_382, za_383, zb_384, za_385, za_386, za_387, za_388, za_389, za_390, za_391, za_392, za_393, zb_396, za_397, za_398, za_399, za_400, za_401, zb_738, za_739, za_740, za_741, za_742, za_743, za_744, za_745, za_746, za_747, zb_748, za_749, za_750, zb_751, zb_752, za_753, za_754, za_755, za_756, zb_757, za_758, za_759, za_760, zb_761, za_763, za_764, za_765, true_and, and_true, Nat.reduceAdd]
  refine zm_R_eq (c11_within hE d w 0 3 M) ?_
  simp only [bX11_befell_0, zw_0, zw_1, zs_iloadn1, zs_iconst, zi_11_86, zs_ifeq, zs_aloadn0, zs_aloadNn0, zg_11_10, zg_11_136, zi_11_377, zs_goto, zh_0, zh_1, zh_2, zh_3, zh_4, zt_i, zt_l, zt_r, zt_n, zb_15, zb_16, zb_17, za_18, za_19, za_20, za_21, za_22, zb_23, za_24, za_25, za_26, za_27, za_28, za_29, za_30, za_31, za_32, zb_35, za_36, za_37, za_38, za_39, za_40, zb_377, zb_378, za_379, za_380, za_381, za_382, za_383, zb_384, za_385, za_386, za_387, za_388, za_389, za_390, za_391, za_392, za_393, zb_396, za_397, za_398, za_399, za_400, za_401, zb_738, za_739, za_740, za_741, za_742, za_743, za_744, za_745, za_746, za_747, zb_748, za_749, za_750, zb_751, zb_752, za_753, za_754, za_755, za_756, zb_757, za_758, za_759, za_760, zb_761, za_763, za_764, za_765, true_and, and_true, Nat.reduceAdd]
  refine ⟨fun h => ?_, fun h => ?_⟩
  · refine h23 _ _ _ ?_
    simp only [bX11_befell_23, zw_0, zw_1, zs_bipush, zb_15, zb_16, zb_17, za_18, za_19, za_20, za_21, za_22, zb_23, za_24, za_25, za_26, za_27, za_28, za_29, za_30, za_31, za_32, zb_35, za_36, za_37, za_38, za_39, za_40, zb_377, zb_378, za_379, za_380, za_381, za_382, za_383, zb_384, za_385, za_386, za_387, za_388, za_389, za_390, za_391, za_392, za_393, zb_396, za_397, za_398, za_399, za_400, za_401, zb_738, za_739, za_740, za_741, za_742, za_743, za_744, za_745, za_746, za_747, zb_748, za_749, za_750, zb_751, zb_752, za_753, za_754, za_755, za_756, zb_757, za_758, za_759, za_760, zb_761, za_763, za_764, za_765, true_and, and_true, Nat.reduceAdd]
    refine h25 _ _ _ ?_
    simp only [bX11_befell_25, zw_0, zw_1, zs_ireturn, zn_int, zn_b0, zn_b1, zb_15, zb_16, zb_17, za_18, za_19, za_20, za_21, za_22, zb_23, za_24, za_25, za_26, za_27, za_28, za_29, za_30, za_31, za_32, zb_35, za_36, za_37, za_38, za_39, za_40, zb_377, zb_378, za_379, za_380, za_381, za_382, za_383, zb_384, za_385, za_386, za_387, za_388, za_389, za_390, za_391, za_392, za_393, zb_396, za_397, za_398, za_399, za_400, za_401, zb_738, za_739, za_740, za_741, za_742, za_743, za_744, za_745, za_746, za_747, zb_748, za_749, za_750, zb_751, zb_752, za_753, za_754, za_755, za_756, zb_757, za_758, za_759, za_760, zb_761, za_763, za_764, za_765, true_and, and_true, Nat.reduceAdd]
    exact q1 h
  · refine zm_R_eq (c10_notesOf hE d hm w hc) ?_
    simp only [bX11_befell_0, zw_0, zw_1, zs_iloadn1, zs_iconst, zi_11_86, zs_ifeq, zs_aloadn0, zs_aloadNn0, zg_11_10, zg_11_136, zi_11_377, zs_goto, zh_0, zh_1, zh_2, zh_3, zh_4, zt_i, zt_l, zt_r, zt_n, zb_15, zb_16, zb_17, za_18, za_19, za_20, za_21, za_22, zb_23, za_24, za_25, za_26, za_27, za_28, za_29, za_30, za_31, za_32, zb_35, za_36, za_37, za_38, za_39, za_40, zb_377, zb_378, za_379, za_380, za_381, za_382, za_383, zb_384, za_385, za_386, za_387, za_388, za_389, za_390, za_391, za_392, za_393, zb_396, za_397, za_398, za_399, za_400, za_401, zb_738, za_739, za_740, za_741, za_742, za_743, za_744, za_745, za_746, za_747, zb_748, za_749, za_750, zb_751, zb_752, za_753, za_754, za_755, za_756, zb_757, za_758, za_759, za_760, zb_761, za_763, za_764, za_765, true_and, and_true, Nat.reduceAdd]
    refine h25 _ _ _ ?_
    simp only [bX11_befell_25, zw_0, zw_1, zs_ireturn, zn_int, zn_b0, zn_b1, zb_15, zb_16, zb_17, za_18, za_19, za_20, za_21, za_22, zb_23, za_24, za_25, za_26, za_27, za_28, za_29, za_30, za_31, za_32, zb_35, za_36, za_37, za_38, za_39, za_40, zb_377, zb_378, za_379, za_380, za_381, za_382, za_383, zb_384, za_385, za_386, za_387, za_388, za_389, za_390, za_391, za_392, za_393, zb_396, za_397, za_398, za_399, za_400, za_401, zb_738, za_739, za_740, za_741, za_742, za_743, za_744, za_745, za_746, za_747, zb_748, za_749, za_750, zb_751, zb_752, za_753, za_754, za_755, za_756, zb_757, za_758, za_759, za_760, zb_761, za_763, za_764, za_765, true_and, and_true, Nat.reduceAdd]
    exact q2 h
theorem c_befell {E : zm_E} (hE : zm_ok E.2.2.1 E.2.2.2.2) (d : Nat) {m : Nat} (hm : m ≤ 30) (w : Int32) {M : zm_M} (hc : M.1 1 9 = nI m) {Q : Option Value → zm_M → Prop} (q1 : zi_in w 0 3 = 0 → Q (some (.int (-2))) M) (q2 : ¬ zi_in w 0 3 = 0 → Q (some (.int (nI (zc_n (fun i => decide (zk_bk (M.1 1 (4484 + 2 * i)) (M.1 1 (4484 + 2 * i + 1)) 2 = w)) m)))) M) : zm_R E (d + 3) mX12_befell [.ref 0, .int w] M Q := by
  refine zX12_befell hE rfl (fun G h0 h12 h16 h42 h43 h51 => ?_)
  show G 0 [some (.ref 0), some (.int w), none, none] [] M
  refine h0 _ _ _ ?_
  simp only [bX12_befell_0, zw_0, zw_1, zs_iloadn1, zs_iconst, zi_12_69, zs_ifne, zs_bipush, zs_ireturn, zh_0, zh_1, zh_2, zh_3, zh_4, zt_i, zt_l, zt_r, zt_n, zn_int, zn_b0, zn_b1, zb_0, za_1, za_2, za_3, za_4, za_5, za_6, za_7, za_8, za_9, za_10, za_11, za_12, za_13, za_14, true_and, and_true, Nat.reduceAdd]
  refine zm_R_eq (c_isIn hE (d + 1) w 0 3 M) ?_
  simp only [bX12_befell_0, zw_0, zw_1, zs_iloadn1, zs_iconst, zi_12_69, zs_ifne, zs_bipush, zs_ireturn, zh_0, zh_1, zh_2, zh_3, zh_4, zt_i, zt_l, zt_r, zt_n, zn_int, zn_b0, zn_b1, zb_0, za_1, za_2, za_3, za_4, za_5, za_6, za_7, za_8, za_9, za_10, za_11, za_12, za_13, za_14, true_and, and_true, Nat.reduceAdd]
  refine ⟨fun hz => ?_, fun h => q1 h⟩
  have loop : ∀ (f k : Nat), k + f = m → G 16 [some (.ref 0), some (.int w), some (.int (nI (zc_n (fun i => decide (zk_bk (M.1 1 (4484 + 2 * i)) (M.1 1 (4484 + 2 * i + 1)) 2 = w)) k))), some (.int (nI k))] [] M := by
    intro f
    induction f with
    | zero =>
      intro k hk
      have hk : k = m := by omega
      subst hk
      refine h16 _ _ _ ?_
      simp only [bX12_befell_16, zw_0, zw_1, zs_iloadn3, zs_aloadn0, zs_aloadNn0, zg_12_7, zs_bipush, zs_iaload, zs_icge, zs_iloadn2, zs_iconst, zi_12_402, zs_iloadn1, zs_icne, zs_goto, zh_0, zh_1, zh_2, zh_3, zh_4, zt_i, zt_l, zt_r, zt_n, zb_0, za_1, za_2, za_3, za_4, za_5, za_6, za_7, za_8, za_9, za_10, za_11, za_12, za_13, za_14, zu_0, zu_1, zu_2, zu_3, zu_4, zu_5, zu_6, zu_7, zu_8, zu_9, zu_10, zu_11, zu_12, zu_13, zu_14, zu_15, zu_16, zu_17, zu_18, zu_19, zu_20, zu_21, zu_22, zu_23, zu_24, zu_25, zu_26, zu_27, zu_28, zu_29, zu_30, zu_90, zv_0_9, zv_1_9, zv_2_9, zv_3_9, zv_4_9, zv_5_9, zv_6_9, zv_7_9, zv_8_9, zv_0_330, zv_0_4544, zv_1_4544, zv_2_4544, zv_3_4544, zv_4_4544, zv_5_4544, zv_6_4544, zv_7_4544, zv_8_4544, zv_9_4544, zv_10_4544, zv_11_4544, zv_12_4544, zv_13_4544, zv_14_4544, zv_15_4544, zv_16_4544, zv_17_4544, zv_18_4544, zv_19_4544, zv_20_4544, zv_21_4544, zv_22_4544, zv_23_4544, zv_24_4544, zv_25_4544, zv_26_4544, zv_27_4544, zv_28_4544, zv_29_4544, zv_0_11, zv_1_11, zv_0_160, true_and, and_true, Nat.reduceAdd, hc]
      refine ⟨fun _ => ?_, fun h => absurd (nI_le (Nat.le_refl _) (by omega)) h⟩
      refine h51 _ _ _ ?_
      simp only [bX12_befell_51, zw_0, zw_1, zs_iloadn2, zs_ireturn, zn_int, zn_b0, zn_b1, zb_0, za_1, za_2, za_3, za_4, za_5, za_6, za_7, za_8, za_9, za_10, za_11, za_12, za_13, za_14, true_and, and_true, Nat.reduceAdd]
      exact q2 hz
    | succ f ih =>
      intro k hk
      have next : ∀ v, nI (zc_n (fun i => decide (zk_bk (M.1 1 (4484 + 2 * i)) (M.1 1 (4484 + 2 * i + 1)) 2 = w)) k) + v = nI (zc_n (fun i => decide (zk_bk (M.1 1 (4484 + 2 * i)) (M.1 1 (4484 + 2 * i + 1)) 2 = w)) (k + 1)) → G 43 [some (.ref 0), some (.int w), some (.int (nI (zc_n (fun i => decide (zk_bk (M.1 1 (4484 + 2 * i)) (M.1 1 (4484 + 2 * i + 1)) 2 = w)) k))), some (.int (nI k))] [.int v, .int (nI (zc_n (fun i => decide (zk_bk (M.1 1 (4484 + 2 * i)) (M.1 1 (4484 + 2 * i + 1)) 2 = w)) k))] M := by
        intro v hv
        refine h43 _ _ _ ?_
        simp only [bX12_befell_43, zw_0, zw_1, zs_iadd, zs_istoren2, zs_iinc3, zs_goto, zc_none, zc_int, zc_ref, zc_null, zc_long, zb_0, za_1, za_2, za_3, za_4, za_5, za_6, za_7, za_8, za_9, za_10, za_11, za_12, za_13, za_14, true_and, and_true, Nat.reduceAdd]
        rw [hv, nI_1]
        exact ih (k + 1) (by omega)
      refine h16 _ _ _ ?_
      simp only [bX12_befell_16, zw_0, zw_1, zs_iloadn3, zs_aloadn0, zs_aloadNn0, zg_12_7, zs_bipush, zs_iaload, zs_icge, zs_iloadn2, zs_iconst, zi_12_402, zs_iloadn1, zs_icne, zs_goto, zh_0, zh_1, zh_2, zh_3, zh_4, zt_i, zt_l, zt_r, zt_n, zb_0, za_1, za_2, za_3, za_4, za_5, za_6, za_7, za_8, za_9, za_10, za_11, za_12, za_13, za_14, zu_0, zu_1, zu_2, zu_3, zu_4, zu_5, zu_6, zu_7, zu_8, zu_9, zu_10, zu_11, zu_12, zu_13, zu_14, zu_15, zu_16, zu_17, zu_18, zu_19, zu_20, zu_21, zu_22, zu_23, zu_24, zu_25, zu_26, zu_27, zu_28, zu_29, zu_30, zu_90, zv_0_9, zv_1_9, zv_2_9, zv_3_9, zv_4_9, zv_5_9, zv_6_9, zv_7_9, zv_8_9, zv_0_330, zv_0_4544, zv_1_4544, zv_2_4544, zv_3_4544, zv_4_4544, zv_5_4544, zv_6_4544, zv_7_4544, zv_8_4544, zv_9_4544, zv_10_4544, zv_11_4544, zv_12_4544, zv_13_4544, zv_14_4544, zv_15_4544, zv_16_4544, zv_17_4544, zv_18_4544, zv_19_4544, zv_20_4544, zv_21_4544, zv_22_4544, zv_23_4544, zv_24_4544, zv_25_4544, zv_26_4544, zv_27_4544, zv_28_4544, zv_29_4544, zv_0_11, zv_1_11, zv_0_160, true_and, and_true, Nat.reduceAdd, hc]
      refine ⟨fun h => absurd h (nI_ge (by omega) (by omega)), fun _ => ?_⟩
      refine c_book hE d hm (nI k) 2 hc (fun h => absurd h (zt_ne (by omega))) (fun _ h => ?_) (fun j hj e => ?_)
      · rw [zo_is_nI (by omega)] at h
        exact absurd h (by simp; omega)
      · have e : k = j := (nI_eq (by omega) (by omega)).mp e
        subst e
        simp only [bX12_befell_16, zw_0, zw_1, zs_iloadn3, zs_aloadn0, zs_aloadNn0, zg_12_7, zs_bipush, zs_iaload, zs_icge, zs_iloadn2, zs_iconst, zi_12_402, zs_iloadn1, zs_icne, zs_goto, zh_0, zh_1, zh_2, zh_3, zh_4, zt_i, zt_l, zt_r, zt_n, zb_0, za_1, za_2, za_3, za_4, za_5, za_6, za_7, za_8, za_9, za_10, za_11, za_12, za_13, za_14, zu_0, zu_1, zu_2, zu_3, zu_4, zu_5, zu_6, zu_7, zu_8, zu_9, zu_10, zu_11, zu_12, zu_13, zu_14, zu_15, zu_16, zu_17, zu_18, zu_19, zu_20, zu_21, zu_22, zu_23, zu_24, zu_25, zu_26, zu_27, zu_28, zu_29, zu_30, zu_90, zv_0_9, zv_1_9, zv_2_9, zv_3_9, zv_4_9, zv_5_9, zv_6_9, zv_7_9, zv_8_9, zv_0_330, zv_0_4544, zv_1_4544, zv_2_4544, zv_3_4544, zv_4_4544, zv_5_4544, zv_6_4544, zv_7_4544, zv_8_4544, zv_9_4544, zv_10_4544, zv_11_4544, zv_12_4544, zv_13_4544, zv_14_4544, zv_15_4544, zv_16_4544, zv_17_4544, zv_18_4544, zv_19_4544, zv_20_4544, zv_21_4544, zv_22_4544, zv_23_4544, zv_24_4544, zv_25_4544, zv_26_4544, zv_27_4544, zv_28_4544, zv_29_4544, zv_0_11, zv_1_11, zv_0_160, true_and, and_true, Nat.reduceAdd]
        refine ⟨fun h => ?_, fun h => next _ ?_⟩
        · refine h42 _ _ _ ?_
          simp only [bX12_befell_42, zw_0, zw_1, zs_iconst, zb_0, za_1, za_2, za_3, za_4, za_5, za_6, za_7, za_8, za_9, za_10, za_11, za_12, za_13, za_14, true_and, and_true, Nat.reduceAdd]
          refine next _ ?_
          simp only [zc_n, h, decide_false, Bool.false_eq_true, if_false]
          simp
        · rw [nI_1]
          simp only [zc_n, h, decide_true, if_true]
  refine h12 _ _ _ ?_
  simp only [bX12_befell_12, zw_0, zw_1, zs_iconst, zs_istoren2, zs_istoren3, zc_none, zc_int, zc_ref, zc_null, zc_long, zb_0, za_1, za_2, za_3, za_4, za_5, za_6, za_7, za_8, za_9, za_10, za_11, za_12, za_13, za_14, true_and, and_true, Nat.reduceAdd]
  exact loop m 0 (by omega)
