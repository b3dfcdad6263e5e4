/-! ===== the class's reader: expect, a number ===== -/
theorem zk_wf_ne {tp : Nat → Nat} {s e t : Nat} (ht : ∀ j, tp j < 256) (hse : s < e) (h1 : t = 41 ∨ t = 43) : ∀ (f k : Nat), k + f = 44 → ¬ zk_wf tp s e f k = t := by
  intro f
  induction f with
  | zero => intro k _ y; simp only [zk_wf] at y; omega
  | succ f ih =>
    intro k hk y
    simp only [zk_wf] at y
    split at y
    · next sp =>
      subst y
      rw [zk_sp_li ht (by omega)] at sp
      have z := congrArg List.length (of_decide_eq_true sp)
      rw [zk_li_len] at z
      have e41 : (zz_sd.getD 41 []).length = 0 := rfl
      have e43 : (zz_sd.getD 43 []).length = 0 := rfl
      rcases h1 with rfl | rfl <;> omega
    · exact ih (k + 1) (by omega) y
theorem zk_num {tp : Nat → Nat} {n s : Nat} (ht : ∀ j, tp j < 256) : (zk_w tp n s = 41) = (s < n ∧ zk_F (tp s) = true) := by
  unfold zk_w
  by_cases h1 : n ≤ s
  · rw [if_pos h1]; exact propext ⟨fun z => by omega, fun z => by omega⟩
  rw [if_neg h1]
  by_cases h2 : zk_F (tp s) = true
  · rw [if_pos h2]; exact propext ⟨fun _ => ⟨by omega, h2⟩, fun _ => rfl⟩
  rw [if_neg h2]
  have hen := zk_en_in (tp := tp) (n := n) (s := s) (by omega)
  exact propext ⟨fun z => absurd z (zk_wf_ne ht hen.1 (Or.inl rfl) 44 0 (by omega)), fun z => absurd z.2 h2⟩
theorem zk_num_so {tp : Nat → Nat} {n s : Nat} (ht : ∀ j, tp j < 256) : (zk_w tp n s = 41) = (zk_so tp n s = 1) := by
  rw [zk_num ht]
  unfold zk_so
  by_cases h1 : n ≤ s
  · rw [if_pos h1]; exact propext ⟨fun z => by omega, fun z => by omega⟩
  rw [if_neg h1]
  by_cases h2 : zk_F (tp s) = true
  · rw [if_pos h2]; exact propext ⟨fun _ => rfl, fun _ => ⟨by omega, h2⟩⟩
  rw [if_neg h2]
  refine propext ⟨fun z => absurd z.2 h2, fun z => ?_⟩
  exfalso
  split at z
  · omega
  · split at z
    · split at z <;> omega
    · split at z
      · next sg =>
        rw [z] at sg
        exact absurd sg (by decide)
      · omega
theorem zk_rf (x : Nat) : va_rf (some x) = .ref x := rfl
theorem c5_expect {E : zm_E} (hE : zm_ok E.2.2.1 E.2.2.2.2) (d : Nat) {tp : Nat → Nat} {n m k w : Nat} (hw : w < 44) {M : zm_M} (hR : zk_R tp n m k M) {Q : Option Value → zm_M → Prop} (q1 : zk_w tp n (zk_st tp n k) = w → ∀ M', zk_R tp n m (if k < m then k + 1 else m) M' → zk_g M M' → M'.1 761 1 = M.1 761 1 → M'.1 761 2 = M.1 761 2 → Q none M') (q2 : ¬ zk_w tp n (zk_st tp n k) = w → ∀ M', zk_R tp n m m M' → zk_g M M' → zk_ft tp n k 1 M M' → Q none M') : zm_R E (d + 2) mX5_expect [.ref 761, .ref (1000 + w)] M Q := by
  refine zX5_expect hE rfl (fun G h0 h15 h20 => ?_)
  show G 0 [some (.ref 761), some (.ref (1000 + w))] [] M
  have h8 := hR.2.2.2
  have ew : (1000 + zk_w tp n (zk_st tp n k) = 1000 + w) = (zk_w tp n (zk_st tp n k) = w) := propext ⟨fun z => by omega, fun z => by omega⟩
  have fin : ∀ M1, Q none M1 → G 20 [some (.ref 761), some (.ref (1000 + w))] [] M1 := by
    intro M1 h
    refine h20 _ _ _ ?_
    simp only [bX5_expect_20, zw_0, zw_1, zs_return, zn_int, zn_b0, zn_b1, zb_15, zb_16, zb_17, za_18, za_19, za_20, za_21, za_22, zb_23, za_24, za_25, za_26, za_27, za_28, za_29, za_30, za_31, za_32, zb_35, za_36, za_37, za_38, za_39, za_40, zb_377, zb_378, za_379, za_380, za_381, za_382, za_383, zb_384, za_385, za_386, za_387, za_388, za_389, za_390, za_391, za_392, za_393, zb_396, za_397, za_398, za_399, za_400, za_401, zb_738, za_739, za_740, za_741, za_742, za_743, za_744, za_745, za_746, za_747, zb_748, za_749, za_750, zb_751, zb_752, za_753, za_754, za_755, za_756, zb_757, za_758, za_759, za_760, zb_761, za_763, za_764, za_765, true_and, and_true, Nat.reduceAdd]
    exact h
  refine h0 _ _ _ ?_
  simp only [bX5_expect_0, zw_0, zw_1, zs_aloadn0, zs_aloadNn0, zg_5_45, zs_aloadn1, zs_aloadNn1, zs_acne, zi_5_122, zs_goto, zh_0, zh_1, zh_2, zh_3, zh_4, zt_i, zt_l, zt_r, zt_n, zb_15, zb_16, zb_17, za_18, za_19, za_20, za_21, za_22, zb_23, za_24, za_25, za_26, za_27, za_28, za_29, za_30, za_31, za_32, zb_35, za_36, za_37, za_38, za_39, za_40, zb_377, zb_378, za_379, za_380, za_381, za_382, za_383, zb_384, za_385, za_386, za_387, za_388, za_389, za_390, za_391, za_392, za_393, zb_396, za_397, za_398, za_399, za_400, za_401, zb_738, za_739, za_740, za_741, za_742, za_743, za_744, za_745, za_746, za_747, zb_748, za_749, za_750, zb_751, zb_752, za_753, za_754, za_755, za_756, zb_757, za_758, za_759, za_760, zb_761, za_763, za_764, za_765, true_and, and_true, Nat.reduceAdd, h8, zk_rf, ew]
  refine ⟨fun h => ?_, fun h => ?_⟩
  · refine h15 _ _ _ ?_
    simp only [bX5_expect_15, zw_0, zw_1, zs_aloadn0, zs_aloadNn0, zs_iconst, zi_5_125, zh_0, zh_1, zh_2, zh_3, zh_4, zt_i, zt_l, zt_r, zt_n, zb_15, zb_16, zb_17, za_18, za_19, za_20, za_21, za_22, zb_23, za_24, za_25, za_26, za_27, za_28, za_29, za_30, za_31, za_32, zb_35, za_36, za_37, za_38, za_39, za_40, zb_377, zb_378, za_379, za_380, za_381, za_382, za_383, zb_384, za_385, za_386, za_387, za_388, za_389, za_390, za_391, za_392, za_393, zb_396, za_397, za_398, za_399, za_400, za_401, zb_738, za_739, za_740, za_741, za_742, za_743, za_744, za_745, za_746, za_747, zb_748, za_749, za_750, zb_751, zb_752, za_753, za_754, za_755, za_756, zb_757, za_758, za_759, za_760, zb_761, za_763, za_764, za_765, true_and, and_true, Nat.reduceAdd]
    refine c5_complain hE d 1 hR (fun M1 R1 g1 t1 => ?_)
    simp only [bX5_expect_15, zw_0, zw_1, zs_aloadn0, zs_aloadNn0, zs_iconst, zi_5_125, zh_0, zh_1, zh_2, zh_3, zh_4, zt_i, zt_l, zt_r, zt_n, zb_15, zb_16, zb_17, za_18, za_19, za_20, za_21, za_22, zb_23, za_24, za_25, za_26, za_27, za_28, za_29, za_30, za_31, za_32, zb_35, za_36, za_37, za_38, za_39, za_40, zb_377, zb_378, za_379, za_380, za_381, za_382, za_383, zb_384, za_385, za_386, za_387, za_388, za_389, za_390, za_391, za_392, za_393, zb_396, za_397, za_398, za_399, za_400, za_401, zb_738, za_739, za_740, za_741, za_742, za_743, za_744, za_745, za_746, za_747, zb_748, za_749, za_750, zb_751, zb_752, za_753, za_754, za_755, za_756, zb_757, za_758, za_759, za_760, zb_761, za_763, za_764, za_765, true_and, and_true, Nat.reduceAdd]
    exact fin M1 (q2 h M1 R1 g1 t1)
  · refine c5_step hE d hR (fun M1 R1 g1 a1 a2 => ?_)
    simp only [bX5_expect_0, zw_0, zw_1, zs_aloadn0, zs_aloadNn0, zg_5_45, zs_aloadn1, zs_aloadNn1, zs_acne, zi_5_122, zs_goto, zh_0, zh_1, zh_2, zh_3, zh_4, zt_i, zt_l, zt_r, zt_n, zb_15, zb_16, zb_17, za_18, za_19, za_20, za_21, za_22, zb_23, za_24, za_25, za_26, za_27, za_28, za_29, za_30, za_31, za_32, zb_35, za_36, za_37, za_38, za_39, za_40, zb_377, zb_378, za_379, za_380, za_381, za_382, za_383, zb_384, za_385, za_386, za_387, za_388, za_389, za_390, za_391, za_392, za_393, zb_396, za_397, za_398, za_399, za_400, za_401, zb_738, za_739, za_740, za_741, za_742, za_743, za_744, za_745, za_746, za_747, zb_748, za_749, za_750, zb_751, zb_752, za_753, za_754, za_755, za_756, zb_757, za_758, za_759, za_760, zb_761, za_763, za_764, za_765, true_and, and_true, Nat.reduceAdd]
    exact fin M1 (q1 h M1 R1 g1 a1 a2)
theorem c5_readNumber {E : zm_E} (hE : zm_ok E.2.2.1 E.2.2.2.2) (d : Nat) {tp : Nat → Nat} {n m k : Nat} (ht : ∀ j, tp j < 256) (lo hi : Int32) {M : zm_M} (hR : zk_R tp n m k M) {Q : Option Value → zm_M → Prop} (q1 : ¬ zk_w tp n (zk_st tp n k) = 41 → ∀ M', zk_R tp n m m M' → zk_g M M' → zk_ft tp n k 1 M M' → Q (some (.int 0)) M') (q2 : ∀ v, v = zk_nc tp (zk_en tp n (zk_st tp n k) - zk_st tp n k) (zk_st tp n k) 0 → zk_w tp n (zk_st tp n k) = 41 → zi_in (nI v) lo hi = 0 → ∀ M', zk_R tp n m m M' → zk_g M M' → zk_ft tp n k 2 M M' → Q (some (.int 0)) M') (q3 : ∀ v, v = zk_nc tp (zk_en tp n (zk_st tp n k) - zk_st tp n k) (zk_st tp n k) 0 → zk_w tp n (zk_st tp n k) = 41 → ¬ zi_in (nI v) lo hi = 0 → ∀ M', zk_R tp n m (if k < m then k + 1 else m) M' → zk_g M M' → M'.1 761 1 = M.1 761 1 → M'.1 761 2 = M.1 761 2 → Q (some (.int (nI v))) M') : zm_R E (d + 2) mX5_readNumber [.ref 761, .int lo, .int hi] M Q := by
  refine zX5_readNumber hE rfl (fun G h0 h17 h43 => ?_)
  show G 0 [some (.ref 761), some (.int lo), some (.int hi), none] [] M
  have hR0 := hR
  obtain ⟨hC, hk, h7, h8⟩ := hR
  have m300 := hC.2.1
  have vk : vp_in (nI k) 301 := vp_in_nI (by omega) (by decide)
  have vk2 : (nI k).toNatClampNeg = k := nI_clamp (by omega)
  have ew : (1000 + zk_w tp n (zk_st tp n k) = 1041) = (zk_w tp n (zk_st tp n k) = 41) := propext ⟨fun z => by omega, fun z => by omega⟩
  refine h0 _ _ _ ?_
  simp only [bX5_readNumber_0, zw_0, zw_1, zs_aloadn0, zs_aloadNn0, zg_5_45, zgs_85, zs_aceq, zs_iconst, zi_5_125, zs_ireturn, zh_0, zh_1, zh_2, zh_3, zh_4, zt_i, zt_l, zt_r, zt_n, zn_int, zn_b0, zn_b1, zb_15, zb_16, zb_17, za_18, za_19, za_20, za_21, za_22, zb_23, za_24, za_25, za_26, za_27, za_28, za_29, za_30, za_31, za_32, zb_35, za_36, za_37, za_38, za_39, za_40, zb_377, zb_378, za_379, za_380, za_381, za_382, za_383, zb_384, za_385, za_386, za_387, za_388, za_389, za_390, za_391, za_392, za_393, zb_396, za_397, za_398, za_399, za_400, za_401, zb_738, za_739, za_740, za_741, za_742, za_743, za_744, za_745, za_746, za_747, zb_748, za_749, za_750, zb_751, zb_752, za_753, za_754, za_755, za_756, zb_757, za_758, za_759, za_760, zb_761, za_763, za_764, za_765, true_and, and_true, Nat.reduceAdd, h8, zk_rf, ew]
  refine ⟨fun h => ?_, fun h => ?_⟩
  · obtain ⟨u1, u2⟩ : zk_st tp n k < n ∧ zk_F (tp (zk_st tp n k)) = true := by rw [zk_num ht] at h; exact h
    have nm := (hC.2.2.2.2 k hk).2.2 u1 u2
    have q2 := q2 _ rfl h
    have q3 := q3 _ rfl h
    generalize zk_nc tp (zk_en tp n (zk_st tp n k) - zk_st tp n k) (zk_st tp n k) 0 = v at nm q2 q3
    refine h17 _ _ _ ?_
    simp only [bX5_readNumber_17, zw_0, zw_1, zs_aloadn0, zs_aloadNn0, zg_5_32, zg_5_38, zs_iaload, zs_istoren3, zs_iloadn3, zs_iloadn1, zs_iloadn2, zi_5_128, zs_ifne, zs_iconst, zi_5_125, zs_ireturn, zc_none, zc_int, zc_ref, zc_null, zc_long, zh_0, zh_1, zh_2, zh_3, zh_4, zt_i, zt_l, zt_r, zt_n, zn_int, zn_b0, zn_b1, zb_15, zb_16, zb_17, za_18, za_19, za_20, za_21, za_22, zb_23, za_24, za_25, za_26, za_27, za_28, za_29, za_30, za_31, za_32, zb_35, za_36, za_37, za_38, za_39, za_40, zb_377, zb_378, za_379, za_380, za_381, za_382, za_383, zb_384, za_385, za_386, za_387, za_388, za_389, za_390, za_391, za_392, za_393, zb_396, za_397, za_398, za_399, za_400, za_401, zb_738, za_739, za_740, za_741, za_742, za_743, za_744, za_745, za_746, za_747, zb_748, za_749, za_750, zb_751, zb_752, za_753, za_754, za_755, za_756, zb_757, za_758, za_759, za_760, zb_761, za_763, za_764, za_765, zu_0, zu_1, zu_2, zu_3, zu_4, zu_5, zu_6, zu_7, zu_8, zu_9, zu_10, zu_11, zu_12, zu_13, zu_14, zu_15, zu_16, zu_17, zu_18, zu_19, zu_20, zu_21, zu_22, zu_23, zu_24, zu_25, zu_26, zu_27, zu_28, zu_29, zu_30, zu_90, zv_0_9, zv_1_9, zv_2_9, zv_3_9, zv_4_9, zv_5_9, zv_6_9, zv_7_9, zv_8_9, zv_0_330, zv_0_4544, zv_1_4544, zv_2_4544, zv_3_4544, zv_4_4544, zv_5_4544, zv_6_4544, zv_7_4544, zv_8_4544, zv_9_4544, zv_10_4544, zv_11_4544, zv_12_4544, zv_13_4544, zv_14_4544, zv_15_4544, zv_16_4544, zv_17_4544, zv_18_4544, zv_19_4544, zv_20_4544, zv_21_4544, zv_22_4544, zv_23_4544, zv_24_4544, zv_25_4544, zv_26_4544, zv_27_4544, zv_28_4544, zv_29_4544, zv_0_11, zv_1_11, zv_0_160, true_and, and_true, Nat.reduceAdd, h7, vk, vk2, nm]
    refine zm_R_eq (c11_within hE d _ lo hi M) ?_
    simp only [bX5_readNumber_17, zw_0, zw_1, zs_aloadn0, zs_aloadNn0, zg_5_32, zg_5_38, zs_iaload, zs_istoren3, zs_iloadn3, zs_iloadn1, zs_iloadn2, zi_5_128, zs_ifne, zs_iconst, zi_5_125, zs_ireturn, zc_none, zc_int, zc_ref, zc_null, zc_long, zh_0, zh_1, zh_2, zh_3, zh_4, zt_i, zt_l, zt_r, zt_n, zn_int, zn_b0, zn_b1, zb_15, zb_16, zb_17, za_18, za_19, za_20, za_21, za_22, zb_23, za_24, za_25, za_26, za_27, za_28, za_29, za_30, za_31, za_32, zb_35, za_36, za_37, za_38, za_39, za_40, zb_377, zb_378, za_379, za_380, za_381, za_382, za_383, zb_384, za_385, za_386, za_387, za_388, za_389, za_390, za_391, za_392, za_393, zb_396, za_397, za_398, za_399, za_400, za_401, zb_738, za_739, za_740, za_741, za_742, za_743, za_744, za_745, za_746, za_747, zb_748, za_749, za_750, zb_751, zb_752, za_753, za_754, za_755, za_756, zb_757, za_758, za_759, za_760, zb_761, za_763, za_764, za_765, zu_0, zu_1, zu_2, zu_3, zu_4, zu_5, zu_6, zu_7, zu_8, zu_9, zu_10, zu_11, zu_12, zu_13, zu_14, zu_15, zu_16, zu_17, zu_18, zu_19, zu_20, zu_21, zu_22, zu_23, zu_24, zu_25, zu_26, zu_27, zu_28, zu_29, zu_30, zu_90, zv_0_9, zv_1_9, zv_2_9, zv_3_9, zv_4_9, zv_5_9, zv_6_9, zv_7_9, zv_8_9, zv_0_330, zv_0_4544, zv_1_4544, zv_2_4544, zv_3_4544, zv_4_4544, zv_5_4544, zv_6_4544, zv_7_4544, zv_8_4544, zv_9_4544, zv_10_4544, zv_11_4544, zv_12_4544, zv_13_4544, zv_14_4544, zv_15_4544, zv_16_4544, zv_17_4544, zv_18_4544, zv_19_4544, zv_20_4544, zv_21_4544, zv_22_4544, zv_23_4544, zv_24_4544, zv_25_4544, zv_26_4544, zv_27_4544, zv_28_4544, zv_29_4544, zv_0_11, zv_1_11, zv_0_160, true_and, and_true, Nat.reduceAdd]
    refine ⟨fun hz => ?_, fun hz => ?_⟩
    · refine h43 _ _ _ ?_
      simp only [bX5_readNumber_43, zw_0, zw_1, zs_aloadn0, zs_aloadNn0, zi_5_122, zs_iloadn3, zs_ireturn, zh_0, zh_1, zh_2, zh_3, zh_4, zt_i, zt_l, zt_r, zt_n, zn_int, zn_b0, zn_b1, zb_15, zb_16, zb_17, za_18, za_19, za_20, za_21, za_22, zb_23, za_24, za_25, za_26, za_27, za_28, za_29, za_30, za_31, za_32, zb_35, za_36, za_37, za_38, za_39, za_40, zb_377, zb_378, za_379, za_380, za_381, za_382, za_383, zb_384, za_385, za_386, za_387, za_388, za_389, za_390, za_391, za_392, za_393, zb_396, za_397, za_398, za_399, za_400, za_401, zb_738, za_739, za_740, za_741, za_742, za_743, za_744, za_745, za_746, za_747, zb_748, za_749, za_750, zb_751, zb_752, za_753, za_754, za_755, za_756, zb_757, za_758, za_759, za_760, zb_761, za_763, za_764, za_765, true_and, and_true, Nat.reduceAdd]
      refine c5_step hE d hR0 (fun M1 R1 g1 a1 a2 => ?_)
      simp only [bX5_readNumber_43, zw_0, zw_1, zs_aloadn0, zs_aloadNn0, zi_5_122, zs_iloadn3, zs_ireturn, zh_0, zh_1, zh_2, zh_3, zh_4, zt_i, zt_l, zt_r, zt_n, zn_int, zn_b0, zn_b1, zb_15, zb_16, zb_17, za_18, za_19, za_20, za_21, za_22, zb_23, za_24, za_25, za_26, za_27, za_28, za_29, za_30, za_31, za_32, zb_35, za_36, za_37, za_38, za_39, za_40, zb_377, zb_378, za_379, za_380, za_381, za_382, za_383, zb_384, za_385, za_386, za_387, za_388, za_389, za_390, za_391, za_392, za_393, zb_396, za_397, za_398, za_399, za_400, za_401, zb_738, za_739, za_740, za_741, za_742, za_743, za_744, za_745, za_746, za_747, zb_748, za_749, za_750, zb_751, zb_752, za_753, za_754, za_755, za_756, zb_757, za_758, za_759, za_760, zb_761, za_763, za_764, za_765, true_and, and_true, Nat.reduceAdd]
      exact q3 hz M1 R1 g1 a1 a2
    · refine c5_complain hE d 2 hR0 (fun M1 R1 g1 t1 => ?_)
      simp only [bX5_readNumber_17, zw_0, zw_1, zs_aloadn0, zs_aloadNn0, zg_5_32, zg_5_38, zs_iaload, zs_istoren3, zs_iloadn3, zs_iloadn1, zs_iloadn2, zi_5_128, zs_ifne, zs_iconst, zi_5_125, zs_ireturn, zc_none, zc_int, zc_ref, zc_null, zc_long, zh_0, zh_1, zh_2, zh_3, zh_4, zt_i, zt_l, zt_r, zt_n, zn_int, zn_b0, zn_b1, zb_15, zb_16, zb_17, za_18, za_19, za_20, za_21, za_22, zb_23, za_24, za_25, za_26, za_27, za_28, za_29, za_30, za_31, za_32, zb_35, za_36, za_37, za_38, za_39, za_40, zb_377, zb_378, za_379, za_380, za_381, za_382, za_383, zb_384, za_385, za_386, za_387, za_388, za_389, za_390, za_391, za_392, za_393, zb_396, za_397, za_398, za_399, za_400, za_401, zb_738, za_739, za_740, za_741, za_742, za_743, za_744, za_745, za_746, za_747, zb_748, za_749, za_750, zb_751, zb_752, za_753, za_754, za_755, za_756, zb_757, za_758, za_759, za_760, zb_761, za_763, za_764, za_765, zu_0, zu_1, zu_2, zu_3, zu_4, zu_5, zu_6, zu_7, zu_8, zu_9, zu_10, zu_11, zu_12, zu_13, zu_14, zu_15, zu_16, zu_17, zu_18, zu_19, zu_20, zu_21, zu_22, zu_23, zu_24, zu_25, zu_26, zu_27, zu_28, zu_29, zu_30, zu_90, zv_0_9, zv_1_9, zv_2_9, zv_3_9, zv_4_9, zv_5_9, zv_6_9, zv_7_9, zv_8_9, zv_0_330, zv_0_4544, zv_1_4544, zv_2_4544, zv_3_4544, zv_4_4544, zv_5_4544, zv_6_4544, zv_7_4544, zv_8_4544, zv_9_4544, zv_10_4544, zv_11_4544, zv_12_4544, zv_13_4544, zv_14_4544, zv_15_4544, zv_16_4544, zv_17_4544, zv_18_4544, zv_19_4544, zv_20_4544, zv_21_4544, zv_22_4544, zv_23_4544, zv_24_4544, zv_25_4544, zv_26_4544, zv_27_4544, zv_28_4544, zv_29_4544, zv_0_11, zv_1_11, zv_0_160, true_and, and_true, Nat.reduceAdd]
      exact q2 hz M1 R1 g1 t1
  · refine c5_complain hE d 1 hR0 (fun M1 R1 g1 t1 => ?_)
    simp only [bX5_readNumber_0, zw_0, zw_1, zs_aloadn0, zs_aloadNn0, zg_5_45, zgs_85, zs_aceq, zs_iconst, zi_5_125, zs_ireturn, zh_0, zh_1, zh_2, zh_3, zh_4, zt_i, zt_l, zt_r, zt_n, zn_int, zn_b0, zn_b1, zb_15, zb_16, zb_17, za_18, za_19, za_20, za_21, za_22, zb_23, za_24, za_25, za_26, za_27, za_28, za_29, za_30, za_31, za_32, zb_35, za_36, za_37, za_38, za_39, za_40, zb_377, zb_378, za_379, za_380, za_381, za_382, za_383, zb_384, za_385, za_386, za_387, za_388, za_389, za_390, za_391, za_392, za_393, zb_396, za_397, za_398, za_399, za_400, za_401, zb_738, za_739, za_740, za_741, za_742, za_743, za_744, za_745, za_746, za_747, zb_748, za_749, za_750, zb_751, zb_752, za_753, za_754, za_755, za_756, zb_757, za_758, za_759, za_760, zb_761, za_763, za_764, za_765, true_and, and_true, Nat.reduceAdd]
    exact q1 h M1 R1 g1 t1
