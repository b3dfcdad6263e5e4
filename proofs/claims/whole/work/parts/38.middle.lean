/-! ===== play of the class; middle, longest ===== -/
theorem c11_play {E : zm_E} (hE : zm_ok E.2.2.1 E.2.2.2.2) (d : Nat) (o l : Int32) {M : zm_M} {Q : Option Value → zm_M → Prop} (q1 : zi_in o 0 1 = 0 → Q (some (.int (-2))) M) (q2 : ∀ i, i ≤ 1 → o = nI i → Q (some (.int (zl_pl (M.1 38) i l 9).2.2)) M) : zm_R E (d + 2) mX11_play [.ref 15, .int o, .int l] M Q := by
  refine zX11_play hE rfl (fun G h0 h12 h23 h24 h34 h36 h42 h58 h59 h70 h73 h106 h108 h124 h125 h136 h138 h140 h146 => ?_)
  show G 0 [some (.ref 15), some (.int o), some (.int l), none, none, none, none, none, none, none] [] M
  refine h0 _ _ _ ?_
  simp only [bX11_play_0, zw_0, zw_1, zs_iloadn1, zs_iconst, zi_11_86, zs_ifne, zs_bipush, zs_ireturn, zh_0, zh_1, zh_2, zh_3, zh_4, zt_i, zt_l, zt_r, zt_n, zn_int, zn_b0, zn_b1, zb_15, zb_16, zb_17, za_18, za_19, za_20, za_21, za_22, zb_23, za_24, za_25, za_26, za_27, za_28, za_29, za_30, za_31, za_32, zb_35, za_36, za_37, za_38, za_39, za_40, zb_377, zb_378, za_379, za_380, za_381, za_382, za_383, zb_384, za_385, za_386, za_387, za_388, za_389, za_390, za_391, za_392, za_393, zb_396, za_397, za_398, za_399, za_400, za_401, zb_738, za_739, za_740, za_741, za_742, za_743, za_744, za_745, za_746, za_747, zb_748, za_749, za_750, zb_751, zb_752, za_753, za_754, za_755, za_756, zb_757, za_758, za_759, za_760, zb_761, za_763, za_764, za_765, true_and, and_true, Nat.reduceAdd]
  refine zm_R_eq (c11_within hE d o 0 1 M) ?_
  simp only [bX11_play_0, zw_0, zw_1, zs_iloadn1, zs_iconst, zi_11_86, zs_ifne, zs_bipush, zs_ireturn, zh_0, zh_1, zh_2, zh_3, zh_4, zt_i, zt_l, zt_r, zt_n, zn_int, zn_b0, zn_b1, zb_15, zb_16, zb_17, za_18, za_19, za_20, za_21, za_22, zb_23, za_24, za_25, za_26, za_27, za_28, za_29, za_30, za_31, za_32, zb_35, za_36, za_37, za_38, za_39, za_40, zb_377, zb_378, za_379, za_380, za_381, za_382, za_383, zb_384, za_385, za_386, za_387, za_388, za_389, za_390, za_391, za_392, za_393, zb_396, za_397, za_398, za_399, za_400, za_401, zb_738, za_739, za_740, za_741, za_742, za_743, za_744, za_745, za_746, za_747, zb_748, za_749, za_750, zb_751, zb_752, za_753, za_754, za_755, za_756, zb_757, za_758, za_759, za_760, zb_761, za_763, za_764, za_765, true_and, and_true, Nat.reduceAdd]
  refine ⟨fun ho => ?_, fun h => q1 h⟩
  obtain ⟨i, hi, rfl⟩ := zi_in_of (n := 1) (by decide) ho
  have q2 := q2 i hi rfl
  have fin : ∀ a b c d e f g, G 146 [some (.ref 15), some (.int (nI i)), a, some (.int (zl_pl (M.1 38) i l 9).2.2), b, c, d, e, f, g] [] M := by
    intros
    refine h146 _ _ _ ?_
    simp only [bX11_play_146, zw_0, zw_1, zs_iloadn3, zs_ireturn, zn_int, zn_b0, zn_b1, zb_15, zb_16, zb_17, za_18, za_19, za_20, za_21, za_22, zb_23, za_24, za_25, za_26, za_27, za_28, za_29, za_30, za_31, za_32, zb_35, za_36, za_37, za_38, za_39, za_40, zb_377, zb_378, za_379, za_380, za_381, za_382, za_383, zb_384, za_385, za_386, za_387, za_388, za_389, za_390, za_391, za_392, za_393, zb_396, za_397, za_398, za_399, za_400, za_401, zb_738, za_739, za_740, za_741, za_742, za_743, za_744, za_745, za_746, za_747, zb_748, za_749, za_750, zb_751, zb_752, za_753, za_754, za_755, za_756, zb_757, za_758, za_759, za_760, zb_761, za_763, za_764, za_765, true_and, and_true, Nat.reduceAdd]
    exact q2
  have loop : ∀ (f k : Nat) (l7 l8 l9 : Option Value), k + f = 9 → G 42 [some (.ref 15), some (.int (nI i)), some (.int l), some (.int (zl_pl (M.1 38) i l k).2.2), some (.int (zl_pl (M.1 38) i l k).1), some (.int (zl_pl (M.1 38) i l k).2.1), some (.int (if k = 9 then -1 else nI (8 - k))), l7, l8, l9] [] M := by
    intro f
    induction f with
    | zero =>
      intro k l7 l8 l9 hk
      have hk : k = 9 := by omega
      subst hk
      refine h42 _ _ _ ?_
      simp only [bX11_play_42, zw_0, zw_1, zs_iload6, zs_iflt, zs_iconst, zs_irem, zs_ifne, zs_goto, zb_15, zb_16, zb_17, za_18, za_19, za_20, za_21, za_22, zb_23, za_24, za_25, za_26, za_27, za_28, za_29, za_30, za_31, za_32, zb_35, za_36, za_37, za_38, za_39, za_40, zb_377, zb_378, za_379, za_380, za_381, za_382, za_383, zb_384, za_385, za_386, za_387, za_388, za_389, za_390, za_391, za_392, za_393, zb_396, za_397, za_398, za_399, za_400, za_401, zb_738, za_739, za_740, za_741, za_742, za_743, za_744, za_745, za_746, za_747, zb_748, za_749, za_750, zb_751, zb_752, za_753, za_754, za_755, za_756, zb_757, za_758, za_759, za_760, zb_761, za_763, za_764, za_765, true_and, and_true, Nat.reduceAdd]
      exact ⟨fun _ => fin _ _ _ _ _ _ _, fun h => absurd (by decide) h⟩
    | succ f ih =>
      intro k l7 l8 l9 hk
      obtain ⟨v1, v2, v3⟩ := zl_ev (8 - k) (by omega)
      rw [if_neg (by omega)]
      have next : ∀ s l7 l8 l9, s = zl_pl (M.1 38) i l (k + 1) → G 140 [some (.ref 15), some (.int (nI i)), some (.int l), some (.int s.2.2), some (.int s.1), some (.int s.2.1), some (.int (nI (8 - k))), l7, l8, l9] [] M := by
        intro s l7 l8 l9 hs
        refine h140 _ _ _ ?_
        simp only [bX11_play_140, zw_0, zw_1, zs_iinc6, zs_goto, zc_none, zc_int, zc_ref, zc_null, zc_long, zb_15, zb_16, zb_17, za_18, za_19, za_20, za_21, za_22, zb_23, za_24, za_25, za_26, za_27, za_28, za_29, za_30, za_31, za_32, zb_35, za_36, za_37, za_38, za_39, za_40, zb_377, zb_378, za_379, za_380, za_381, za_382, za_383, zb_384, za_385, za_386, za_387, za_388, za_389, za_390, za_391, za_392, za_393, zb_396, za_397, za_398, za_399, za_400, za_401, zb_738, za_739, za_740, za_741, za_742, za_743, za_744, za_745, za_746, za_747, zb_748, za_749, za_750, zb_751, zb_752, za_753, za_754, za_755, za_756, zb_757, za_758, za_759, za_760, zb_761, za_763, za_764, za_765, true_and, and_true, Nat.reduceAdd]
        rw [hs]
        have := ih (k + 1) l7 l8 l9 (by omega)
        rw [zl_dn k (by omega)]
        by_cases h8 : k = 8
        · rw [if_pos h8]; rw [if_pos (by omega)] at this; exact this
        · rw [if_neg h8]; rw [if_neg (by omega)] at this; exact this
      have es : zl_pl (M.1 38) i l (k + 1) = zl_st (M.1 38) i (8 - k) (zl_pl (M.1 38) i l k) := rfl
      rw [es] at next
      have ht : 8 - k < 9 := by omega
      generalize zl_pl (M.1 38) i l k = s at next ⊢
      generalize 8 - k = t at *
      have x1 : nI i * (5 : Int32) + nI (t / 2) = nI (5 * i + t / 2) := by
        rw [show (5 : Int32) = nI 5 from rfl, pk_mul, nI_add, Nat.mul_comm]
      have y1 : (1 : Int32) - nI i = nI (1 - i) := by rw [show (1 : Int32) = nI 1 from rfl, pk_sub hi]
      have x2 : nI (1 - i) * (5 : Int32) + nI (t / 2) = nI (5 * (1 - i) + t / 2) := by
        rw [show (5 : Int32) = nI 5 from rfl, pk_mul, nI_add, Nat.mul_comm]
      have i1 : vp_in (nI (5 * i + t / 2)) 10 := vp_in_nI (by omega) (by decide)
      have i2 : (nI (5 * i + t / 2)).toNatClampNeg = 5 * i + t / 2 := nI_clamp (by omega)
      have i3 : vp_in (nI (5 * (1 - i) + t / 2)) 10 := vp_in_nI (by omega) (by decide)
      have i4 : (nI (5 * (1 - i) + t / 2)).toNatClampNeg = 5 * (1 - i) + t / 2 := nI_clamp (by omega)
      refine h42 _ _ _ ?_
      simp only [bX11_play_42, zw_0, zw_1, zs_iload6, zs_iflt, zs_iconst, zs_irem, zs_ifne, zs_goto, zb_15, zb_16, zb_17, za_18, za_19, za_20, za_21, za_22, zb_23, za_24, za_25, za_26, za_27, za_28, za_29, za_30, za_31, za_32, zb_35, za_36, za_37, za_38, za_39, za_40, zb_377, zb_378, za_379, za_380, za_381, za_382, za_383, zb_384, za_385, za_386, za_387, za_388, za_389, za_390, za_391, za_392, za_393, zb_396, za_397, za_398, za_399, za_400, za_401, zb_738, za_739, za_740, za_741, za_742, za_743, za_744, za_745, za_746, za_747, zb_748, za_749, za_750, zb_751, zb_752, za_753, za_754, za_755, za_756, zb_757, za_758, za_759, za_760, zb_761, za_763, za_764, za_765, true_and, and_true, Nat.reduceAdd]
      refine ⟨fun h => absurd h v3, fun _ => ⟨by decide, fun h => ?_, fun h => ?_⟩⟩
      · have hp : ¬ t % 2 = 0 := fun z => h (v1.mpr z)
        have stp : zl_st (M.1 38) i t s = if M.1 38 (5 * (1 - i) + t / 2) ≤ s.2.1 then (0, M.1 38 (5 * (1 - i) + t / 2), nI (1 - i)) else s := by
          unfold zl_st
          rw [if_neg hp]
        refine h58 _ _ _ ?_
        simp only [bX11_play_58, zw_0, zw_1, zs_iconst, zb_15, zb_16, zb_17, za_18, za_19, za_20, za_21, za_22, zb_23, za_24, za_25, za_26, za_27, za_28, za_29, za_30, za_31, za_32, zb_35, za_36, za_37, za_38, za_39, za_40, zb_377, zb_378, za_379, za_380, za_381, za_382, za_383, zb_384, za_385, za_386, za_387, za_388, za_389, za_390, za_391, za_392, za_393, zb_396, za_397, za_398, za_399, za_400, za_401, zb_738, za_739, za_740, za_741, za_742, za_743, za_744, za_745, za_746, za_747, zb_748, za_749, za_750, zb_751, zb_752, za_753, za_754, za_755, za_756, zb_757, za_758, za_759, za_760, zb_761, za_763, za_764, za_765, true_and, and_true, Nat.reduceAdd]
        refine h59 _ _ _ ?_
        simp only [bX11_play_59, zw_0, zw_1, zs_istore7, zs_iload7, zs_ifeq, zs_iloadn1, zs_goto, zc_none, zc_int, zc_ref, zc_null, zc_long, zb_15, zb_16, zb_17, za_18, za_19, za_20, za_21, za_22, zb_23, za_24, za_25, za_26, za_27, za_28, za_29, za_30, za_31, za_32, zb_35, za_36, za_37, za_38, za_39, za_40, zb_377, zb_378, za_379, za_380, za_381, za_382, za_383, zb_384, za_385, za_386, za_387, za_388, za_389, za_390, za_391, za_392, za_393, zb_396, za_397, za_398, za_399, za_400, za_401, zb_738, za_739, za_740, za_741, za_742, za_743, za_744, za_745, za_746, za_747, zb_748, za_749, za_750, zb_751, zb_752, za_753, za_754, za_755, za_756, zb_757, za_758, za_759, za_760, zb_761, za_763, za_764, za_765, true_and, and_true, Nat.reduceAdd]
        refine ⟨fun _ => ?_, fun h => (h (by trivial)).elim⟩
        refine h70 _ _ _ ?_
        simp only [bX11_play_70, zw_0, zw_1, zs_iconst, zs_iloadn1, zs_isub, zb_15, zb_16, zb_17, za_18, za_19, za_20, za_21, za_22, zb_23, za_24, za_25, za_26, za_27, za_28, za_29, za_30, za_31, za_32, zb_35, za_36, za_37, za_38, za_39, za_40, zb_377, zb_378, za_379, za_380, za_381, za_382, za_383, zb_384, za_385, za_386, za_387, za_388, za_389, za_390, za_391, za_392, za_393, zb_396, za_397, za_398, za_399, za_400, za_401, zb_738, za_739, za_740, za_741, za_742, za_743, za_744, za_745, za_746, za_747, zb_748, za_749, za_750, zb_751, zb_752, za_753, za_754, za_755, za_756, zb_757, za_758, za_759, za_760, zb_761, za_763, za_764, za_765, true_and, and_true, Nat.reduceAdd, y1]
        refine h73 _ _ _ ?_
        simp only [bX11_play_73, zw_0, zw_1, zs_istore8, zs_aloadn0, zs_aloadNn0, zg_11_10, zg_11_361, zs_iload8, zs_iconst, zs_imul, zs_iload6, zs_idiv, zs_iadd, zs_iaload, zs_istore9, zs_iload9, zs_iload7, zs_ifeq, zs_iload4, zs_goto, zc_none, zc_int, zc_ref, zc_null, zc_long, zb_15, zb_16, zb_17, za_18, za_19, za_20, za_21, za_22, zb_23, za_24, za_25, za_26, za_27, za_28, za_29, za_30, za_31, za_32, zb_35, za_36, za_37, za_38, za_39, za_40, zb_377, zb_378, za_379, za_380, za_381, za_382, za_383, zb_384, za_385, za_386, za_387, za_388, za_389, za_390, za_391, za_392, za_393, zb_396, za_397, za_398, za_399, za_400, za_401, zb_738, za_739, za_740, za_741, za_742, za_743, za_744, za_745, za_746, za_747, zb_748, za_749, za_750, zb_751, zb_752, za_753, za_754, za_755, za_756, zb_757, za_758, za_759, za_760, zb_761, za_763, za_764, za_765, zu_0, zu_1, zu_2, zu_3, zu_4, zu_5, zu_6, zu_7, zu_8, zu_9, zu_10, zu_11, zu_12, zu_13, zu_14, zu_15, zu_16, zu_17, zu_18, zu_19, zu_20, zu_21, zu_22, zu_23, zu_24, zu_25, zu_26, zu_27, zu_28, zu_29, zu_30, zu_90, zv_0_9, zv_1_9, zv_2_9, zv_3_9, zv_4_9, zv_5_9, zv_6_9, zv_7_9, zv_8_9, zv_0_330, zv_0_4544, zv_1_4544, zv_2_4544, zv_3_4544, zv_4_4544, zv_5_4544, zv_6_4544, zv_7_4544, zv_8_4544, zv_9_4544, zv_10_4544, zv_11_4544, zv_12_4544, zv_13_4544, zv_14_4544, zv_15_4544, zv_16_4544, zv_17_4544, zv_18_4544, zv_19_4544, zv_20_4544, zv_21_4544, zv_22_4544, zv_23_4544, zv_24_4544, zv_25_4544, zv_26_4544, zv_27_4544, zv_28_4544, zv_29_4544, zv_0_11, zv_1_11, zv_0_160, true_and, and_true, Nat.reduceAdd, v2, x2, i3, i4]
        refine ⟨by decide, fun _ => ?_, fun h => (h (by trivial)).elim⟩
        refine h106 _ _ _ ?_
        simp only [bX11_play_106, zw_0, zw_1, zs_iload5, zb_15, zb_16, zb_17, za_18, za_19, za_20, za_21, za_22, zb_23, za_24, za_25, za_26, za_27, za_28, za_29, za_30, za_31, za_32, zb_35, za_36, za_37, za_38, za_39, za_40, zb_377, zb_378, za_379, za_380, za_381, za_382, za_383, zb_384, za_385, za_386, za_387, za_388, za_389, za_390, za_391, za_392, za_393, zb_396, za_397, za_398, za_399, za_400, za_401, zb_738, za_739, za_740, za_741, za_742, za_743, za_744, za_745, za_746, za_747, zb_748, za_749, za_750, zb_751, zb_752, za_753, za_754, za_755, za_756, zb_757, za_758, za_759, za_760, zb_761, za_763, za_764, za_765, true_and, and_true, Nat.reduceAdd]
        refine h108 _ _ _ ?_
        simp only [bX11_play_108, zw_0, zw_1, zs_icgt, zs_iload8, zs_istoren3, zs_iload7, zs_ifeq, zs_iload9, zs_goto, zc_none, zc_int, zc_ref, zc_null, zc_long, zb_15, zb_16, zb_17, za_18, za_19, za_20, za_21, za_22, zb_23, za_24, za_25, za_26, za_27, za_28, za_29, za_30, za_31, za_32, zb_35, za_36, za_37, za_38, za_39, za_40, zb_377, zb_378, za_379, za_380, za_381, za_382, za_383, zb_384, za_385, za_386, za_387, za_388, za_389, za_390, za_391, za_392, za_393, zb_396, za_397, za_398, za_399, za_400, za_401, zb_738, za_739, za_740, za_741, za_742, za_743, za_744, za_745, za_746, za_747, zb_748, za_749, za_750, zb_751, zb_752, za_753, za_754, za_755, za_756, zb_757, za_758, za_759, za_760, zb_761, za_763, za_764, za_765, true_and, and_true, Nat.reduceAdd]
        refine ⟨fun h => next s _ _ _ (by rw [stp, if_neg (Int32.not_le.mpr h)]), fun h => ⟨fun _ => ?_, fun h => (h (by trivial)).elim⟩⟩
        refine h124 _ _ _ ?_
        simp only [bX11_play_124, zw_0, zw_1, zs_iconst, zb_15, zb_16, zb_17, za_18, za_19, za_20, za_21, za_22, zb_23, za_24, za_25, za_26, za_27, za_28, za_29, za_30, za_31, za_32, zb_35, za_36, za_37, za_38, za_39, za_40, zb_377, zb_378, za_379, za_380, za_381, za_382, za_383, zb_384, za_385, za_386, za_387, za_388, za_389, za_390, za_391, za_392, za_393, zb_396, za_397, za_398, za_399, za_400, za_401, zb_738, za_739, za_740, za_741, za_742, za_743, za_744, za_745, za_746, za_747, zb_748, za_749, za_750, zb_751, zb_752, za_753, za_754, za_755, za_756, zb_757, za_758, za_759, za_760, zb_761, za_763, za_764, za_765, true_and, and_true, Nat.reduceAdd]
        refine h125 _ _ _ ?_
        simp only [bX11_play_125, zw_0, zw_1, zs_istore4, zs_iload7, zs_ifeq, zs_iconst, zs_goto, zc_none, zc_int, zc_ref, zc_null, zc_long, zb_15, zb_16, zb_17, za_18, za_19, za_20, za_21, za_22, zb_23, za_24, za_25, za_26, za_27, za_28, za_29, za_30, za_31, za_32, zb_35, za_36, za_37, za_38, za_39, za_40, zb_377, zb_378, za_379, za_380, za_381, za_382, za_383, zb_384, za_385, za_386, za_387, za_388, za_389, za_390, za_391, za_392, za_393, zb_396, za_397, za_398, za_399, za_400, za_401, zb_738, za_739, za_740, za_741, za_742, za_743, za_744, za_745, za_746, za_747, zb_748, za_749, za_750, zb_751, zb_752, za_753, za_754, za_755, za_756, zb_757, za_758, za_759, za_760, zb_761, za_763, za_764, za_765, true_and, and_true, Nat.reduceAdd]
        refine ⟨fun _ => ?_, fun h => (h (by trivial)).elim⟩
        refine h136 _ _ _ ?_
        simp only [bX11_play_136, zw_0, zw_1, zs_iload9, zb_15, zb_16, zb_17, za_18, za_19, za_20, za_21, za_22, zb_23, za_24, za_25, za_26, za_27, za_28, za_29, za_30, za_31, za_32, zb_35, za_36, za_37, za_38, za_39, za_40, zb_377, zb_378, za_379, za_380, za_381, za_382, za_383, zb_384, za_385, za_386, za_387, za_388, za_389, za_390, za_391, za_392, za_393, zb_396, za_397, za_398, za_399, za_400, za_401, zb_738, za_739, za_740, za_741, za_742, za_743, za_744, za_745, za_746, za_747, zb_748, za_749, za_750, zb_751, zb_752, za_753, za_754, za_755, za_756, zb_757, za_758, za_759, za_760, zb_761, za_763, za_764, za_765, true_and, and_true, Nat.reduceAdd]
        refine h138 _ _ _ ?_
        simp only [bX11_play_138, zw_0, zw_1, zs_istore5, zc_none, zc_int, zc_ref, zc_null, zc_long, zb_15, zb_16, zb_17, za_18, za_19, za_20, za_21, za_22, zb_23, za_24, za_25, za_26, za_27, za_28, za_29, za_30, za_31, za_32, zb_35, za_36, za_37, za_38, za_39, za_40, zb_377, zb_378, za_379, za_380, za_381, za_382, za_383, zb_384, za_385, za_386, za_387, za_388, za_389, za_390, za_391, za_392, za_393, zb_396, za_397, za_398, za_399, za_400, za_401, zb_738, za_739, za_740, za_741, za_742, za_743, za_744, za_745, za_746, za_747, zb_748, za_749, za_750, zb_751, zb_752, za_753, za_754, za_755, za_756, zb_757, za_758, za_759, za_760, zb_761, za_763, za_764, za_765, true_and, and_true, Nat.reduceAdd]
        exact next (0, M.1 38 (5 * (1 - i) + t / 2), nI (1 - i)) _ _ _ (by rw [stp, if_pos (Int32.not_lt.mp h)])
      · have hp : t % 2 = 0 := v1.mp h
        have stp : zl_st (M.1 38) i t s = if M.1 38 (5 * i + t / 2) ≤ s.1 then (M.1 38 (5 * i + t / 2), 0, nI i) else s := by
          unfold zl_st
          rw [if_pos hp]
        refine h59 _ _ _ ?_
        simp only [bX11_play_59, zw_0, zw_1, zs_istore7, zs_iload7, zs_ifeq, zs_iloadn1, zs_goto, zc_none, zc_int, zc_ref, zc_null, zc_long, zb_15, zb_16, zb_17, za_18, za_19, za_20, za_21, za_22, zb_23, za_24, za_25, za_26, za_27, za_28, za_29, za_30, za_31, za_32, zb_35, za_36, za_37, za_38, za_39, za_40, zb_377, zb_378, za_379, za_380, za_381, za_382, za_383, zb_384, za_385, za_386, za_387, za_388, za_389, za_390, za_391, za_392, za_393, zb_396, za_397, za_398, za_399, za_400, za_401, zb_738, za_739, za_740, za_741, za_742, za_743, za_744, za_745, za_746, za_747, zb_748, za_749, za_750, zb_751, zb_752, za_753, za_754, za_755, za_756, zb_757, za_758, za_759, za_760, zb_761, za_763, za_764, za_765, true_and, and_true, Nat.reduceAdd]
        refine ⟨fun h => absurd h (by decide), fun _ => ?_⟩
        refine h73 _ _ _ ?_
        simp only [bX11_play_73, zw_0, zw_1, zs_istore8, zs_aloadn0, zs_aloadNn0, zg_11_10, zg_11_361, zs_iload8, zs_iconst, zs_imul, zs_iload6, zs_idiv, zs_iadd, zs_iaload, zs_istore9, zs_iload9, zs_iload7, zs_ifeq, zs_iload4, zs_goto, zc_none, zc_int, zc_ref, zc_null, zc_long, zb_15, zb_16, zb_17, za_18, za_19, za_20, za_21, za_22, zb_23, za_24, za_25, za_26, za_27, za_28, za_29, za_30, za_31, za_32, zb_35, za_36, za_37, za_38, za_39, za_40, zb_377, zb_378, za_379, za_380, za_381, za_382, za_383, zb_384, za_385, za_386, za_387, za_388, za_389, za_390, za_391, za_392, za_393, zb_396, za_397, za_398, za_399, za_400, za_401, zb_738, za_739, za_740, za_741, za_742, za_743, za_744, za_745, za_746, za_747, zb_748, za_749, za_750, zb_751, zb_752, za_753, za_754, za_755, za_756, zb_757, za_758, za_759, za_760, zb_761, za_763, za_764, za_765, zu_0, zu_1, zu_2, zu_3, zu_4, zu_5, zu_6, zu_7, zu_8, zu_9, zu_10, zu_11, zu_12, zu_13, zu_14, zu_15, zu_16, zu_17, zu_18, zu_19, zu_20, zu_21, zu_22, zu_23, zu_24, zu_25, zu_26, zu_27, zu_28, zu_29, zu_30, zu_90, zv_0_9, zv_1_9, zv_2_9, zv_3_9, zv_4_9, zv_5_9, zv_6_9, zv_7_9, zv_8_9, zv_0_330, zv_0_4544, zv_1_4544, zv_2_4544, zv_3_4544, zv_4_4544, zv_5_4544, zv_6_4544, zv_7_4544, zv_8_4544, zv_9_4544, zv_10_4544, zv_11_4544, zv_12_4544, zv_13_4544, zv_14_4544, zv_15_4544, zv_16_4544, zv_17_4544, zv_18_4544, zv_19_4544, zv_20_4544, zv_21_4544, zv_22_4544, zv_23_4544, zv_24_4544, zv_25_4544, zv_26_4544, zv_27_4544, zv_28_4544, zv_29_4544, zv_0_11, zv_1_11, zv_0_160, true_and, and_true, Nat.reduceAdd, v2, x1, i1, i2]
        refine ⟨by decide, fun h => absurd h (by decide), fun _ => ?_⟩
        refine h108 _ _ _ ?_
        simp only [bX11_play_108, zw_0, zw_1, zs_icgt, zs_iload8, zs_istoren3, zs_iload7, zs_ifeq, zs_iload9, zs_goto, zc_none, zc_int, zc_ref, zc_null, zc_long, zb_15, zb_16, zb_17, za_18, za_19, za_20, za_21, za_22, zb_23, za_24, za_25, za_26, za_27, za_28, za_29, za_30, za_31, za_32, zb_35, za_36, za_37, za_38, za_39, za_40, zb_377, zb_378, za_379, za_380, za_381, za_382, za_383, zb_384, za_385, za_386, za_387, za_388, za_389, za_390, za_391, za_392, za_393, zb_396, za_397, za_398, za_399, za_400, za_401, zb_738, za_739, za_740, za_741, za_742, za_743, za_744, za_745, za_746, za_747, zb_748, za_749, za_750, zb_751, zb_752, za_753, za_754, za_755, za_756, zb_757, za_758, za_759, za_760, zb_761, za_763, za_764, za_765, true_and, and_true, Nat.reduceAdd]
        refine ⟨fun h => next s _ _ _ (by rw [stp, if_neg (Int32.not_le.mpr h)]), fun h => ⟨fun h => absurd h (by decide), fun _ => ?_⟩⟩
        refine h125 _ _ _ ?_
        simp only [bX11_play_125, zw_0, zw_1, zs_istore4, zs_iload7, zs_ifeq, zs_iconst, zs_goto, zc_none, zc_int, zc_ref, zc_null, zc_long, zb_15, zb_16, zb_17, za_18, za_19, za_20, za_21, za_22, zb_23, za_24, za_25, za_26, za_27, za_28, za_29, za_30, za_31, za_32, zb_35, za_36, za_37, za_38, za_39, za_40, zb_377, zb_378, za_379, za_380, za_381, za_382, za_383, zb_384, za_385, za_386, za_387, za_388, za_389, za_390, za_391, za_392, za_393, zb_396, za_397, za_398, za_399, za_400, za_401, zb_738, za_739, za_740, za_741, za_742, za_743, za_744, za_745, za_746, za_747, zb_748, za_749, za_750, zb_751, zb_752, za_753, za_754, za_755, za_756, zb_757, za_758, za_759, za_760, zb_761, za_763, za_764, za_765, true_and, and_true, Nat.reduceAdd]
        refine ⟨fun h => absurd h (by decide), fun _ => ?_⟩
        refine h138 _ _ _ ?_
        simp only [bX11_play_138, zw_0, zw_1, zs_istore5, zc_none, zc_int, zc_ref, zc_null, zc_long, zb_15, zb_16, zb_17, za_18, za_19, za_20, za_21, za_22, zb_23, za_24, za_25, za_26, za_27, za_28, za_29, za_30, za_31, za_32, zb_35, za_36, za_37, za_38, za_39, za_40, zb_377, zb_378, za_379, za_380, za_381, za_382, za_383, zb_384, za_385, za_386, za_387, za_388, za_389, za_390, za_391, za_392, za_393, zb_396, za_397, za_398, za_399, za_400, za_401, zb_738, za_739, za_740, za_741, za_742, za_743, za_744, za_745, za_746, za_747, zb_748, za_749, za_750, zb_751, zb_752, za_753, za_754, za_755, za_756, zb_757, za_758, za_759, za_760, zb_761, za_763, za_764, za_765, true_and, and_true, Nat.reduceAdd]
        exact next (M.1 38 (5 * i + t / 2), 0, nI i) _ _ _ (by rw [stp, if_pos (Int32.not_lt.mp h)])
  have fire : ∀ a b, (a, b, (-1 : Int32)) = zl_pl (M.1 38) i l 0 → G 36 [some (.ref 15), some (.int (nI i)), some (.int l), some (.int (-1)), some (.int a), none, none, none, none, none] [.int b] M := by
    intro a b hab
    refine h36 _ _ _ ?_
    simp only [bX11_play_36, zw_0, zw_1, zs_istore5, zs_bipush, zs_istore6, zc_none, zc_int, zc_ref, zc_null, zc_long, zb_15, zb_16, zb_17, za_18, za_19, za_20, za_21, za_22, zb_23, za_24, za_25, za_26, za_27, za_28, za_29, za_30, za_31, za_32, zb_35, za_36, za_37, za_38, za_39, za_40, zb_377, zb_378, za_379, za_380, za_381, za_382, za_383, zb_384, za_385, za_386, za_387, za_388, za_389, za_390, za_391, za_392, za_393, zb_396, za_397, za_398, za_399, za_400, za_401, zb_738, za_739, za_740, za_741, za_742, za_743, za_744, za_745, za_746, za_747, zb_748, za_749, za_750, zb_751, zb_752, za_753, za_754, za_755, za_756, zb_757, za_758, za_759, za_760, zb_761, za_763, za_764, za_765, true_and, and_true, Nat.reduceAdd]
    have := loop 9 0 none none none (by omega)
    rw [← hab] at this
    exact this
  refine h12 _ _ _ ?_
  simp only [bX11_play_12, zw_0, zw_1, zs_iconst, zs_istoren3, zs_iloadn2, zs_ifeq, zs_bipush, zs_goto, zc_none, zc_int, zc_ref, zc_null, zc_long, zb_15, zb_16, zb_17, za_18, za_19, za_20, za_21, za_22, zb_23, za_24, za_25, za_26, za_27, za_28, za_29, za_30, za_31, za_32, zb_35, za_36, za_37, za_38, za_39, za_40, zb_377, zb_378, za_379, za_380, za_381, za_382, za_383, zb_384, za_385, za_386, za_387, za_388, za_389, za_390, za_391, za_392, za_393, zb_396, za_397, za_398, za_399, za_400, za_401, zb_738, za_739, za_740, za_741, za_742, za_743, za_744, za_745, za_746, za_747, zb_748, za_749, za_750, zb_751, zb_752, za_753, za_754, za_755, za_756, zb_757, za_758, za_759, za_760, zb_761, za_763, za_764, za_765, true_and, and_true, Nat.reduceAdd]
  refine ⟨fun hl => ?_, fun hl => ?_⟩
  · refine h23 _ _ _ ?_
    simp only [bX11_play_23, zw_0, zw_1, zs_iconst, zb_15, zb_16, zb_17, za_18, za_19, za_20, za_21, za_22, zb_23, za_24, za_25, za_26, za_27, za_28, za_29, za_30, za_31, za_32, zb_35, za_36, za_37, za_38, za_39, za_40, zb_377, zb_378, za_379, za_380, za_381, za_382, za_383, zb_384, za_385, za_386, za_387, za_388, za_389, za_390, za_391, za_392, za_393, zb_396, za_397, za_398, za_399, za_400, za_401, zb_738, za_739, za_740, za_741, za_742, za_743, za_744, za_745, za_746, za_747, zb_748, za_749, za_750, zb_751, zb_752, za_753, za_754, za_755, za_756, zb_757, za_758, za_759, za_760, zb_761, za_763, za_764, za_765, true_and, and_true, Nat.reduceAdd]
    refine h24 _ _ _ ?_
    simp only [bX11_play_24, zw_0, zw_1, zs_istore4, zs_iloadn2, zs_ifeq, zs_iconst, zs_goto, zc_none, zc_int, zc_ref, zc_null, zc_long, zb_15, zb_16, zb_17, za_18, za_19, za_20, za_21, za_22, zb_23, za_24, za_25, za_26, za_27, za_28, za_29, za_30, za_31, za_32, zb_35, za_36, za_37, za_38, za_39, za_40, zb_377, zb_378, za_379, za_380, za_381, za_382, za_383, zb_384, za_385, za_386, za_387, za_388, za_389, za_390, za_391, za_392, za_393, zb_396, za_397, za_398, za_399, za_400, za_401, zb_738, za_739, za_740, za_741, za_742, za_743, za_744, za_745, za_746, za_747, zb_748, za_749, za_750, zb_751, zb_752, za_753, za_754, za_755, za_756, zb_757, za_758, za_759, za_760, zb_761, za_763, za_764, za_765, true_and, and_true, Nat.reduceAdd]
    refine ⟨fun _ => ?_, fun h => absurd hl h⟩
    refine h34 _ _ _ ?_
    simp only [bX11_play_34, zw_0, zw_1, zs_bipush, zb_15, zb_16, zb_17, za_18, za_19, za_20, za_21, za_22, zb_23, za_24, za_25, za_26, za_27, za_28, za_29, za_30, za_31, za_32, zb_35, za_36, za_37, za_38, za_39, za_40, zb_377, zb_378, za_379, za_380, za_381, za_382, za_383, zb_384, za_385, za_386, za_387, za_388, za_389, za_390, za_391, za_392, za_393, zb_396, za_397, za_398, za_399, za_400, za_401, zb_738, za_739, za_740, za_741, za_742, za_743, za_744, za_745, za_746, za_747, zb_748, za_749, za_750, zb_751, zb_752, za_753, za_754, za_755, za_756, zb_757, za_758, za_759, za_760, zb_761, za_763, za_764, za_765, true_and, and_true, Nat.reduceAdd]
    exact fire _ _ (by simp only [zl_pl]; rw [if_pos hl])
  · refine h24 _ _ _ ?_
    simp only [bX11_play_24, zw_0, zw_1, zs_istore4, zs_iloadn2, zs_ifeq, zs_iconst, zs_goto, zc_none, zc_int, zc_ref, zc_null, zc_long, zb_15, zb_16, zb_17, za_18, za_19, za_20, za_21, za_22, zb_23, za_24, za_25, za_26, za_27, za_28, za_29, za_30, za_31, za_32, zb_35, za_36, za_37, za_38, za_39, za_40, zb_377, zb_378, za_379, za_380, za_381, za_382, za_383, zb_384, za_385, za_386, za_387, za_388, za_389, za_390, za_391, za_392, za_393, zb_396, za_397, za_398, za_399, za_400, za_401, zb_738, za_739, za_740, za_741, za_742, za_743, za_744, za_745, za_746, za_747, zb_748, za_749, za_750, zb_751, zb_752, za_753, za_754, za_755, za_756, zb_757, za_758, za_759, za_760, zb_761, za_763, za_764, za_765, true_and, and_true, Nat.reduceAdd]
    exact ⟨fun h => absurd h hl, fun _ => fire _ _ (by simp only [zl_pl]; rw [if_neg hl])⟩
/-! the least of a row, the first one -/
def zl_lt (o : Int32) (b : Option (Nat × Int32)) : Bool := match b with
  | none => true
  | some p => decide (o < p.2)
def zl_mn (f : Nat → Int32) : Nat → Option (Nat × Int32)
  | 0 => none
  | k + 1 => if zl_lt (f k) (zl_mn f k) = true then some (k, f k) else zl_mn f k
def zl_mk (b : Option (Nat × Int32)) : Int32 := match b with
  | none => -1
  | some p => nI p.1
def zl_mo (b : Option (Nat × Int32)) (i : Int32) : Int32 := match b with
  | none => i
  | some p => p.2
theorem zl_mn_c {f g : Nat → Int32} : ∀ k, (∀ i, i < k → f i = g i) → zl_mn f k = zl_mn g k := by
  intro k
  induction k with
  | zero => intro _; rfl
  | succ k ih => intro h; simp only [zl_mn]; rw [ih (fun i hi => h i (by omega)), h k (by omega)]
theorem zl_mcmp {o i : Int32} {b : Option (Nat × Int32)} (ho : o < i) : (o < zl_mo b i) ↔ zl_lt o b = true := by
  cases b with
  | none => exact ⟨fun _ => rfl, fun _ => ho⟩
  | some p => show o < p.2 ↔ decide (o < p.2) = true; simp
theorem zt_rk_le {n : Nat} {b : Nat → Int32} (h : zt_wf n b) : ∀ p, p < n → zt_rk b p ≤ p := by
  intro p
  induction p using Nat.strongRecOn with
  | _ p ih =>
    intro hp
    rcases h.at hp with e | ⟨j, h1, h2, e⟩
    · rw [zt_rk_none e]; omega
    · rw [zt_rk_boss h hp h1 e]
      have := ih j h1 h2
      omega
theorem zt_mt_le {n : Nat} {b : Nat → Int32} (h : zt_wf n b) {q : Nat} : ∀ f p, p < n → zt_mtf b f p q ≤ p := by
  intro f
  induction f with
  | zero => intro p hp; simp [zt_mtf]
  | succ f ih =>
    intro p hp
    simp only [zt_mtf]
    split
    · exact Nat.le_refl _
    · rcases h.at hp with e | ⟨j, h1, h2, e⟩
      · rw [e]
        have : (-1 : Int32).toNatClampNeg = 0 := by decide
        rw [this]
        exact Nat.le_trans (ih 0 (by omega)) (by omega)
      · have := h.1
        rw [e, nI_clamp (by omega)]
        exact Nat.le_trans (ih j h2) (by omega)
/-- steps are few -/
theorem zt_ds_bd {n : Nat} {b : Nat → Int32} (h : zt_wf n b) {p q : Nat} (hp : p < n) (hq : q < n) : -20 ≤ (zt_ds b p q).toInt ∧ (zt_ds b p q).toInt ≤ 20 := by
  have hn := h.1
  have h1 := zt_rk_le h p hp
  have h2 := zt_rk_le h q hq
  have h4 : zt_mt b p q ≤ p := zt_mt_le h _ p hp
  have h3 := zt_rk_le h (zt_mt b p q) (by omega)
  unfold zt_ds
  generalize zt_rk b p = x at *
  generalize zt_rk b q = y at *
  generalize zt_rk b (zt_mt b p q) = z at *
  have e : nI x + nI y - 2 * nI z = nI (x + y) - nI (2 * z) := by rw [nI_add, ← pk_mul]; rfl
  rw [e, pk_sub_toInt (by omega) (by omega)]
  omega
theorem zc_s_bd (f : Nat → Int32) : ∀ k, k ≤ 10 → (∀ i, i < k → -20 ≤ (f i).toInt ∧ (f i).toInt ≤ 20) → -20 * (k : Int) ≤ (zc_s f k).toInt ∧ (zc_s f k).toInt ≤ 20 * (k : Int) := by
  intro k
  induction k with
  | zero => intro _ _; show -20 * 0 ≤ (0 : Int32).toInt ∧ (0 : Int32).toInt ≤ 20 * 0; decide
  | succ k ih =>
    intro hk h
    obtain ⟨a, b⟩ := ih (by omega) (fun i hi => h i (by omega))
    obtain ⟨c, e⟩ := h k (by omega)
    simp only [zc_s]
    rw [Int32.toInt_add, Int.bmod_eq_of_le (by omega) (by omega)]
    omega
def zt_sum (b : Nat → Int32) (n p : Nat) : Int32 := zc_s (zt_ds b p) n
theorem zt_sum_lt {n : Nat} {b : Nat → Int32} (h : zt_wf n b) {p : Nat} (hp : p < n) : zt_sum b n p < 1048576 ∧ zt_sum b n p < 1000000000 := by
  have hn := h.1
  obtain ⟨_, h2⟩ := zc_s_bd (zt_ds b p) n hn (fun i hi => zt_ds_bd h hp hi)
  have e1 : (1048576 : Int32).toInt = 1048576 := by decide
  have e2 : (1000000000 : Int32).toInt = 1000000000 := by decide
  constructor
  · rw [Int32.lt_iff_toInt_lt, e1]; unfold zt_sum; omega
  · rw [Int32.lt_iff_toInt_lt, e2]; unfold zt_sum; omega
theorem c_middle {E : zm_E} (hE : zm_ok E.2.2.1 E.2.2.2.2) (d : Nat) {n : Nat} {M : zm_M} (hw : zt_wf n (fun i => M.1 1 (90 + i))) (hc : M.1 1 0 = nI n) : zm_R E (d + 5) mX12_middle [.ref 0] M (fun r M' => r = some (.int (zl_mk (zl_mn (zt_sum (fun i => M.1 1 (90 + i)) n) n))) ∧ M' = M) := by
  refine zX12_middle hE rfl (fun G h0 h8 h24 h53 h62 h67 h73 => ?_)
  show G 0 [some (.ref 0), none, none, none, none, none] [] M
  have hn := hw.1
  obtain ⟨b, hb⟩ : ∃ b, b = (fun i => M.1 1 (90 + i)) := ⟨_, rfl⟩
  have loop : ∀ (f k : Nat) (l4 l5 : Option Value), k + f = n → G 8 [some (.ref 0), some (.int (zl_mk (zl_mn (zt_sum b n) k))), some (.int (zl_mo (zl_mn (zt_sum b n) k) 1000000000)), some (.int (nI k)), l4, l5] [] M := by
    intro f
    induction f with
    | zero =>
      intro k l4 l5 hk
      have hk : k = n := by omega
      subst hk
      refine h8 _ _ _ ?_
      simp only [bX12_middle_8, zw_0, zw_1, zs_iloadn3, zs_aloadn0, zs_aloadNn0, zg_12_7, zs_iconst, zs_iaload, zs_icge, zs_istore4, zs_istore5, zc_none, zc_int, zc_ref, zc_null, zc_long, zb_0, za_1, za_2, za_3, za_4, za_5, za_6, za_7, za_8, za_9, za_10, za_11, za_12, za_13, za_14, zu_0, zu_1, zu_2, zu_3, zu_4, zu_5, zu_6, zu_7, zu_8, zu_9, zu_10, zu_11, zu_12, zu_13, zu_14, zu_15, zu_16, zu_17, zu_18, zu_19, zu_20, zu_21, zu_22, zu_23, zu_24, zu_25, zu_26, zu_27, zu_28, zu_29, zu_30, zu_90, zv_0_9, zv_1_9, zv_2_9, zv_3_9, zv_4_9, zv_5_9, zv_6_9, zv_7_9, zv_8_9, zv_0_330, zv_0_4544, zv_1_4544, zv_2_4544, zv_3_4544, zv_4_4544, zv_5_4544, zv_6_4544, zv_7_4544, zv_8_4544, zv_9_4544, zv_10_4544, zv_11_4544, zv_12_4544, zv_13_4544, zv_14_4544, zv_15_4544, zv_16_4544, zv_17_4544, zv_18_4544, zv_19_4544, zv_20_4544, zv_21_4544, zv_22_4544, zv_23_4544, zv_24_4544, zv_25_4544, zv_26_4544, zv_27_4544, zv_28_4544, zv_29_4544, zv_0_11, zv_1_11, zv_0_160, true_and, and_true, Nat.reduceAdd, hc]
      refine ⟨fun _ => ?_, fun h => absurd (nI_le (Nat.le_refl _) (by omega)) h⟩
      refine h73 _ _ _ ?_
      simp only [bX12_middle_73, zw_0, zw_1, zs_iloadn1, zs_ireturn, zn_int, zn_b0, zn_b1, zb_0, za_1, za_2, za_3, za_4, za_5, za_6, za_7, za_8, za_9, za_10, za_11, za_12, za_13, za_14, true_and, and_true, Nat.reduceAdd, hb]
    | succ f ih =>
      intro k l4 l5 hk
      have next : ∀ s l4 l5, s = zl_mn (zt_sum b n) (k + 1) → G 67 [some (.ref 0), some (.int (zl_mk s)), some (.int (zl_mo s 1000000000)), some (.int (nI k)), l4, l5] [] M := by
        intro s l4 l5 hs
        refine h67 _ _ _ ?_
        simp only [bX12_middle_67, zw_0, zw_1, zs_iinc3, zs_goto, zc_none, zc_int, zc_ref, zc_null, zc_long, zb_0, za_1, za_2, za_3, za_4, za_5, za_6, za_7, za_8, za_9, za_10, za_11, za_12, za_13, za_14, true_and, and_true, Nat.reduceAdd]
        rw [hs, nI_1]
        exact ih (k + 1) l4 l5 (by omega)
      have hlt := zl_mcmp (b := zl_mn (zt_sum b n) k) (zt_sum_lt (b := b) (hb ▸ hw) (show k < n by omega)).2
      have inner : ∀ (g e : Nat), e + g = n → G 24 [some (.ref 0), some (.int (zl_mk (zl_mn (zt_sum b n) k))), some (.int (zl_mo (zl_mn (zt_sum b n) k) 1000000000)), some (.int (nI k)), some (.int (zc_s (zt_ds b k) e)), some (.int (nI e))] [] M := by
        intro g
        induction g with
        | zero =>
          intro e he
          have he : e = n := by omega
          subst he
          refine h24 _ _ _ ?_
          simp only [bX12_middle_24, zw_0, zw_1, zs_iload5, zs_aloadn0, zs_aloadNn0, zg_12_7, zs_iconst, zs_iaload, zs_icge, zs_iload4, zs_iloadn3, zi_12_414, zs_iadd, zs_istore4, zs_iinc5, zs_goto, zc_none, zc_int, zc_ref, zc_null, zc_long, zh_0, zh_1, zh_2, zh_3, zh_4, zt_i, zt_l, zt_r, zt_n, zb_0, za_1, za_2, za_3, za_4, za_5, za_6, za_7, za_8, za_9, za_10, za_11, za_12, za_13, za_14, zu_0, zu_1, zu_2, zu_3, zu_4, zu_5, zu_6, zu_7, zu_8, zu_9, zu_10, zu_11, zu_12, zu_13, zu_14, zu_15, zu_16, zu_17, zu_18, zu_19, zu_20, zu_21, zu_22, zu_23, zu_24, zu_25, zu_26, zu_27, zu_28, zu_29, zu_30, zu_90, zv_0_9, zv_1_9, zv_2_9, zv_3_9, zv_4_9, zv_5_9, zv_6_9, zv_7_9, zv_8_9, zv_0_330, zv_0_4544, zv_1_4544, zv_2_4544, zv_3_4544, zv_4_4544, zv_5_4544, zv_6_4544, zv_7_4544, zv_8_4544, zv_9_4544, zv_10_4544, zv_11_4544, zv_12_4544, zv_13_4544, zv_14_4544, zv_15_4544, zv_16_4544, zv_17_4544, zv_18_4544, zv_19_4544, zv_20_4544, zv_21_4544, zv_22_4544, zv_23_4544, zv_24_4544, zv_25_4544, zv_26_4544, zv_27_4544, zv_28_4544, zv_29_4544, zv_0_11, zv_1_11, zv_0_160, true_and, and_true, Nat.reduceAdd, hc]
          refine ⟨fun _ => ?_, fun h => absurd (nI_le (Nat.le_refl _) (by omega)) h⟩
          refine h53 _ _ _ ?_
          simp only [bX12_middle_53, zw_0, zw_1, zs_iload4, zs_iloadn2, zs_iclt, zs_goto, zb_0, za_1, za_2, za_3, za_4, za_5, za_6, za_7, za_8, za_9, za_10, za_11, za_12, za_13, za_14, true_and, and_true, Nat.reduceAdd]
          refine ⟨fun h => ?_, fun h => next _ _ _ (by simp only [zl_mn]; rw [if_neg (fun z => h (hlt.mpr z))])⟩
          refine h62 _ _ _ ?_
          simp only [bX12_middle_62, zw_0, zw_1, zs_iload4, zs_istoren2, zs_iloadn3, zs_istoren1, zc_none, zc_int, zc_ref, zc_null, zc_long, zb_0, za_1, za_2, za_3, za_4, za_5, za_6, za_7, za_8, za_9, za_10, za_11, za_12, za_13, za_14, true_and, and_true, Nat.reduceAdd]
          exact next (some (k, zt_sum b e k)) _ _ (by simp only [zl_mn]; rw [if_pos (hlt.mp h)])
        | succ g ihg =>
          intro e he
          refine h24 _ _ _ ?_
          simp only [bX12_middle_24, zw_0, zw_1, zs_iload5, zs_aloadn0, zs_aloadNn0, zg_12_7, zs_iconst, zs_iaload, zs_icge, zs_iload4, zs_iloadn3, zi_12_414, zs_iadd, zs_istore4, zs_iinc5, zs_goto, zc_none, zc_int, zc_ref, zc_null, zc_long, zh_0, zh_1, zh_2, zh_3, zh_4, zt_i, zt_l, zt_r, zt_n, zb_0, za_1, za_2, za_3, za_4, za_5, za_6, za_7, za_8, za_9, za_10, za_11, za_12, za_13, za_14, zu_0, zu_1, zu_2, zu_3, zu_4, zu_5, zu_6, zu_7, zu_8, zu_9, zu_10, zu_11, zu_12, zu_13, zu_14, zu_15, zu_16, zu_17, zu_18, zu_19, zu_20, zu_21, zu_22, zu_23, zu_24, zu_25, zu_26, zu_27, zu_28, zu_29, zu_30, zu_90, zv_0_9, zv_1_9, zv_2_9, zv_3_9, zv_4_9, zv_5_9, zv_6_9, zv_7_9, zv_8_9, zv_0_330, zv_0_4544, zv_1_4544, zv_2_4544, zv_3_4544, zv_4_4544, zv_5_4544, zv_6_4544, zv_7_4544, zv_8_4544, zv_9_4544, zv_10_4544, zv_11_4544, zv_12_4544, zv_13_4544, zv_14_4544, zv_15_4544, zv_16_4544, zv_17_4544, zv_18_4544, zv_19_4544, zv_20_4544, zv_21_4544, zv_22_4544, zv_23_4544, zv_24_4544, zv_25_4544, zv_26_4544, zv_27_4544, zv_28_4544, zv_29_4544, zv_0_11, zv_1_11, zv_0_160, true_and, and_true, Nat.reduceAdd, hc]
          refine ⟨fun h => absurd h (nI_ge (by omega) (by omega)), fun _ => ?_⟩
          refine zm_R_eq (c_stepsOf hE d hw hc (show k < n by omega) (show e < n by omega)) ?_
          rw [← hb]
          simp only [bX12_middle_24, zw_0, zw_1, zs_iload5, zs_aloadn0, zs_aloadNn0, zg_12_7, zs_iconst, zs_iaload, zs_icge, zs_iload4, zs_iloadn3, zi_12_414, zs_iadd, zs_istore4, zs_iinc5, zs_goto, zc_none, zc_int, zc_ref, zc_null, zc_long, zh_0, zh_1, zh_2, zh_3, zh_4, zt_i, zt_l, zt_r, zt_n, zb_0, za_1, za_2, za_3, za_4, za_5, za_6, za_7, za_8, za_9, za_10, za_11, za_12, za_13, za_14, zu_0, zu_1, zu_2, zu_3, zu_4, zu_5, zu_6, zu_7, zu_8, zu_9, zu_10, zu_11, zu_12, zu_13, zu_14, zu_15, zu_16, zu_17, zu_18, zu_19, zu_20, zu_21, zu_22, zu_23, zu_24, zu_25, zu_26, zu_27, zu_28, zu_29, zu_30, zu_90, zv_0_9, zv_1_9, zv_2_9, zv_3_9, zv_4_9, zv_5_9, zv_6_9, zv_7_9, zv_8_9, zv_0_330, zv_0_4544, zv_1_4544, zv_2_4544, zv_3_4544, zv_4_4544, zv_5_4544, zv_6_4544, zv_7_4544, zv_8_4544, zv_9_4544, zv_10_4544, zv_11_4544, zv_12_4544, zv_13_4544, zv_14_4544, zv_15_4544, zv_16_4544, zv_17_4544, zv_18_4544, zv_19_4544, zv_20_4544, zv_21_4544, zv_22_4544, zv_23_4544, zv_24_4544, zv_25_4544, zv_26_4544, zv_27_4544, zv_28_4544, zv_29_4544, zv_0_11, zv_1_11, zv_0_160, true_and, and_true, Nat.reduceAdd]
          rw [nI_1]
          exact ihg (e + 1) (by omega)
      refine h8 _ _ _ ?_
      simp only [bX12_middle_8, zw_0, zw_1, zs_iloadn3, zs_aloadn0, zs_aloadNn0, zg_12_7, zs_iconst, zs_iaload, zs_icge, zs_istore4, zs_istore5, zc_none, zc_int, zc_ref, zc_null, zc_long, zb_0, za_1, za_2, za_3, za_4, za_5, za_6, za_7, za_8, za_9, za_10, za_11, za_12, za_13, za_14, zu_0, zu_1, zu_2, zu_3, zu_4, zu_5, zu_6, zu_7, zu_8, zu_9, zu_10, zu_11, zu_12, zu_13, zu_14, zu_15, zu_16, zu_17, zu_18, zu_19, zu_20, zu_21, zu_22, zu_23, zu_24, zu_25, zu_26, zu_27, zu_28, zu_29, zu_30, zu_90, zv_0_9, zv_1_9, zv_2_9, zv_3_9, zv_4_9, zv_5_9, zv_6_9, zv_7_9, zv_8_9, zv_0_330, zv_0_4544, zv_1_4544, zv_2_4544, zv_3_4544, zv_4_4544, zv_5_4544, zv_6_4544, zv_7_4544, zv_8_4544, zv_9_4544, zv_10_4544, zv_11_4544, zv_12_4544, zv_13_4544, zv_14_4544, zv_15_4544, zv_16_4544, zv_17_4544, zv_18_4544, zv_19_4544, zv_20_4544, zv_21_4544, zv_22_4544, zv_23_4544, zv_24_4544, zv_25_4544, zv_26_4544, zv_27_4544, zv_28_4544, zv_29_4544, zv_0_11, zv_1_11, zv_0_160, true_and, and_true, Nat.reduceAdd, hc]
      exact ⟨fun h => absurd h (nI_ge (by omega) (by omega)), fun _ => inner n 0 (by omega)⟩
  refine h0 _ _ _ ?_
  simp only [bX12_middle_0, zw_0, zw_1, zs_iconst, zs_istoren1, zdw_12_417, zs_istoren2, zs_istoren3, zc_none, zc_int, zc_ref, zc_null, zc_long, zb_0, za_1, za_2, za_3, za_4, za_5, za_6, za_7, za_8, za_9, za_10, za_11, za_12, za_13, za_14, true_and, and_true, Nat.reduceAdd]
  exact loop n 0 none none (by omega)
theorem c8_nearestToAll {E : zm_E} (hE : zm_ok E.2.2.1 E.2.2.2.2) (d : Nat) {n : Nat} {M : zm_M} (hw : zs_rk n M) (hc : M.1 17 0 = nI n) : zm_R E (d + 4) mX8_nearestToAll [.ref 752] M (fun r M' => r = some (.int (zl_mk (zl_mn (zt_sum (M.1 18) n) n))) ∧ M' = M) := by
  refine zX8_nearestToAll hE rfl (fun G h0 h7 h24 h57 h68 h74 => ?_)
  show G 0 [some (.ref 752), none, none, none, none, none] [] M
  have hn := hw.1.1
  have loop : ∀ (f k : Nat) (l4 l5 : Option Value), k + f = n → G 7 [some (.ref 752), some (.int (zl_mk (zl_mn (zt_sum (M.1 18) n) k))), some (.int (zl_mo (zl_mn (zt_sum (M.1 18) n) k) 1048576)), some (.int (nI k)), l4, l5] [] M := by
    intro f
    induction f with
    | zero =>
      intro k l4 l5 hk
      have hk : k = n := by omega
      subst hk
      refine h7 _ _ _ ?_
      simp only [bX8_nearestToAll_7, zw_0, zw_1, zs_iloadn3, zs_aloadn0, zs_aloadNn0, zg_8_24, zg_8_34, zs_icge, zs_iconst, zs_istore4, zs_istore5, zc_none, zc_int, zc_ref, zc_null, zc_long, zb_15, zb_16, zb_17, za_18, za_19, za_20, za_21, za_22, zb_23, za_24, za_25, za_26, za_27, za_28, za_29, za_30, za_31, za_32, zb_35, za_36, za_37, za_38, za_39, za_40, zb_377, zb_378, za_379, za_380, za_381, za_382, za_383, zb_384, za_385, za_386, za_387, za_388, za_389, za_390, za_391, za_392, za_393, zb_396, za_397, za_398, za_399, za_400, za_401, zb_738, za_739, za_740, za_741, za_742, za_743, za_744, za_745, za_746, za_747, zb_748, za_749, za_750, zb_751, zb_752, za_753, za_754, za_755, za_756, zb_757, za_758, za_759, za_760, zb_761, za_763, za_764, za_765, true_and, and_true, Nat.reduceAdd, hc]
      refine ⟨fun _ => ?_, fun h => absurd (nI_le (Nat.le_refl _) (by omega)) h⟩
      refine h74 _ _ _ ?_
      simp only [bX8_nearestToAll_74, zw_0, zw_1, zs_iloadn1, zs_ireturn, zn_int, zn_b0, zn_b1, zb_15, zb_16, zb_17, za_18, za_19, za_20, za_21, za_22, zb_23, za_24, za_25, za_26, za_27, za_28, za_29, za_30, za_31, za_32, zb_35, za_36, za_37, za_38, za_39, za_40, zb_377, zb_378, za_379, za_380, za_381, za_382, za_383, zb_384, za_385, za_386, za_387, za_388, za_389, za_390, za_391, za_392, za_393, zb_396, za_397, za_398, za_399, za_400, za_401, zb_738, za_739, za_740, za_741, za_742, za_743, za_744, za_745, za_746, za_747, zb_748, za_749, za_750, zb_751, zb_752, za_753, za_754, za_755, za_756, zb_757, za_758, za_759, za_760, zb_761, za_763, za_764, za_765, true_and, and_true, Nat.reduceAdd]
    | succ f ih =>
      intro k l4 l5 hk
      have next : ∀ s l4 l5, s = zl_mn (zt_sum (M.1 18) n) (k + 1) → G 68 [some (.ref 752), some (.int (zl_mk s)), some (.int (zl_mo s 1048576)), some (.int (nI k)), l4, l5] [] M := by
        intro s l4 l5 hs
        refine h68 _ _ _ ?_
        simp only [bX8_nearestToAll_68, zw_0, zw_1, zs_iinc3, zs_goto, zc_none, zc_int, zc_ref, zc_null, zc_long, zb_15, zb_16, zb_17, za_18, za_19, za_20, za_21, za_22, zb_23, za_24, za_25, za_26, za_27, za_28, za_29, za_30, za_31, za_32, zb_35, za_36, za_37, za_38, za_39, za_40, zb_377, zb_378, za_379, za_380, za_381, za_382, za_383, zb_384, za_385, za_386, za_387, za_388, za_389, za_390, za_391, za_392, za_393, zb_396, za_397, za_398, za_399, za_400, za_401, zb_738, za_739, za_740, za_741, za_742, za_743, za_744, za_745, za_746, za_747, zb_748, za_749, za_750, zb_751, zb_752, za_753, za_754, za_755, za_756, zb_757, za_758, za_759, za_760, zb_761, za_763, za_764, za_765, true_and, and_true, Nat.reduceAdd]
        rw [hs, nI_1]
        exact ih (k + 1) l4 l5 (by omega)
      have hlt := zl_mcmp (b := zl_mn (zt_sum (M.1 18) n) k) (zt_sum_lt hw.1 (show k < n by omega)).1
      have inner : ∀ (g e : Nat), e + g = n → G 24 [some (.ref 752), some (.int (zl_mk (zl_mn (zt_sum (M.1 18) n) k))), some (.int (zl_mo (zl_mn (zt_sum (M.1 18) n) k) 1048576)), some (.int (nI k)), some (.int (zc_s (zt_ds (M.1 18) k) e)), some (.int (nI e))] [] M := by
        intro g
        induction g with
        | zero =>
          intro e he
          have he : e = n := by omega
          subst he
          refine h24 _ _ _ ?_
          simp only [bX8_nearestToAll_24, zw_0, zw_1, zs_iload5, zs_aloadn0, zs_aloadNn0, zg_8_24, zg_8_34, zs_icge, zs_iload4, zs_iloadn3, zi_8_66, zs_iadd, zs_istore4, zs_iinc5, zs_goto, zc_none, zc_int, zc_ref, zc_null, zc_long, zh_0, zh_1, zh_2, zh_3, zh_4, zt_i, zt_l, zt_r, zt_n, zb_15, zb_16, zb_17, za_18, za_19, za_20, za_21, za_22, zb_23, za_24, za_25, za_26, za_27, za_28, za_29, za_30, za_31, za_32, zb_35, za_36, za_37, za_38, za_39, za_40, zb_377, zb_378, za_379, za_380, za_381, za_382, za_383, zb_384, za_385, za_386, za_387, za_388, za_389, za_390, za_391, za_392, za_393, zb_396, za_397, za_398, za_399, za_400, za_401, zb_738, za_739, za_740, za_741, za_742, za_743, za_744, za_745, za_746, za_747, zb_748, za_749, za_750, zb_751, zb_752, za_753, za_754, za_755, za_756, zb_757, za_758, za_759, za_760, zb_761, za_763, za_764, za_765, true_and, and_true, Nat.reduceAdd, hc]
          refine ⟨fun _ => ?_, fun h => absurd (nI_le (Nat.le_refl _) (by omega)) h⟩
          refine h57 _ _ _ ?_
          simp only [bX8_nearestToAll_57, zw_0, zw_1, zs_iload4, zs_iloadn2, zs_icge, zs_istoren2, zs_iloadn3, zs_istoren1, zc_none, zc_int, zc_ref, zc_null, zc_long, zb_15, zb_16, zb_17, za_18, za_19, za_20, za_21, za_22, zb_23, za_24, za_25, za_26, za_27, za_28, za_29, za_30, za_31, za_32, zb_35, za_36, za_37, za_38, za_39, za_40, zb_377, zb_378, za_379, za_380, za_381, za_382, za_383, zb_384, za_385, za_386, za_387, za_388, za_389, za_390, za_391, za_392, za_393, zb_396, za_397, za_398, za_399, za_400, za_401, zb_738, za_739, za_740, za_741, za_742, za_743, za_744, za_745, za_746, za_747, zb_748, za_749, za_750, zb_751, zb_752, za_753, za_754, za_755, za_756, zb_757, za_758, za_759, za_760, zb_761, za_763, za_764, za_765, true_and, and_true, Nat.reduceAdd]
          exact ⟨fun h => next _ _ _ (by simp only [zl_mn]; rw [if_neg (fun z => Int32.not_lt.mpr h (hlt.mpr z))]), fun h => next (some (k, zt_sum (M.1 18) e k)) _ _ (by simp only [zl_mn]; rw [if_pos (hlt.mp (Int32.not_le.mp h))])⟩
        | succ g ihg =>
          intro e he
          refine h24 _ _ _ ?_
          simp only [bX8_nearestToAll_24, zw_0, zw_1, zs_iload5, zs_aloadn0, zs_aloadNn0, zg_8_24, zg_8_34, zs_icge, zs_iload4, zs_iloadn3, zi_8_66, zs_iadd, zs_istore4, zs_iinc5, zs_goto, zc_none, zc_int, zc_ref, zc_null, zc_long, zh_0, zh_1, zh_2, zh_3, zh_4, zt_i, zt_l, zt_r, zt_n, zb_15, zb_16, zb_17, za_18, za_19, za_20, za_21, za_22, zb_23, za_24, za_25, za_26, za_27, za_28, za_29, za_30, za_31, za_32, zb_35, za_36, za_37, za_38, za_39, za_40, zb_377, zb_378, za_379, za_380, za_381, za_382, za_383, zb_384, za_385, za_386, za_387, za_388, za_389, za_390, za_391, za_392, za_393, zb_396, za_397, za_398, za_399, za_400, za_401, zb_738, za_739, za_740, za_741, za_742, za_743, za_744, za_745, za_746, za_747, zb_748, za_749, za_750, zb_751, zb_752, za_753, za_754, za_755, za_756, zb_757, za_758, za_759, za_760, zb_761, za_763, za_764, za_765, true_and, and_true, Nat.reduceAdd, hc]
          refine ⟨fun h => absurd h (nI_ge (by omega) (by omega)), fun _ => ?_⟩
          refine zm_R_eq (c7_distance hE d hw (show k < n by omega) (show e < n by omega)) ?_
          simp only [bX8_nearestToAll_24, zw_0, zw_1, zs_iload5, zs_aloadn0, zs_aloadNn0, zg_8_24, zg_8_34, zs_icge, zs_iload4, zs_iloadn3, zi_8_66, zs_iadd, zs_istore4, zs_iinc5, zs_goto, zc_none, zc_int, zc_ref, zc_null, zc_long, zh_0, zh_1, zh_2, zh_3, zh_4, zt_i, zt_l, zt_r, zt_n, zb_15, zb_16, zb_17, za_18, za_19, za_20, za_21, za_22, zb_23, za_24, za_25, za_26, za_27, za_28, za_29, za_30, za_31, za_32, zb_35, za_36, za_37, za_38, za_39, za_40, zb_377, zb_378, za_379, za_380, za_381, za_382, za_383, zb_384, za_385, za_386, za_387, za_388, za_389, za_390, za_391, za_392, za_393, zb_396, za_397, za_398, za_399, za_400, za_401, zb_738, za_739, za_740, za_741, za_742, za_743, za_744, za_745, za_746, za_747, zb_748, za_749, za_750, zb_751, zb_752, za_753, za_754, za_755, za_756, zb_757, za_758, za_759, za_760, zb_761, za_763, za_764, za_765, true_and, and_true, Nat.reduceAdd]
          rw [nI_1]
          exact ihg (e + 1) (by omega)
      refine h7 _ _ _ ?_
      simp only [bX8_nearestToAll_7, zw_0, zw_1, zs_iloadn3, zs_aloadn0, zs_aloadNn0, zg_8_24, zg_8_34, zs_icge, zs_iconst, zs_istore4, zs_istore5, zc_none, zc_int, zc_ref, zc_null, zc_long, zb_15, zb_16, zb_17, za_18, za_19, za_20, za_21, za_22, zb_23, za_24, za_25, za_26, za_27, za_28, za_29, za_30, za_31, za_32, zb_35, za_36, za_37, za_38, za_39, za_40, zb_377, zb_378, za_379, za_380, za_381, za_382, za_383, zb_384, za_385, za_386, za_387, za_388, za_389, za_390, za_391, za_392, za_393, zb_396, za_397, za_398, za_399, za_400, za_401, zb_738, za_739, za_740, za_741, za_742, za_743, za_744, za_745, za_746, za_747, zb_748, za_749, za_750, zb_751, zb_752, za_753, za_754, za_755, za_756, zb_757, za_758, za_759, za_760, zb_761, za_763, za_764, za_765, true_and, and_true, Nat.reduceAdd, hc]
      exact ⟨fun h => absurd h (nI_ge (by omega) (by omega)), fun _ => inner n 0 (by omega)⟩
  refine h0 _ _ _ ?_
  simp only [bX8_nearestToAll_0, zw_0, zw_1, zs_iconst, zs_istoren1, zd_8_62, zs_istoren2, zs_istoren3, zc_none, zc_int, zc_ref, zc_null, zc_long, zb_15, zb_16, zb_17, za_18, za_19, za_20, za_21, za_22, zb_23, za_24, za_25, za_26, za_27, za_28, za_29, za_30, za_31, za_32, zb_35, za_36, za_37, za_38, za_39, za_40, zb_377, zb_378, za_379, za_380, za_381, za_382, za_383, zb_384, za_385, za_386, za_387, za_388, za_389, za_390, za_391, za_392, za_393, zb_396, za_397, za_398, za_399, za_400, za_401, zb_738, za_739, za_740, za_741, za_742, za_743, za_744, za_745, za_746, za_747, zb_748, za_749, za_750, zb_751, zb_752, za_753, za_754, za_755, za_756, zb_757, za_758, za_759, za_760, zb_761, za_763, za_764, za_765, true_and, and_true, Nat.reduceAdd]
  exact loop n 0 none none (by omega)
theorem c11_middle {E : zm_E} (hE : zm_ok E.2.2.1 E.2.2.2.2) (d : Nat) {n : Nat} {M : zm_M} (hw : zs_rk n M) (hc : M.1 17 0 = nI n) : zm_R E (d + 5) mX11_middle [.ref 15] M (fun r M' => r = some (.int (zl_mk (zl_mn (zt_sum (M.1 18) n) n))) ∧ M' = M) := by
  refine zX11_middle hE rfl (fun G h0 => ?_)
  show G 0 [some (.ref 15)] [] M
  refine h0 _ _ _ ?_
  simp only [bX11_middle_0, zw_0, zw_1, zs_aloadn0, zs_aloadNn0, zg_11_51, zi_11_343, zs_ireturn, zh_0, zh_1, zh_2, zh_3, zh_4, zt_i, zt_l, zt_r, zt_n, zn_int, zn_b0, zn_b1, zb_15, zb_16, zb_17, za_18, za_19, za_20, za_21, za_22, zb_23, za_24, za_25, za_26, za_27, za_28, za_29, za_30, za_31, za_32, zb_35, za_36, za_37, za_38, za_39, za_40, zb_377, zb_378, za_379, za_380, za_381, za_382, za_383, zb_384, za_385, za_386, za_387, za_388, za_389, za_390, za_391, za_392, za_393, zb_396, za_397, za_398, za_399, za_400, za_401, zb_738, za_739, za_740, za_741, za_742, za_743, za_744, za_745, za_746, za_747, zb_748, za_749, za_750, zb_751, zb_752, za_753, za_754, za_755, za_756, zb_757, za_758, za_759, za_760, zb_761, za_763, za_764, za_765, true_and, and_true, Nat.reduceAdd]
  refine zm_R_eq (c8_nearestToAll hE d hw hc) ?_
  simp only [bX11_middle_0, zw_0, zw_1, zs_aloadn0, zs_aloadNn0, zg_11_51, zi_11_343, zs_ireturn, zh_0, zh_1, zh_2, zh_3, zh_4, zt_i, zt_l, zt_r, zt_n, zn_int, zn_b0, zn_b1, zb_15, zb_16, zb_17, za_18, za_19, za_20, za_21, za_22, zb_23, za_24, za_25, za_26, za_27, za_28, za_29, za_30, za_31, za_32, zb_35, za_36, za_37, za_38, za_39, za_40, zb_377, zb_378, za_379, za_380, za_381, za_382, za_383, zb_384, za_385, za_386, za_387, za_388, za_389, za_390, za_391, za_392, za_393, zb_396, za_397, za_398, za_399, za_400, za_401, zb_738, za_739, za_740, za_741, za_742, za_743, za_744, za_745, za_746, za_747, zb_748, za_749, za_750, zb_751, zb_752, za_753, za_754, za_755, za_756, zb_757, za_758, za_759, za_760, zb_761, za_763, za_764, za_765, true_and, and_true, Nat.reduceAdd]
