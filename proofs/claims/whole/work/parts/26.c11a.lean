/-! ===== the class: officers and cousins told ===== -/
theorem c11_within {E : zm_E} (hE : zm_ok E.2.2.1 E.2.2.2.2) (d : Nat) (v lo hi : Int32) (M : zm_M) : zm_R E (d + 1) mX11_within [.int v, .int lo, .int hi] M (fun r M' => r = some (.int (zi_in v lo hi)) ∧ M' = M) := by
  refine zX11_within hE rfl (fun G h0 h14 h15 => ?_)
  show G 0 [some (.int v), some (.int lo), some (.int hi)] [] M
  repeat' (first | (refine h0 _ _ _ ?_; simp only [bX11_within_0, zw_0, zw_1, zs_iloadn0, zs_iloadn1, zs_iclt, zs_iloadn2, zs_icgt, zs_iconst, zs_goto, zb_15, zb_16, zb_17, za_18, za_19, za_20, za_21, za_22, zb_23, za_24, za_25, za_26, za_27, za_28, za_29, za_30, za_31, za_32, zb_35, za_36, za_37, za_38, za_39, za_40, zb_377, zb_378, za_379, za_380, za_381, za_382, za_383, zb_384, za_385, za_386, za_387, za_388, za_389, za_390, za_391, za_392, za_393, zb_396, za_397, za_398, za_399, za_400, za_401, zb_738, za_739, za_740, za_741, za_742, za_743, za_744, za_745, za_746, za_747, zb_748, za_749, za_750, zb_751, zb_752, za_753, za_754, za_755, za_756, zb_757, za_758, za_759, za_760, zb_761, za_763, za_764, za_765, true_and, and_true, Nat.reduceAdd]) | (refine h14 _ _ _ ?_; simp only [bX11_within_14, zw_0, zw_1, zs_iconst, zb_15, zb_16, zb_17, za_18, za_19, za_20, za_21, za_22, zb_23, za_24, za_25, za_26, za_27, za_28, za_29, za_30, za_31, za_32, zb_35, za_36, za_37, za_38, za_39, za_40, zb_377, zb_378, za_379, za_380, za_381, za_382, za_383, zb_384, za_385, za_386, za_387, za_388, za_389, za_390, za_391, za_392, za_393, zb_396, za_397, za_398, za_399, za_400, za_401, zb_738, za_739, za_740, za_741, za_742, za_743, za_744, za_745, za_746, za_747, zb_748, za_749, za_750, zb_751, zb_752, za_753, za_754, za_755, za_756, zb_757, za_758, za_759, za_760, zb_761, za_763, za_764, za_765, true_and, and_true, Nat.reduceAdd]) | (refine h15 _ _ _ ?_; simp only [bX11_within_15, zw_0, zw_1, zs_ireturn, zn_int, zn_b0, zn_b1, zb_15, zb_16, zb_17, za_18, za_19, za_20, za_21, za_22, zb_23, za_24, za_25, za_26, za_27, za_28, za_29, za_30, za_31, za_32, zb_35, za_36, za_37, za_38, za_39, za_40, zb_377, zb_378, za_379, za_380, za_381, za_382, za_383, zb_384, za_385, za_386, za_387, za_388, za_389, za_390, za_391, za_392, za_393, zb_396, za_397, za_398, za_399, za_400, za_401, zb_738, za_739, za_740, za_741, za_742, za_743, za_744, za_745, za_746, za_747, zb_748, za_749, za_750, zb_751, zb_752, za_753, za_754, za_755, za_756, zb_757, za_758, za_759, za_760, zb_761, za_763, za_764, za_765, true_and, and_true, Nat.reduceAdd]) | apply And.intro | intro _ | rfl)
  all_goals simp [zi_in, *]
theorem zi_b1 (x : Bool) : (¬ zi_b x = 0) = (x = true) := by cases x <;> simp [zi_b]
theorem zm_wi_same (M : zm_M) (p k : Nat) (v : Int32) (j : Nat) : (zm_wi M p k v).1 p j = if j = k then v else M.1 p j := by
  simp only [zm_wi, zm_wa, if_true, upd]
theorem zm_wi_other {M : zm_M} {p q k : Nat} {v : Int32} (h : q ≠ p) : (zm_wi M p k v).1 q = M.1 q := by
  simp only [zm_wi, zm_wa, if_neg h]
/-- an officer is laid down: the rank that is written -/
def zs_told (M : zm_M) (n : Nat) (bs pr : Int32) : zm_M := zm_wi (zm_wi (zm_wi (zm_wi (zm_wi (zm_wi M 18 n bs) 19 n pr) 20 n (if zo_is n bs then M.1 20 bs.toNatClampNeg + 1 else 0)) 21 n 0) 22 n 1) 17 0 (nI (n + 1))
theorem c7_tell {E : zm_E} (hE : zm_ok E.2.2.1 E.2.2.2.2) (d : Nat) {n : Nat} (hn : n < 10) (bs pr : Int32) {M : zm_M} (hc : M.1 17 0 = nI n) {Q : Option Value → zm_M → Prop} (q : Q (some (.int (nI n))) (zs_told M n bs pr)) : zm_R E (d + 2) mX7_tell [.ref 17, .int bs, .int pr] M Q := by
  refine zX7_tell hE rfl (fun G h0 h11 h58 h59 => ?_)
  show G 0 [some (.ref 17), some (.int bs), some (.int pr)] [] M
  have i1 : vp_in (nI n) 10 := vp_in_nI hn (by decide)
  have i2 : (nI n).toNatClampNeg = n := nI_clamp (by omega)
  have k59 : ∀ v, v = (if zo_is n bs then M.1 20 bs.toNatClampNeg + 1 else 0) → G 59 [some (.ref 17), some (.int bs), some (.int pr)] [.int v, .int (nI n), .ref 20] (zm_wi (zm_wi M 18 n bs) 19 n pr) := by
    intro v hv
    have e1 : (zm_wi (zm_wi (zm_wi M 18 n bs) 19 n pr) 20 n v).1 17 0 = nI n := hc
    have e2 : (zm_wi (zm_wi (zm_wi (zm_wi M 18 n bs) 19 n pr) 20 n v) 21 n 0).1 17 0 = nI n := hc
    have e3 : (zm_wi (zm_wi (zm_wi (zm_wi (zm_wi M 18 n bs) 19 n pr) 20 n v) 21 n 0) 22 n 1).1 17 0 = nI n := hc
    refine h59 _ _ _ ?_
    simp only [bX7_tell_59, zw_0, zw_1, zs_iastore, zs_aloadn0, zs_aloadNn0, zg_7_25, zg_7_9, zs_iconst, zg_7_28, zs_dupi, zs_dupr, zs_dupn, zs_iadd, zq_7_9, zs_isub, zs_ireturn, zn_int, zn_b0, zn_b1, zb_15, zb_16, zb_17, za_18, za_19, za_20, za_21, za_22, zb_23, za_24, za_25, za_26, za_27, za_28, za_29, za_30, za_31, za_32, zb_35, za_36, za_37, za_38, za_39, za_40, zb_377, zb_378, za_379, za_380, za_381, za_382, za_383, zb_384, za_385, za_386, za_387, za_388, za_389, za_390, za_391, za_392, za_393, zb_396, za_397, za_398, za_399, za_400, za_401, zb_738, za_739, za_740, za_741, za_742, za_743, za_744, za_745, za_746, za_747, zb_748, za_749, za_750, zb_751, zb_752, za_753, za_754, za_755, za_756, zb_757, za_758, za_759, za_760, zb_761, za_763, za_764, za_765, zu_0, zu_1, zu_2, zu_3, zu_4, zu_5, zu_6, zu_7, zu_8, zu_9, zu_10, zu_11, zu_12, zu_13, zu_14, zu_15, zu_16, zu_17, zu_18, zu_19, zu_20, zu_21, zu_22, zu_23, zu_24, zu_25, zu_26, zu_27, zu_28, zu_29, zu_30, zu_90, zv_0_9, zv_1_9, zv_2_9, zv_3_9, zv_4_9, zv_5_9, zv_6_9, zv_7_9, zv_8_9, zv_0_330, zv_0_4544, zv_1_4544, zv_2_4544, zv_3_4544, zv_4_4544, zv_5_4544, zv_6_4544, zv_7_4544, zv_8_4544, zv_9_4544, zv_10_4544, zv_11_4544, zv_12_4544, zv_13_4544, zv_14_4544, zv_15_4544, zv_16_4544, zv_17_4544, zv_18_4544, zv_19_4544, zv_20_4544, zv_21_4544, zv_22_4544, zv_23_4544, zv_24_4544, zv_25_4544, zv_26_4544, zv_27_4544, zv_28_4544, zv_29_4544, zv_0_11, zv_1_11, zv_0_160, true_and, and_true, Nat.reduceAdd, i1, i2, e1, e2, e3, nI_1]
    have e4 : (zm_wi (zm_wi (zm_wi (zm_wi (zm_wi (zm_wi M 18 n bs) 19 n pr) 20 n v) 21 n 0) 22 n 1) 17 0 (nI (n + 1))).1 17 0 = nI (n + 1) := by rw [zm_wi_same]; rfl
    rw [e4, nI_pred, hv]
    exact q
  refine h0 _ _ _ ?_
  simp only [bX7_tell_0, zw_0, zw_1, zs_aloadn0, zs_aloadNn0, zg_7_9, zs_bipush, zs_iclt, zs_iconst, zs_ireturn, zn_int, zn_b0, zn_b1, zb_15, zb_16, zb_17, za_18, za_19, za_20, za_21, za_22, zb_23, za_24, za_25, za_26, za_27, za_28, za_29, za_30, za_31, za_32, zb_35, za_36, za_37, za_38, za_39, za_40, zb_377, zb_378, za_379, za_380, za_381, za_382, za_383, zb_384, za_385, za_386, za_387, za_388, za_389, za_390, za_391, za_392, za_393, zb_396, za_397, za_398, za_399, za_400, za_401, zb_738, za_739, za_740, za_741, za_742, za_743, za_744, za_745, za_746, za_747, zb_748, za_749, za_750, zb_751, zb_752, za_753, za_754, za_755, za_756, zb_757, za_758, za_759, za_760, zb_761, za_763, za_764, za_765, true_and, and_true, Nat.reduceAdd, hc]
  refine ⟨fun _ => ?_, fun h => absurd (nI_lt (b := 10) hn (by decide)) h⟩
  have e1 : (zm_wi M 18 n bs).1 17 0 = nI n := hc
  have e2 : (zm_wi (zm_wi M 18 n bs) 19 n pr).1 17 0 = nI n := hc
  refine h11 _ _ _ ?_
  simp only [bX7_tell_11, zw_0, zw_1, zs_aloadn0, zs_aloadNn0, zg_7_15, zg_7_9, zs_iloadn1, zs_iastore, zg_7_19, zs_iloadn2, zg_7_22, zi_7_37, zs_ifeq, zs_iaload, zs_iconst, zs_iadd, zs_goto, zh_0, zh_1, zh_2, zh_3, zh_4, zt_i, zt_l, zt_r, zt_n, zb_15, zb_16, zb_17, za_18, za_19, za_20, za_21, za_22, zb_23, za_24, za_25, za_26, za_27, za_28, za_29, za_30, za_31, za_32, zb_35, za_36, za_37, za_38, za_39, za_40, zb_377, zb_378, za_379, za_380, za_381, za_382, za_383, zb_384, za_385, za_386, za_387, za_388, za_389, za_390, za_391, za_392, za_393, zb_396, za_397, za_398, za_399, za_400, za_401, zb_738, za_739, za_740, za_741, za_742, za_743, za_744, za_745, za_746, za_747, zb_748, za_749, za_750, zb_751, zb_752, za_753, za_754, za_755, za_756, zb_757, za_758, za_759, za_760, zb_761, za_763, za_764, za_765, zu_0, zu_1, zu_2, zu_3, zu_4, zu_5, zu_6, zu_7, zu_8, zu_9, zu_10, zu_11, zu_12, zu_13, zu_14, zu_15, zu_16, zu_17, zu_18, zu_19, zu_20, zu_21, zu_22, zu_23, zu_24, zu_25, zu_26, zu_27, zu_28, zu_29, zu_30, zu_90, zv_0_9, zv_1_9, zv_2_9, zv_3_9, zv_4_9, zv_5_9, zv_6_9, zv_7_9, zv_8_9, zv_0_330, zv_0_4544, zv_1_4544, zv_2_4544, zv_3_4544, zv_4_4544, zv_5_4544, zv_6_4544, zv_7_4544, zv_8_4544, zv_9_4544, zv_10_4544, zv_11_4544, zv_12_4544, zv_13_4544, zv_14_4544, zv_15_4544, zv_16_4544, zv_17_4544, zv_18_4544, zv_19_4544, zv_20_4544, zv_21_4544, zv_22_4544, zv_23_4544, zv_24_4544, zv_25_4544, zv_26_4544, zv_27_4544, zv_28_4544, zv_29_4544, zv_0_11, zv_1_11, zv_0_160, true_and, and_true, Nat.reduceAdd, hc, i1, i2, e1, e2]
  refine zm_R_eq (c7_has hE d (n := n) (by omega) bs e2) ?_
  simp only [bX7_tell_11, zw_0, zw_1, zs_aloadn0, zs_aloadNn0, zg_7_15, zg_7_9, zs_iloadn1, zs_iastore, zg_7_19, zs_iloadn2, zg_7_22, zi_7_37, zs_ifeq, zs_iaload, zs_iconst, zs_iadd, zs_goto, zh_0, zh_1, zh_2, zh_3, zh_4, zt_i, zt_l, zt_r, zt_n, zb_15, zb_16, zb_17, za_18, za_19, za_20, za_21, za_22, zb_23, za_24, za_25, za_26, za_27, za_28, za_29, za_30, za_31, za_32, zb_35, za_36, za_37, za_38, za_39, za_40, zb_377, zb_378, za_379, za_380, za_381, za_382, za_383, zb_384, za_385, za_386, za_387, za_388, za_389, za_390, za_391, za_392, za_393, zb_396, za_397, za_398, za_399, za_400, za_401, zb_738, za_739, za_740, za_741, za_742, za_743, za_744, za_745, za_746, za_747, zb_748, za_749, za_750, zb_751, zb_752, za_753, za_754, za_755, za_756, zb_757, za_758, za_759, za_760, zb_761, za_763, za_764, za_765, zu_0, zu_1, zu_2, zu_3, zu_4, zu_5, zu_6, zu_7, zu_8, zu_9, zu_10, zu_11, zu_12, zu_13, zu_14, zu_15, zu_16, zu_17, zu_18, zu_19, zu_20, zu_21, zu_22, zu_23, zu_24, zu_25, zu_26, zu_27, zu_28, zu_29, zu_30, zu_90, zv_0_9, zv_1_9, zv_2_9, zv_3_9, zv_4_9, zv_5_9, zv_6_9, zv_7_9, zv_8_9, zv_0_330, zv_0_4544, zv_1_4544, zv_2_4544, zv_3_4544, zv_4_4544, zv_5_4544, zv_6_4544, zv_7_4544, zv_8_4544, zv_9_4544, zv_10_4544, zv_11_4544, zv_12_4544, zv_13_4544, zv_14_4544, zv_15_4544, zv_16_4544, zv_17_4544, zv_18_4544, zv_19_4544, zv_20_4544, zv_21_4544, zv_22_4544, zv_23_4544, zv_24_4544, zv_25_4544, zv_26_4544, zv_27_4544, zv_28_4544, zv_29_4544, zv_0_11, zv_1_11, zv_0_160, true_and, and_true, Nat.reduceAdd, i1, i2, e1, e2]
  rw [zi_b0]
  refine ⟨fun h => ?_, fun h => ?_⟩
  · refine h58 _ _ _ ?_
    simp only [bX7_tell_58, zw_0, zw_1, zs_iconst, zb_15, zb_16, zb_17, za_18, za_19, za_20, za_21, za_22, zb_23, za_24, za_25, za_26, za_27, za_28, za_29, za_30, za_31, za_32, zb_35, za_36, za_37, za_38, za_39, za_40, zb_377, zb_378, za_379, za_380, za_381, za_382, za_383, zb_384, za_385, za_386, za_387, za_388, za_389, za_390, za_391, za_392, za_393, zb_396, za_397, za_398, za_399, za_400, za_401, zb_738, za_739, za_740, za_741, za_742, za_743, za_744, za_745, za_746, za_747, zb_748, za_749, za_750, zb_751, zb_752, za_753, za_754, za_755, za_756, zb_757, za_758, za_759, za_760, zb_761, za_763, za_764, za_765, true_and, and_true, Nat.reduceAdd]
    exact k59 0 (by rw [h]; rfl)
  · have h1 : zo_is n bs = true := by cases hz : zo_is n bs with
      | true => rfl
      | false => exact absurd hz h
    obtain ⟨k, hk, rfl⟩ := zo_of h1 (by omega)
    refine ⟨vp_in_nI (by omega) (by decide), k59 _ ?_⟩
    rw [h1]
    rfl
theorem c11_officer {E : zm_E} (hE : zm_ok E.2.2.1 E.2.2.2.2) (d : Nat) {n : Nat} (hn : n ≤ 10) (bs pr : Int32) {M : zm_M} (hc : M.1 17 0 = nI n) {Q : Option Value → zm_M → Prop} (q1 : zo_bad n bs pr → Q (some (.int (-1))) M) (q2 : ¬ zo_bad n bs pr → Q (some (.int (nI n))) (zs_told M n bs pr)) : zm_R E (d + 3) mX11_officer [.ref 15, .int bs, .int pr] M Q := by
  refine zX11_officer hE rfl (fun G h0 h24 h28 h33 h59 h61 => ?_)
  show G 0 [some (.ref 15), some (.int bs), some (.int pr), none, none] [] M
  have e10 : (nI n < 10) ↔ n < 10 := nI_ltI (b := 10) (by omega) (by decide)
  have e00 : (nI n = 0) ↔ n = 0 := nI_eq (b := 0) (by omega) (by decide)
  have bad : ∀ l, zo_bad n bs pr → G 59 l [] M := by
    intro l hb
    refine h59 _ _ _ ?_
    simp only [bX11_officer_59, zw_0, zw_1, zs_iconst, zs_ireturn, zn_int, zn_b0, zn_b1, zb_15, zb_16, zb_17, za_18, za_19, za_20, za_21, za_22, zb_23, za_24, za_25, za_26, za_27, za_28, za_29, za_30, za_31, za_32, zb_35, za_36, za_37, za_38, za_39, za_40, zb_377, zb_378, za_379, za_380, za_381, za_382, za_383, zb_384, za_385, za_386, za_387, za_388, za_389, za_390, za_391, za_392, za_393, zb_396, za_397, za_398, za_399, za_400, za_401, zb_738, za_739, za_740, za_741, za_742, za_743, za_744, za_745, za_746, za_747, zb_748, za_749, za_750, zb_751, zb_752, za_753, za_754, za_755, za_756, zb_757, za_758, za_759, za_760, zb_761, za_763, za_764, za_765, true_and, and_true, Nat.reduceAdd]
    exact q1 hb
  have k33 : ∀ (x : Bool) (l5 : Option Value), (x = true ↔ ¬ (if n = 0 then ¬ bs = -1 else zo_is n bs = false)) → G 33 [some (.ref 15), some (.int bs), some (.int pr), some (.ref 17), l5] [.int (zi_b x)] M := by
    intro x l5 hx
    refine h33 _ _ _ ?_
    simp only [bX11_officer_33, zw_0, zw_1, zs_istore4, zs_iload4, zs_ifeq, zs_iloadn2, zs_iconst, zs_bipush, zi_11_86, zs_aloadn3, zs_aloadNn3, zg_11_77, zs_iclt, zc_none, zc_int, zc_ref, zc_null, zc_long, zh_0, zh_1, zh_2, zh_3, zh_4, zt_i, zt_l, zt_r, zt_n, zb_15, zb_16, zb_17, za_18, za_19, za_20, za_21, za_22, zb_23, za_24, za_25, za_26, za_27, za_28, za_29, za_30, za_31, za_32, zb_35, za_36, za_37, za_38, za_39, za_40, zb_377, zb_378, za_379, za_380, za_381, za_382, za_383, zb_384, za_385, za_386, za_387, za_388, za_389, za_390, za_391, za_392, za_393, zb_396, za_397, za_398, za_399, za_400, za_401, zb_738, za_739, za_740, za_741, za_742, za_743, za_744, za_745, za_746, za_747, zb_748, za_749, za_750, zb_751, zb_752, za_753, za_754, za_755, za_756, zb_757, za_758, za_759, za_760, zb_761, za_763, za_764, za_765, true_and, and_true, Nat.reduceAdd]
    rw [zi_b0]
    refine ⟨fun h => bad _ (Or.inr (Or.inl ?_)), fun h => ?_⟩
    · apply Classical.byContradiction
      intro z
      rw [hx.mpr z] at h
      cases h
    · have hx1 : x = true := by cases x with
        | true => rfl
        | false => exact absurd rfl h
      refine zm_R_eq (c11_within hE (d + 1) pr 0 9 M) ?_
      simp only [bX11_officer_33, zw_0, zw_1, zs_istore4, zs_iload4, zs_ifeq, zs_iloadn2, zs_iconst, zs_bipush, zi_11_86, zs_aloadn3, zs_aloadNn3, zg_11_77, zs_iclt, zc_none, zc_int, zc_ref, zc_null, zc_long, zh_0, zh_1, zh_2, zh_3, zh_4, zt_i, zt_l, zt_r, zt_n, zb_15, zb_16, zb_17, za_18, za_19, za_20, za_21, za_22, zb_23, za_24, za_25, za_26, za_27, za_28, za_29, za_30, za_31, za_32, zb_35, za_36, za_37, za_38, za_39, za_40, zb_377, zb_378, za_379, za_380, za_381, za_382, za_383, zb_384, za_385, za_386, za_387, za_388, za_389, za_390, za_391, za_392, za_393, zb_396, za_397, za_398, za_399, za_400, za_401, zb_738, za_739, za_740, za_741, za_742, za_743, za_744, za_745, za_746, za_747, zb_748, za_749, za_750, zb_751, zb_752, za_753, za_754, za_755, za_756, zb_757, za_758, za_759, za_760, zb_761, za_763, za_764, za_765, true_and, and_true, Nat.reduceAdd, hc]
      refine ⟨fun h2 => bad _ (Or.inr (Or.inr h2)), fun h2 => ⟨fun h3 => ?_, fun h3 => bad _ (Or.inl ?_)⟩⟩
      · refine h61 _ _ _ ?_
        simp only [bX11_officer_61, zw_0, zw_1, zs_aloadn3, zs_aloadNn3, zs_iloadn1, zs_iloadn2, zi_11_90, zs_ireturn, zh_0, zh_1, zh_2, zh_3, zh_4, zt_i, zt_l, zt_r, zt_n, zn_int, zn_b0, zn_b1, zb_15, zb_16, zb_17, za_18, za_19, za_20, za_21, za_22, zb_23, za_24, za_25, za_26, za_27, za_28, za_29, za_30, za_31, za_32, zb_35, za_36, za_37, za_38, za_39, za_40, zb_377, zb_378, za_379, za_380, za_381, za_382, za_383, zb_384, za_385, za_386, za_387, za_388, za_389, za_390, za_391, za_392, za_393, zb_396, za_397, za_398, za_399, za_400, za_401, zb_738, za_739, za_740, za_741, za_742, za_743, za_744, za_745, za_746, za_747, zb_748, za_749, za_750, zb_751, zb_752, za_753, za_754, za_755, za_756, zb_757, za_758, za_759, za_760, zb_761, za_763, za_764, za_765, true_and, and_true, Nat.reduceAdd]
        refine c7_tell hE d (e10.mp h3) bs pr hc ?_
        simp only [bX11_officer_61, zw_0, zw_1, zs_aloadn3, zs_aloadNn3, zs_iloadn1, zs_iloadn2, zi_11_90, zs_ireturn, zh_0, zh_1, zh_2, zh_3, zh_4, zt_i, zt_l, zt_r, zt_n, zn_int, zn_b0, zn_b1, zb_15, zb_16, zb_17, za_18, za_19, za_20, za_21, za_22, zb_23, za_24, za_25, za_26, za_27, za_28, za_29, za_30, za_31, za_32, zb_35, za_36, za_37, za_38, za_39, za_40, zb_377, zb_378, za_379, za_380, za_381, za_382, za_383, zb_384, za_385, za_386, za_387, za_388, za_389, za_390, za_391, za_392, za_393, zb_396, za_397, za_398, za_399, za_400, za_401, zb_738, za_739, za_740, za_741, za_742, za_743, za_744, za_745, za_746, za_747, zb_748, za_749, za_750, zb_751, zb_752, za_753, za_754, za_755, za_756, zb_757, za_758, za_759, za_760, zb_761, za_763, za_764, za_765, true_and, and_true, Nat.reduceAdd]
        refine q2 (fun hb => ?_)
        rcases hb with z | z | z
        · have := e10.mp h3; omega
        · exact hx.mp hx1 z
        · exact h2 z
      · have : ¬ n < 10 := fun z => h3 (e10.mpr z)
        omega
  refine h0 _ _ _ ?_
  simp only [bX11_officer_0, zw_0, zw_1, zs_aloadn0, zs_aloadNn0, zg_11_10, zg_11_28, zs_astoren3, zs_astoreNn3, zs_aloadn3, zs_aloadNn3, zg_11_77, zs_ifne, zs_iloadn1, zs_iconst, zs_icne, zs_goto, zc_none, zc_int, zc_ref, zc_null, zc_long, zb_15, zb_16, zb_17, za_18, za_19, za_20, za_21, za_22, zb_23, za_24, za_25, za_26, za_27, za_28, za_29, za_30, za_31, za_32, zb_35, za_36, za_37, za_38, za_39, za_40, zb_377, zb_378, za_379, za_380, za_381, za_382, za_383, zb_384, za_385, za_386, za_387, za_388, za_389, za_390, za_391, za_392, za_393, zb_396, za_397, za_398, za_399, za_400, za_401, zb_738, za_739, za_740, za_741, za_742, za_743, za_744, za_745, za_746, za_747, zb_748, za_749, za_750, zb_751, zb_752, za_753, za_754, za_755, za_756, zb_757, za_758, za_759, za_760, zb_761, za_763, za_764, za_765, true_and, and_true, Nat.reduceAdd, hc]
  refine ⟨fun hne => ?_, fun h0' => ⟨fun hb => ?_, fun hb => ?_⟩⟩
  · have hn0 : ¬ n = 0 := fun z => hne (e00.mpr z)
    refine h28 _ _ _ ?_
    simp only [bX11_officer_28, zw_0, zw_1, zs_aloadn3, zs_aloadNn3, zs_iloadn1, zi_11_82, zh_0, zh_1, zh_2, zh_3, zh_4, zt_i, zt_l, zt_r, zt_n, zb_15, zb_16, zb_17, za_18, za_19, za_20, za_21, za_22, zb_23, za_24, za_25, za_26, za_27, za_28, za_29, za_30, za_31, za_32, zb_35, za_36, za_37, za_38, za_39, za_40, zb_377, zb_378, za_379, za_380, za_381, za_382, za_383, zb_384, za_385, za_386, za_387, za_388, za_389, za_390, za_391, za_392, za_393, zb_396, za_397, za_398, za_399, za_400, za_401, zb_738, za_739, za_740, za_741, za_742, za_743, za_744, za_745, za_746, za_747, zb_748, za_749, za_750, zb_751, zb_752, za_753, za_754, za_755, za_756, zb_757, za_758, za_759, za_760, zb_761, za_763, za_764, za_765, true_and, and_true, Nat.reduceAdd]
    refine zm_R_eq (c7_has hE (d + 1) (n := n) (by omega) bs hc) ?_
    simp only [bX11_officer_28, zw_0, zw_1, zs_aloadn3, zs_aloadNn3, zs_iloadn1, zi_11_82, zh_0, zh_1, zh_2, zh_3, zh_4, zt_i, zt_l, zt_r, zt_n, zb_15, zb_16, zb_17, za_18, za_19, za_20, za_21, za_22, zb_23, za_24, za_25, za_26, za_27, za_28, za_29, za_30, za_31, za_32, zb_35, za_36, za_37, za_38, za_39, za_40, zb_377, zb_378, za_379, za_380, za_381, za_382, za_383, zb_384, za_385, za_386, za_387, za_388, za_389, za_390, za_391, za_392, za_393, zb_396, za_397, za_398, za_399, za_400, za_401, zb_738, za_739, za_740, za_741, za_742, za_743, za_744, za_745, za_746, za_747, zb_748, za_749, za_750, zb_751, zb_752, za_753, za_754, za_755, za_756, zb_757, za_758, za_759, za_760, zb_761, za_763, za_764, za_765, true_and, and_true, Nat.reduceAdd]
    refine k33 _ _ ?_
    rw [if_neg hn0]
    simp
  · refine h24 _ _ _ ?_
    simp only [bX11_officer_24, zw_0, zw_1, zs_iconst, zs_goto, zb_15, zb_16, zb_17, za_18, za_19, za_20, za_21, za_22, zb_23, za_24, za_25, za_26, za_27, za_28, za_29, za_30, za_31, za_32, zb_35, za_36, za_37, za_38, za_39, za_40, zb_377, zb_378, za_379, za_380, za_381, za_382, za_383, zb_384, za_385, za_386, za_387, za_388, za_389, za_390, za_391, za_392, za_393, zb_396, za_397, za_398, za_399, za_400, za_401, zb_738, za_739, za_740, za_741, za_742, za_743, za_744, za_745, za_746, za_747, zb_748, za_749, za_750, zb_751, zb_752, za_753, za_754, za_755, za_756, zb_757, za_758, za_759, za_760, zb_761, za_763, za_764, za_765, true_and, and_true, Nat.reduceAdd]
    refine k33 false _ ?_
    rw [if_pos (e00.mp h0')]
    simp [hb]
  · refine k33 true _ ?_
    rw [if_pos (e00.mp h0')]
    simp [hb]
/-! cousins -/
def zo_cbad (n : Nat) (cs : Nat → Int32) (p q : Int32) : Prop := zo_is n p = false ∨ zo_is n q = false ∨ p = q ∨ ¬ zi_has (cs p.toNatClampNeg) q = 0
theorem c_cousin {E : zm_E} (hE : zm_ok E.2.2.1 E.2.2.2.2) (d : Nat) {n : Nat} (hn : n ≤ 10) (p q : Int32) {M : zm_M} (hc : M.1 1 0 = nI n) {Q : Option Value → zm_M → Prop} (q1 : zo_cbad n (fun i => M.1 1 (110 + i)) p q → Q (some (.int 0)) M)
    (q2 : ∀ i j, i < n → j < n → i ≠ j → p = nI i → q = nI j → ¬ zo_cbad n (fun i => M.1 1 (110 + i)) p q → Q (some (.int 1)) (zm_wi (zm_wi M 1 (110 + i) (M.1 1 (110 + i) ||| nI (2 ^ j))) 1 (110 + j) (M.1 1 (110 + j) ||| nI (2 ^ i)))) : zm_R E (d + 3) mX12_cousin [.ref 0, .int p, .int q] M Q := by
  refine zX12_cousin hE rfl (fun G h0 h37 h39 => ?_)
  show G 0 [some (.ref 0), some (.int p), some (.int q)] [] M
  have bad : zo_cbad n (fun i => M.1 1 (110 + i)) p q → G 37 [some (.ref 0), some (.int p), some (.int q)] [] M := by
    intro hb
    refine h37 _ _ _ ?_
    simp only [bX12_cousin_37, zw_0, zw_1, zs_iconst, zs_ireturn, zn_int, zn_b0, zn_b1, zb_0, za_1, za_2, za_3, za_4, za_5, za_6, za_7, za_8, za_9, za_10, za_11, za_12, za_13, za_14, true_and, and_true, Nat.reduceAdd]
    exact q1 hb
  refine h0 _ _ _ ?_
  simp only [bX12_cousin_0, zw_0, zw_1, zs_aloadn0, zs_aloadNn0, zs_iloadn1, zi_12_73, zs_ifeq, zs_iloadn2, zs_iceq, zg_12_7, zs_bipush, zs_iadd, zs_iaload, zi_12_77, zh_0, zh_1, zh_2, zh_3, zh_4, zt_i, zt_l, zt_r, zt_n, zb_0, za_1, za_2, za_3, za_4, za_5, za_6, za_7, za_8, za_9, za_10, za_11, za_12, za_13, za_14, zu_0, zu_1, zu_2, zu_3, zu_4, zu_5, zu_6, zu_7, zu_8, zu_9, zu_10, zu_11, zu_12, zu_13, zu_14, zu_15, zu_16, zu_17, zu_18, zu_19, zu_20, zu_21, zu_22, zu_23, zu_24, zu_25, zu_26, zu_27, zu_28, zu_29, zu_30, zu_90, zv_0_9, zv_1_9, zv_2_9, zv_3_9, zv_4_9, zv_5_9, zv_6_9, zv_7_9, zv_8_9, zv_0_330, zv_0_4544, zv_1_4544, zv_2_4544, zv_3_4544, zv_4_4544, zv_5_4544, zv_6_4544, zv_7_4544, zv_8_4544, zv_9_4544, zv_10_4544, zv_11_4544, zv_12_4544, zv_13_4544, zv_14_4544, zv_15_4544, zv_16_4544, zv_17_4544, zv_18_4544, zv_19_4544, zv_20_4544, zv_21_4544, zv_22_4544, zv_23_4544, zv_24_4544, zv_25_4544, zv_26_4544, zv_27_4544, zv_28_4544, zv_29_4544, zv_0_11, zv_1_11, zv_0_160, true_and, and_true, Nat.reduceAdd]
  refine zm_R_eq (c_isOfficer hE d p M) ?_
  rw [hc, zo_in (by omega)]
  simp only [bX12_cousin_0, zw_0, zw_1, zs_aloadn0, zs_aloadNn0, zs_iloadn1, zi_12_73, zs_ifeq, zs_iloadn2, zs_iceq, zg_12_7, zs_bipush, zs_iadd, zs_iaload, zi_12_77, zh_0, zh_1, zh_2, zh_3, zh_4, zt_i, zt_l, zt_r, zt_n, zb_0, za_1, za_2, za_3, za_4, za_5, za_6, za_7, za_8, za_9, za_10, za_11, za_12, za_13, za_14, zu_0, zu_1, zu_2, zu_3, zu_4, zu_5, zu_6, zu_7, zu_8, zu_9, zu_10, zu_11, zu_12, zu_13, zu_14, zu_15, zu_16, zu_17, zu_18, zu_19, zu_20, zu_21, zu_22, zu_23, zu_24, zu_25, zu_26, zu_27, zu_28, zu_29, zu_30, zu_90, zv_0_9, zv_1_9, zv_2_9, zv_3_9, zv_4_9, zv_5_9, zv_6_9, zv_7_9, zv_8_9, zv_0_330, zv_0_4544, zv_1_4544, zv_2_4544, zv_3_4544, zv_4_4544, zv_5_4544, zv_6_4544, zv_7_4544, zv_8_4544, zv_9_4544, zv_10_4544, zv_11_4544, zv_12_4544, zv_13_4544, zv_14_4544, zv_15_4544, zv_16_4544, zv_17_4544, zv_18_4544, zv_19_4544, zv_20_4544, zv_21_4544, zv_22_4544, zv_23_4544, zv_24_4544, zv_25_4544, zv_26_4544, zv_27_4544, zv_28_4544, zv_29_4544, zv_0_11, zv_1_11, zv_0_160, true_and, and_true, Nat.reduceAdd, zi_b0]
  refine ⟨fun h => bad (Or.inl h), fun hp => ?_⟩
  refine zm_R_eq (c_isOfficer hE d q M) ?_
  rw [hc, zo_in (by omega)]
  simp only [bX12_cousin_0, zw_0, zw_1, zs_aloadn0, zs_aloadNn0, zs_iloadn1, zi_12_73, zs_ifeq, zs_iloadn2, zs_iceq, zg_12_7, zs_bipush, zs_iadd, zs_iaload, zi_12_77, zh_0, zh_1, zh_2, zh_3, zh_4, zt_i, zt_l, zt_r, zt_n, zb_0, za_1, za_2, za_3, za_4, za_5, za_6, za_7, za_8, za_9, za_10, za_11, za_12, za_13, za_14, zu_0, zu_1, zu_2, zu_3, zu_4, zu_5, zu_6, zu_7, zu_8, zu_9, zu_10, zu_11, zu_12, zu_13, zu_14, zu_15, zu_16, zu_17, zu_18, zu_19, zu_20, zu_21, zu_22, zu_23, zu_24, zu_25, zu_26, zu_27, zu_28, zu_29, zu_30, zu_90, zv_0_9, zv_1_9, zv_2_9, zv_3_9, zv_4_9, zv_5_9, zv_6_9, zv_7_9, zv_8_9, zv_0_330, zv_0_4544, zv_1_4544, zv_2_4544, zv_3_4544, zv_4_4544, zv_5_4544, zv_6_4544, zv_7_4544, zv_8_4544, zv_9_4544, zv_10_4544, zv_11_4544, zv_12_4544, zv_13_4544, zv_14_4544, zv_15_4544, zv_16_4544, zv_17_4544, zv_18_4544, zv_19_4544, zv_20_4544, zv_21_4544, zv_22_4544, zv_23_4544, zv_24_4544, zv_25_4544, zv_26_4544, zv_27_4544, zv_28_4544, zv_29_4544, zv_0_11, zv_1_11, zv_0_160, true_and, and_true, Nat.reduceAdd, zi_b0]
  refine ⟨fun h => bad (Or.inr (Or.inl h)), fun hq => ⟨fun h => bad (Or.inr (Or.inr (Or.inl h))), fun hne => ?_⟩⟩
  simp only [Bool.not_eq_false] at hp hq
  obtain ⟨i, hi, rfl⟩ := zo_of hp (by omega)
  obtain ⟨j, hj, rfl⟩ := zo_of hq (by omega)
  obtain ⟨i1, i2⟩ := zx_ck (k := 110) (p := i) (N := 4544) (by omega) (by decide)
  obtain ⟨j1, j2⟩ := zx_ck (k := 110) (p := j) (N := 4544) (by omega) (by decide)
  have hij : i ≠ j := fun z => hne (by rw [z])
  simp only [bX12_cousin_0, zw_0, zw_1, zs_aloadn0, zs_aloadNn0, zs_iloadn1, zi_12_73, zs_ifeq, zs_iloadn2, zs_iceq, zg_12_7, zs_bipush, zs_iadd, zs_iaload, zi_12_77, zh_0, zh_1, zh_2, zh_3, zh_4, zt_i, zt_l, zt_r, zt_n, zb_0, za_1, za_2, za_3, za_4, za_5, za_6, za_7, za_8, za_9, za_10, za_11, za_12, za_13, za_14, zu_0, zu_1, zu_2, zu_3, zu_4, zu_5, zu_6, zu_7, zu_8, zu_9, zu_10, zu_11, zu_12, zu_13, zu_14, zu_15, zu_16, zu_17, zu_18, zu_19, zu_20, zu_21, zu_22, zu_23, zu_24, zu_25, zu_26, zu_27, zu_28, zu_29, zu_30, zu_90, zv_0_9, zv_1_9, zv_2_9, zv_3_9, zv_4_9, zv_5_9, zv_6_9, zv_7_9, zv_8_9, zv_0_330, zv_0_4544, zv_1_4544, zv_2_4544, zv_3_4544, zv_4_4544, zv_5_4544, zv_6_4544, zv_7_4544, zv_8_4544, zv_9_4544, zv_10_4544, zv_11_4544, zv_12_4544, zv_13_4544, zv_14_4544, zv_15_4544, zv_16_4544, zv_17_4544, zv_18_4544, zv_19_4544, zv_20_4544, zv_21_4544, zv_22_4544, zv_23_4544, zv_24_4544, zv_25_4544, zv_26_4544, zv_27_4544, zv_28_4544, zv_29_4544, zv_0_11, zv_1_11, zv_0_160, true_and, and_true, Nat.reduceAdd, zx_110, i1, i2]
  refine zm_R_eq (c_has hE (d + 1) _ _ M) ?_
  simp only [bX12_cousin_0, zw_0, zw_1, zs_aloadn0, zs_aloadNn0, zs_iloadn1, zi_12_73, zs_ifeq, zs_iloadn2, zs_iceq, zg_12_7, zs_bipush, zs_iadd, zs_iaload, zi_12_77, zh_0, zh_1, zh_2, zh_3, zh_4, zt_i, zt_l, zt_r, zt_n, zb_0, za_1, za_2, za_3, za_4, za_5, za_6, za_7, za_8, za_9, za_10, za_11, za_12, za_13, za_14, zu_0, zu_1, zu_2, zu_3, zu_4, zu_5, zu_6, zu_7, zu_8, zu_9, zu_10, zu_11, zu_12, zu_13, zu_14, zu_15, zu_16, zu_17, zu_18, zu_19, zu_20, zu_21, zu_22, zu_23, zu_24, zu_25, zu_26, zu_27, zu_28, zu_29, zu_30, zu_90, zv_0_9, zv_1_9, zv_2_9, zv_3_9, zv_4_9, zv_5_9, zv_6_9, zv_7_9, zv_8_9, zv_0_330, zv_0_4544, zv_1_4544, zv_2_4544, zv_3_4544, zv_4_4544, zv_5_4544, zv_6_4544, zv_7_4544, zv_8_4544, zv_9_4544, zv_10_4544, zv_11_4544, zv_12_4544, zv_13_4544, zv_14_4544, zv_15_4544, zv_16_4544, zv_17_4544, zv_18_4544, zv_19_4544, zv_20_4544, zv_21_4544, zv_22_4544, zv_23_4544, zv_24_4544, zv_25_4544, zv_26_4544, zv_27_4544, zv_28_4544, zv_29_4544, zv_0_11, zv_1_11, zv_0_160, true_and, and_true, Nat.reduceAdd, zx_110, i1, i2]
  refine ⟨fun h => ?_, fun h => bad (Or.inr (Or.inr (Or.inr ?_)))⟩
  · refine h39 _ _ _ ?_
    simp only [bX12_cousin_39, zw_0, zw_1, zs_aloadn0, zs_aloadNn0, zg_12_7, zs_bipush, zs_iloadn1, zs_iadd, zs_dup2, zs_iaload, zs_iconst, zs_iloadn2, zs_ishl, zs_ior, zs_iastore, zs_ireturn, zn_int, zn_b0, zn_b1, zb_0, za_1, za_2, za_3, za_4, za_5, za_6, za_7, za_8, za_9, za_10, za_11, za_12, za_13, za_14, zu_0, zu_1, zu_2, zu_3, zu_4, zu_5, zu_6, zu_7, zu_8, zu_9, zu_10, zu_11, zu_12, zu_13, zu_14, zu_15, zu_16, zu_17, zu_18, zu_19, zu_20, zu_21, zu_22, zu_23, zu_24, zu_25, zu_26, zu_27, zu_28, zu_29, zu_30, zu_90, zv_0_9, zv_1_9, zv_2_9, zv_3_9, zv_4_9, zv_5_9, zv_6_9, zv_7_9, zv_8_9, zv_0_330, zv_0_4544, zv_1_4544, zv_2_4544, zv_3_4544, zv_4_4544, zv_5_4544, zv_6_4544, zv_7_4544, zv_8_4544, zv_9_4544, zv_10_4544, zv_11_4544, zv_12_4544, zv_13_4544, zv_14_4544, zv_15_4544, zv_16_4544, zv_17_4544, zv_18_4544, zv_19_4544, zv_20_4544, zv_21_4544, zv_22_4544, zv_23_4544, zv_24_4544, zv_25_4544, zv_26_4544, zv_27_4544, zv_28_4544, zv_29_4544, zv_0_11, zv_1_11, zv_0_160, true_and, and_true, Nat.reduceAdd, zx_110, i1, i2, j1, j2]
    have e : (zm_wi M 1 (110 + i) (M.1 1 (110 + i) ||| (1 : Int32) <<< (nI j &&& 31))).1 1 (110 + j) = M.1 1 (110 + j) := by
      rw [zm_wi_same, if_neg (by omega)]
    rw [e, zx_1s j (by omega), zx_1s i (by omega)]
    refine q2 i j hi hj hij rfl rfl (fun hb => ?_)
    rcases hb with z | z | z | z
    · rw [hp] at z; cases z
    · rw [hq] at z; cases z
    · exact hne z
    · rw [nI_clamp (by omega)] at z; exact z h
  · rw [nI_clamp (by omega)]; exact h
theorem c11_cousin {E : zm_E} (hE : zm_ok E.2.2.1 E.2.2.2.2) (d : Nat) {n : Nat} (hn : n ≤ 10) (p q : Int32) {M : zm_M} (hc : M.1 17 0 = nI n) {Q : Option Value → zm_M → Prop} (q1 : zo_cbad n (M.1 21) p q → Q (some (.int 0)) M)
    (q2 : ∀ i j, i < n → j < n → i ≠ j → p = nI i → q = nI j → ¬ zo_cbad n (M.1 21) p q → Q (some (.int 1)) (zm_wi (zm_wi M 21 i (M.1 21 i ||| nI (2 ^ j))) 21 j (M.1 21 j ||| nI (2 ^ i)))) : zm_R E (d + 2) mX11_cousin [.ref 15, .int p, .int q] M Q := by
  refine zX11_cousin hE rfl (fun G h0 h38 h40 => ?_)
  show G 0 [some (.ref 15), some (.int p), some (.int q), none] [] M
  have bad : zo_cbad n (M.1 21) p q → G 38 [some (.ref 15), some (.int p), some (.int q), some (.ref 17)] [] M := by
    intro hb
    refine h38 _ _ _ ?_
    simp only [bX11_cousin_38, zw_0, zw_1, zs_iconst, zs_ireturn, zn_int, zn_b0, zn_b1, zb_15, zb_16, zb_17, za_18, za_19, za_20, za_21, za_22, zb_23, za_24, za_25, za_26, za_27, za_28, za_29, za_30, za_31, za_32, zb_35, za_36, za_37, za_38, za_39, za_40, zb_377, zb_378, za_379, za_380, za_381, za_382, za_383, zb_384, za_385, za_386, za_387, za_388, za_389, za_390, za_391, za_392, za_393, zb_396, za_397, za_398, za_399, za_400, za_401, zb_738, za_739, za_740, za_741, za_742, za_743, za_744, za_745, za_746, za_747, zb_748, za_749, za_750, zb_751, zb_752, za_753, za_754, za_755, za_756, zb_757, za_758, za_759, za_760, zb_761, za_763, za_764, za_765, true_and, and_true, Nat.reduceAdd]
    exact q1 hb
  refine h0 _ _ _ ?_
  simp only [bX11_cousin_0, zw_0, zw_1, zs_aloadn0, zs_aloadNn0, zg_11_10, zg_11_28, zs_astoren3, zs_astoreNn3, zs_aloadn3, zs_aloadNn3, zs_iloadn1, zi_11_82, zs_ifeq, zs_iloadn2, zs_iceq, zi_11_94, zc_none, zc_int, zc_ref, zc_null, zc_long, zh_0, zh_1, zh_2, zh_3, zh_4, zt_i, zt_l, zt_r, zt_n, zb_15, zb_16, zb_17, za_18, za_19, za_20, za_21, za_22, zb_23, za_24, za_25, za_26, za_27, za_28, za_29, za_30, za_31, za_32, zb_35, za_36, za_37, za_38, za_39, za_40, zb_377, zb_378, za_379, za_380, za_381, za_382, za_383, zb_384, za_385, za_386, za_387, za_388, za_389, za_390, za_391, za_392, za_393, zb_396, za_397, za_398, za_399, za_400, za_401, zb_738, za_739, za_740, za_741, za_742, za_743, za_744, za_745, za_746, za_747, zb_748, za_749, za_750, zb_751, zb_752, za_753, za_754, za_755, za_756, zb_757, za_758, za_759, za_760, zb_761, za_763, za_764, za_765, true_and, and_true, Nat.reduceAdd]
  refine zm_R_eq (c7_has hE d (n := n) (by omega) p hc) ?_
  simp only [bX11_cousin_0, zw_0, zw_1, zs_aloadn0, zs_aloadNn0, zg_11_10, zg_11_28, zs_astoren3, zs_astoreNn3, zs_aloadn3, zs_aloadNn3, zs_iloadn1, zi_11_82, zs_ifeq, zs_iloadn2, zs_iceq, zi_11_94, zc_none, zc_int, zc_ref, zc_null, zc_long, zh_0, zh_1, zh_2, zh_3, zh_4, zt_i, zt_l, zt_r, zt_n, zb_15, zb_16, zb_17, za_18, za_19, za_20, za_21, za_22, zb_23, za_24, za_25, za_26, za_27, za_28, za_29, za_30, za_31, za_32, zb_35, za_36, za_37, za_38, za_39, za_40, zb_377, zb_378, za_379, za_380, za_381, za_382, za_383, zb_384, za_385, za_386, za_387, za_388, za_389, za_390, za_391, za_392, za_393, zb_396, za_397, za_398, za_399, za_400, za_401, zb_738, za_739, za_740, za_741, za_742, za_743, za_744, za_745, za_746, za_747, zb_748, za_749, za_750, zb_751, zb_752, za_753, za_754, za_755, za_756, zb_757, za_758, za_759, za_760, zb_761, za_763, za_764, za_765, true_and, and_true, Nat.reduceAdd, zi_b0]
  refine ⟨fun h => bad (Or.inl h), fun hp => ?_⟩
  refine zm_R_eq (c7_has hE d (n := n) (by omega) q hc) ?_
  simp only [bX11_cousin_0, zw_0, zw_1, zs_aloadn0, zs_aloadNn0, zg_11_10, zg_11_28, zs_astoren3, zs_astoreNn3, zs_aloadn3, zs_aloadNn3, zs_iloadn1, zi_11_82, zs_ifeq, zs_iloadn2, zs_iceq, zi_11_94, zc_none, zc_int, zc_ref, zc_null, zc_long, zh_0, zh_1, zh_2, zh_3, zh_4, zt_i, zt_l, zt_r, zt_n, zb_15, zb_16, zb_17, za_18, za_19, za_20, za_21, za_22, zb_23, za_24, za_25, za_26, za_27, za_28, za_29, za_30, za_31, za_32, zb_35, za_36, za_37, za_38, za_39, za_40, zb_377, zb_378, za_379, za_380, za_381, za_382, za_383, zb_384, za_385, za_386, za_387, za_388, za_389, za_390, za_391, za_392, za_393, zb_396, za_397, za_398, za_399, za_400, za_401, zb_738, za_739, za_740, za_741, za_742, za_743, za_744, za_745, za_746, za_747, zb_748, za_749, za_750, zb_751, zb_752, za_753, za_754, za_755, za_756, zb_757, za_758, za_759, za_760, zb_761, za_763, za_764, za_765, true_and, and_true, Nat.reduceAdd, zi_b0]
  refine ⟨fun h => bad (Or.inr (Or.inl h)), fun hq => ⟨fun h => bad (Or.inr (Or.inr (Or.inl h))), fun hne => ?_⟩⟩
  simp only [Bool.not_eq_false] at hp hq
  obtain ⟨i, hi, rfl⟩ := zo_of hp (by omega)
  obtain ⟨j, hj, rfl⟩ := zo_of hq (by omega)
  have i1 : vp_in (nI i) 10 := vp_in_nI (by omega) (by decide)
  have j1 : vp_in (nI j) 10 := vp_in_nI (by omega) (by decide)
  have i2 : (nI i).toNatClampNeg = i := nI_clamp (by omega)
  have j2 : (nI j).toNatClampNeg = j := nI_clamp (by omega)
  have hij : i ≠ j := fun z => hne (by rw [z])
  refine zm_R_eq (c7_areCousins hE d (p := i) (by omega) (nI j) M) ?_
  simp only [bX11_cousin_0, zw_0, zw_1, zs_aloadn0, zs_aloadNn0, zg_11_10, zg_11_28, zs_astoren3, zs_astoreNn3, zs_aloadn3, zs_aloadNn3, zs_iloadn1, zi_11_82, zs_ifeq, zs_iloadn2, zs_iceq, zi_11_94, zc_none, zc_int, zc_ref, zc_null, zc_long, zh_0, zh_1, zh_2, zh_3, zh_4, zt_i, zt_l, zt_r, zt_n, zb_15, zb_16, zb_17, za_18, za_19, za_20, za_21, za_22, zb_23, za_24, za_25, za_26, za_27, za_28, za_29, za_30, za_31, za_32, zb_35, za_36, za_37, za_38, za_39, za_40, zb_377, zb_378, za_379, za_380, za_381, za_382, za_383, zb_384, za_385, za_386, za_387, za_388, za_389, za_390, za_391, za_392, za_393, zb_396, za_397, za_398, za_399, za_400, za_401, zb_738, za_739, za_740, za_741, za_742, za_743, za_744, za_745, za_746, za_747, zb_748, za_749, za_750, zb_751, zb_752, za_753, za_754, za_755, za_756, zb_757, za_758, za_759, za_760, zb_761, za_763, za_764, za_765, true_and, and_true, Nat.reduceAdd]
  refine ⟨fun h => ?_, fun h => bad (Or.inr (Or.inr (Or.inr ?_)))⟩
  · refine h40 _ _ _ ?_
    simp only [bX11_cousin_40, zw_0, zw_1, zs_aloadn3, zs_aloadNn3, zg_11_98, zs_iloadn1, zs_dup2, zs_iaload, zs_iconst, zs_iloadn2, zs_ishl, zs_ior, zs_iastore, zs_ireturn, zn_int, zn_b0, zn_b1, zb_15, zb_16, zb_17, za_18, za_19, za_20, za_21, za_22, zb_23, za_24, za_25, za_26, za_27, za_28, za_29, za_30, za_31, za_32, zb_35, za_36, za_37, za_38, za_39, za_40, zb_377, zb_378, za_379, za_380, za_381, za_382, za_383, zb_384, za_385, za_386, za_387, za_388, za_389, za_390, za_391, za_392, za_393, zb_396, za_397, za_398, za_399, za_400, za_401, zb_738, za_739, za_740, za_741, za_742, za_743, za_744, za_745, za_746, za_747, zb_748, za_749, za_750, zb_751, zb_752, za_753, za_754, za_755, za_756, zb_757, za_758, za_759, za_760, zb_761, za_763, za_764, za_765, zu_0, zu_1, zu_2, zu_3, zu_4, zu_5, zu_6, zu_7, zu_8, zu_9, zu_10, zu_11, zu_12, zu_13, zu_14, zu_15, zu_16, zu_17, zu_18, zu_19, zu_20, zu_21, zu_22, zu_23, zu_24, zu_25, zu_26, zu_27, zu_28, zu_29, zu_30, zu_90, zv_0_9, zv_1_9, zv_2_9, zv_3_9, zv_4_9, zv_5_9, zv_6_9, zv_7_9, zv_8_9, zv_0_330, zv_0_4544, zv_1_4544, zv_2_4544, zv_3_4544, zv_4_4544, zv_5_4544, zv_6_4544, zv_7_4544, zv_8_4544, zv_9_4544, zv_10_4544, zv_11_4544, zv_12_4544, zv_13_4544, zv_14_4544, zv_15_4544, zv_16_4544, zv_17_4544, zv_18_4544, zv_19_4544, zv_20_4544, zv_21_4544, zv_22_4544, zv_23_4544, zv_24_4544, zv_25_4544, zv_26_4544, zv_27_4544, zv_28_4544, zv_29_4544, zv_0_11, zv_1_11, zv_0_160, true_and, and_true, Nat.reduceAdd, i1, i2, j1, j2]
    have e : (zm_wi M 21 i (M.1 21 i ||| (1 : Int32) <<< (nI j &&& 31))).1 21 j = M.1 21 j := by
      rw [zm_wi_same, if_neg (fun z => hij z.symm)]
    rw [e, zx_1s j (by omega), zx_1s i (by omega)]
    refine q2 i j hi hj hij rfl rfl (fun hb => ?_)
    rcases hb with z | z | z | z
    · rw [hp] at z; cases z
    · rw [hq] at z; cases z
    · exact hne z
    · rw [i2] at z; exact z h
  · rw [i2]; exact h
