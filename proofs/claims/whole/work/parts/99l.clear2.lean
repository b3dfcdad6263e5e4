/-! ===== the class: a Law is cleared ===== -/
theorem c1_clear {E : zm_E} (hE : zm_ok E.2.2.1 E.2.2.2.2) (d : Nat) {L : Nat} (hL : zl_ok L) {M : zm_M} {Q : Option Value → zm_M → Prop} (q : ∀ M', M'.1 L 0 = 0 → M'.1 L 7 = 0 → (∀ w, w < 3 → M'.1 (L + 5) w = -1) → (∀ w, w < 3 → M'.1 (L + 6) w = -1) → zf [L, L + 5, L + 6] M M' → zg L [0, 7] M M' → Q none M') : zm_R E (d + 2) mX1_clear [.ref L] M Q := by
  refine zX1_clear hE rfl (fun G h0 => ?_)
  show G 0 [some (.ref L)] [] M
  have ol := eq_true hL.2.1
  have A5 := hL.2.2.2.1 5 (by omega) (by omega)
  have A6 := hL.2.2.2.1 6 (by omega) (by omega)
  refine h0 _ _ _ ?_
  simp only [bX1_clear_0, zw_0, zw_1, zs_aloadn0, zs_aloadNn0, zs_iconst, zq_1_9, zq_1_34, zg_1_28, zi_1_49, zg_1_31, zs_return, zh_0, zh_1, zh_2, zh_3, zh_4, zt_i, zt_l, zt_r, zt_n, zn_int, zn_b0, zn_b1, zb_15, zb_16, zb_17, za_18, za_19, za_20, za_21, za_22, zb_23, za_24, za_25, za_26, za_27, za_28, za_29, za_30, za_31, za_32, zb_35, za_36, za_37, za_38, za_39, za_40, zb_377, zb_378, za_379, za_380, za_381, za_382, za_383, zb_384, za_385, za_386, za_387, za_388, za_389, za_390, za_391, za_392, za_393, zb_396, za_397, za_398, za_399, za_400, za_401, zb_738, za_739, za_740, za_741, za_742, za_743, za_744, za_745, za_746, za_747, zb_748, za_749, za_750, zb_751, zb_752, za_753, za_754, za_755, za_756, zb_757, za_758, za_759, za_760, zb_761, za_763, za_764, za_765, true_and, and_true, Nat.reduceAdd, ol]
  refine zm_R_mono (c_fill hE d A5 (by decide) (-1)) (fun r M1 h1 => ?_)
  obtain ⟨rfl, f1, e1⟩ := h1
  simp only [bX1_clear_0, zw_0, zw_1, zs_aloadn0, zs_aloadNn0, zs_iconst, zq_1_9, zq_1_34, zg_1_28, zi_1_49, zg_1_31, zs_return, zh_0, zh_1, zh_2, zh_3, zh_4, zt_i, zt_l, zt_r, zt_n, zn_int, zn_b0, zn_b1, zb_15, zb_16, zb_17, za_18, za_19, za_20, za_21, za_22, zb_23, za_24, za_25, za_26, za_27, za_28, za_29, za_30, za_31, za_32, zb_35, za_36, za_37, za_38, za_39, za_40, zb_377, zb_378, za_379, za_380, za_381, za_382, za_383, zb_384, za_385, za_386, za_387, za_388, za_389, za_390, za_391, za_392, za_393, zb_396, za_397, za_398, za_399, za_400, za_401, zb_738, za_739, za_740, za_741, za_742, za_743, za_744, za_745, za_746, za_747, zb_748, za_749, za_750, zb_751, zb_752, za_753, za_754, za_755, za_756, zb_757, za_758, za_759, za_760, zb_761, za_763, za_764, za_765, true_and, and_true, Nat.reduceAdd, ol]
  refine zm_R_mono (c_fill hE d A6 (by decide) (-1)) (fun r M2 h2 => ?_)
  obtain ⟨rfl, f2, e2⟩ := h2
  simp only [bX1_clear_0, zw_0, zw_1, zs_aloadn0, zs_aloadNn0, zs_iconst, zq_1_9, zq_1_34, zg_1_28, zi_1_49, zg_1_31, zs_return, zh_0, zh_1, zh_2, zh_3, zh_4, zt_i, zt_l, zt_r, zt_n, zn_int, zn_b0, zn_b1, zb_15, zb_16, zb_17, za_18, za_19, za_20, za_21, za_22, zb_23, za_24, za_25, za_26, za_27, za_28, za_29, za_30, za_31, za_32, zb_35, za_36, za_37, za_38, za_39, za_40, zb_377, zb_378, za_379, za_380, za_381, za_382, za_383, zb_384, za_385, za_386, za_387, za_388, za_389, za_390, za_391, za_392, za_393, zb_396, za_397, za_398, za_399, za_400, za_401, zb_738, za_739, za_740, za_741, za_742, za_743, za_744, za_745, za_746, za_747, zb_748, za_749, za_750, zb_751, zb_752, za_753, za_754, za_755, za_756, zb_757, za_758, za_759, za_760, zb_761, za_763, za_764, za_765, true_and, and_true, Nat.reduceAdd]
  have b1 : M2.1 L = (zm_wi (zm_wi M L 0 0) L 7 0).1 L := by rw [(f2 L (by simp)).1, (f1 L (by simp)).1]
  refine q M2 ?_ ?_ (fun w hw => ?_) (fun w hw => e2 w hw) ?_ (fun j hj => ?_)
  · rw [b1, zm_wi_same, if_neg (by decide), zm_wi_same, if_pos rfl]
  · rw [b1, zm_wi_same, if_pos rfl]
  · rw [(f2 (L + 5) (by simp)).1]; exact e1 w hw
  · exact zf_trans (zf_wi (zf_wi zf_refl (by simp)) (by simp)) (zf_trans (zf_sub f1 (by simp)) (zf_sub f2 (by simp)))
  · have hj : j ≠ 0 ∧ j ≠ 7 := by simpa using hj
    rw [b1, zm_wi_same, if_neg hj.2, zm_wi_same, if_neg hj.1]
