/-! ===== the class: comparisons, asks; all of a sum ===== -/
section
variable {E : zm_E} {tp : Nat → Nat} {n m L cl : Nat} {R : zd_RT} {F : zd_FT}
theorem zd_C4 (hE : zm_ok E.2.2.1 E.2.2.2.2) (ht : ∀ j, tp j < 256) (hL : zl_ok L) {o dd : Nat} (hdd : 10 ≤ dd) (rl : zd_4 (zs_T tp n) R F) (C : zd_C tp n m L cl R F E dd mX5_readSum 5 o) {d k c : Nat} {M : zm_M} (hd : dd + 1 ≤ d) (h27 : ¬ zs_T tp n k = 27) (hS : zd_S tp n m L cl k c M) {Q : Option Value → zm_M → Prop} (qo : zd_QO tp n m L cl R 4 o k c M Q) (qf : zd_QF tp n m L F 4 o k c M Q) : zm_R E d mX5_readComparison [.ref 761, .int (nI o)] M Q := by
  obtain ⟨d, rfl⟩ : ∃ e, d = e + 1 := ⟨d - 1, by omega⟩
  obtain ⟨ra, rb⟩ := rl o k h27
  refine zX5_readComparison hE rfl (fun G h0 h25 => ?_)
  show G 0 [some (.ref 761), some (.int (nI o)), none] [] M
  have ol := eq_true hL.2.1
  have l := hL.1.1
  refine h0 _ _ _ ?_
  simp only [bX5_readComparison_0, zw_0, zw_1, zs_aloadn0, zs_aloadNn0, zs_iloadn1, zi_5_164, zg_5_45, zgw_207, zs_istoren2, zs_iloadn2, zs_bipush, zs_icge, zs_iconst, zi_5_125, zs_return, zc_none, zc_int, zc_ref, zc_null, zc_long, zh_0, zh_1, zh_2, zh_3, zh_4, zt_i, zt_l, zt_r, zt_n, zn_int, zn_b0, zn_b1, zb_15, zb_16, zb_17, za_18, za_19, za_20, za_21, za_22, zb_23, za_24, za_25, za_26, za_27, za_28, za_29, za_30, za_31, za_32, zb_35, za_36, za_37, za_38, za_39, za_40, zb_377, zb_378, za_379, za_380, za_381, za_382, za_383, zb_384, za_385, za_386, za_387, za_388, za_389, za_390, za_391, za_392, za_393, zb_396, za_397, za_398, za_399, za_400, za_401, zb_738, za_739, za_740, za_741, za_742, za_743, za_744, za_745, za_746, za_747, zb_748, za_749, za_750, zb_751, zb_752, za_753, za_754, za_755, za_756, zb_757, za_758, za_759, za_760, zb_761, za_763, za_764, za_765, true_and, and_true, Nat.reduceAdd]
  refine C _ k c M (by omega) hS _ (fun k1 c1 D1 M1 R1 nx1 S1 F1 cc1 ct1 kk1 sm1 _ => ?_) (fun f j c1 M1 f1 e1 F1 cc1 => ?_)
  · obtain ⟨rc, rd⟩ := rb k1 D1 R1
    have g8 := zd_w8 S1
    have w44 : zs_T tp n k1 < 44 := zk_w_in _ _ _
    have a1 := nx1.1 (by omega)
    have a2 := nx1.2.1 (by omega)
    have ck1 := S1.2.2.2.2.2
    by_cases cmp : 28 ≤ zs_T tp n k1 ∧ zs_T tp n k1 ≤ 33
    · obtain ⟨re, rg⟩ := rd cmp.1 cmp.2
      have fv : zz_fv 2 (zs_T tp n k1) = nI (zs_T tp n k1 - 16) := by
        show zz_oc.getD (zs_T tp n k1) 0 = _
        rw [zz_oc_at _ w44, if_pos cmp]
      have ge : ((12 : Int32) ≤ nI (zs_T tp n k1 - 16)) = True := eq_true (nI_le (a := 12) (by omega) (by omega))
      simp only [bX5_readComparison_0, zw_0, zw_1, zs_aloadn0, zs_aloadNn0, zs_iloadn1, zi_5_164, zg_5_45, zgw_207, zs_istoren2, zs_iloadn2, zs_bipush, zs_icge, zs_iconst, zi_5_125, zs_return, zc_none, zc_int, zc_ref, zc_null, zc_long, zh_0, zh_1, zh_2, zh_3, zh_4, zt_i, zt_l, zt_r, zt_n, zn_int, zn_b0, zn_b1, zb_15, zb_16, zb_17, za_18, za_19, za_20, za_21, za_22, zb_23, za_24, za_25, za_26, za_27, za_28, za_29, za_30, za_31, za_32, zb_35, za_36, za_37, za_38, za_39, za_40, zb_377, zb_378, za_379, za_380, za_381, za_382, za_383, zb_384, za_385, za_386, za_387, za_388, za_389, za_390, za_391, za_392, za_393, zb_396, za_397, za_398, za_399, za_400, za_401, zb_738, za_739, za_740, za_741, za_742, za_743, za_744, za_745, za_746, za_747, zb_748, za_749, za_750, zb_751, zb_752, za_753, za_754, za_755, za_756, zb_757, za_758, za_759, za_760, zb_761, za_763, za_764, za_765, true_and, and_true, Nat.reduceAdd, g8, zk_rf, fv, ge]
      refine ⟨w44, fun _ => ?_, fun h => absurd trivial h⟩
      refine h25 _ _ _ ?_
      simp only [bX5_readComparison_25, zw_0, zw_1, zs_aloadn0, zs_aloadNn0, zi_5_122, zs_iloadn1, zi_5_164, zg_5_51, zs_iloadn2, zs_iconst, zi_5_210, zs_popi, zs_popr, zs_popn, zs_return, zh_0, zh_1, zh_2, zh_3, zh_4, zt_i, zt_l, zt_r, zt_n, zn_int, zn_b0, zn_b1, zb_15, zb_16, zb_17, za_18, za_19, za_20, za_21, za_22, zb_23, za_24, za_25, za_26, za_27, za_28, za_29, za_30, za_31, za_32, zb_35, za_36, za_37, za_38, za_39, za_40, zb_377, zb_378, za_379, za_380, za_381, za_382, za_383, zb_384, za_385, za_386, za_387, za_388, za_389, za_390, za_391, za_392, za_393, zb_396, za_397, za_398, za_399, za_400, za_401, zb_738, za_739, za_740, za_741, za_742, za_743, za_744, za_745, za_746, za_747, zb_748, za_749, za_750, zb_751, zb_752, za_753, za_754, za_755, za_756, zb_757, za_758, za_759, za_760, zb_761, za_763, za_764, za_765, true_and, and_true, Nat.reduceAdd]
      refine zd_step (by omega) S1 (by omega) hE ht hL (fun M2 S2 g2 => ?_)
      have F2 := zd_F_trans F1 (zd_F_g (c := c) hL g2)
      simp only [bX5_readComparison_25, zw_0, zw_1, zs_aloadn0, zs_aloadNn0, zi_5_122, zs_iloadn1, zi_5_164, zg_5_51, zs_iloadn2, zs_iconst, zi_5_210, zs_popi, zs_popr, zs_popn, zs_return, zh_0, zh_1, zh_2, zh_3, zh_4, zt_i, zt_l, zt_r, zt_n, zn_int, zn_b0, zn_b1, zb_15, zb_16, zb_17, za_18, za_19, za_20, za_21, za_22, zb_23, za_24, za_25, za_26, za_27, za_28, za_29, za_30, za_31, za_32, zb_35, za_36, za_37, za_38, za_39, za_40, zb_377, zb_378, za_379, za_380, za_381, za_382, za_383, zb_384, za_385, za_386, za_387, za_388, za_389, za_390, za_391, za_392, za_393, zb_396, za_397, za_398, za_399, za_400, za_401, zb_738, za_739, za_740, za_741, za_742, za_743, za_744, za_745, za_746, za_747, zb_748, za_749, za_750, zb_751, zb_752, za_753, za_754, za_755, za_756, zb_757, za_758, za_759, za_760, zb_761, za_763, za_764, za_765, true_and, and_true, Nat.reduceAdd]
      refine C _ (k1 + 1) c1 M2 (by omega) S2 _ (fun k2 c2 D2 M3 R3 nx3 S3 F3 cc3 ct3 kk3 sm3 _ => ?_) (fun f j c2 M3 f3 e3 F3 cc3 => ?_)
      · have w3 := S3.2.1
        have km3 := S3.1.2.1
        have m3 := S3.1.1.2.1
        simp only [bX5_readComparison_25, zw_0, zw_1, zs_aloadn0, zs_aloadNn0, zi_5_122, zs_iloadn1, zi_5_164, zg_5_51, zs_iloadn2, zs_iconst, zi_5_210, zs_popi, zs_popr, zs_popn, zs_return, zh_0, zh_1, zh_2, zh_3, zh_4, zt_i, zt_l, zt_r, zt_n, zn_int, zn_b0, zn_b1, zb_15, zb_16, zb_17, za_18, za_19, za_20, za_21, za_22, zb_23, za_24, za_25, za_26, za_27, za_28, za_29, za_30, za_31, za_32, zb_35, za_36, za_37, za_38, za_39, za_40, zb_377, zb_378, za_379, za_380, za_381, za_382, za_383, zb_384, za_385, za_386, za_387, za_388, za_389, za_390, za_391, za_392, za_393, zb_396, za_397, za_398, za_399, za_400, za_401, zb_738, za_739, za_740, za_741, za_742, za_743, za_744, za_745, za_746, za_747, zb_748, za_749, za_750, zb_751, zb_752, za_753, za_754, za_755, za_756, zb_757, za_758, za_759, za_760, zb_761, za_763, za_764, za_765, true_and, and_true, Nat.reduceAdd, w3, zk_rf, ol]
        refine zd_put (by omega) (by omega) S3 hE hL (fun M4 S4 f4 p4 v4 => ?_)
        simp only [bX5_readComparison_25, zw_0, zw_1, zs_aloadn0, zs_aloadNn0, zi_5_122, zs_iloadn1, zi_5_164, zg_5_51, zs_iloadn2, zs_iconst, zi_5_210, zs_popi, zs_popr, zs_popn, zs_return, zh_0, zh_1, zh_2, zh_3, zh_4, zt_i, zt_l, zt_r, zt_n, zn_int, zn_b0, zn_b1, zb_15, zb_16, zb_17, za_18, za_19, za_20, za_21, za_22, zb_23, za_24, za_25, za_26, za_27, za_28, za_29, za_30, za_31, za_32, zb_35, za_36, za_37, za_38, za_39, za_40, zb_377, zb_378, za_379, za_380, za_381, za_382, za_383, zb_384, za_385, za_386, za_387, za_388, za_389, za_390, za_391, za_392, za_393, zb_396, za_397, za_398, za_399, za_400, za_401, zb_738, za_739, za_740, za_741, za_742, za_743, za_744, za_745, za_746, za_747, zb_748, za_749, za_750, zb_751, zb_752, za_753, za_754, za_755, za_756, zb_757, za_758, za_759, za_760, zb_761, za_763, za_764, za_765, true_and, and_true, Nat.reduceAdd]
        refine qo k2 (c2 + 1) _ M4 (rg k2 D2 R3) ⟨fun _ => nx3.1 (by omega), fun _ => nx3.2.1 (by omega), fun z => by omega, fun z => by omega⟩ S4 (zd_F_t (zd_F_t F2 F3 cc1) f4 (by omega)) (by omega) (by omega) (by omega) (zl_sm_bin (op := zs_T tp n k1 - 16) (by omega) (zl_sm_c sm1 (fun i _ i2 => ⟨?_, ?_⟩)) (zl_sm_c sm3 (fun i _ i2 => f4.2.2.2.2 i i2)) p4 v4 (Or.inr ⟨by omega, by omega, rfl⟩)) ?_
        · rw [(f4.2.2.2.2 i (by omega)).1, (F3.2.2.2.2 i i2).1, (g2.1 (L + 7) (by simp; omega)).1]
        · rw [(f4.2.2.2.2 i (by omega)).2, (F3.2.2.2.2 i i2).2, (g2.1 (L + 8) (by simp; omega)).1]
        · intro _ nm rk
          show (if zq_cp _ _ _ = true then (1 : Int) else 0) = 0 ∨ (if zq_cp _ _ _ = true then (1 : Int) else 0) = 1
          split <;> simp
      · have w3 := e3.2.1
        simp only [bX5_readComparison_25, zw_0, zw_1, zs_aloadn0, zs_aloadNn0, zi_5_122, zs_iloadn1, zi_5_164, zg_5_51, zs_iloadn2, zs_iconst, zi_5_210, zs_popi, zs_popr, zs_popn, zs_return, zh_0, zh_1, zh_2, zh_3, zh_4, zt_i, zt_l, zt_r, zt_n, zn_int, zn_b0, zn_b1, zb_15, zb_16, zb_17, za_18, za_19, za_20, za_21, za_22, zb_23, za_24, za_25, za_26, za_27, za_28, za_29, za_30, za_31, za_32, zb_35, za_36, za_37, za_38, za_39, za_40, zb_377, zb_378, za_379, za_380, za_381, za_382, za_383, zb_384, za_385, za_386, za_387, za_388, za_389, za_390, za_391, za_392, za_393, zb_396, za_397, za_398, za_399, za_400, za_401, zb_738, za_739, za_740, za_741, za_742, za_743, za_744, za_745, za_746, za_747, zb_748, za_749, za_750, zb_751, zb_752, za_753, za_754, za_755, za_756, zb_757, za_758, za_759, za_760, zb_761, za_763, za_764, za_765, true_and, and_true, Nat.reduceAdd, w3, zk_rf, ol]
        refine zd_putE (by omega) e3 hE hL (fun x c3 M4 hx e4 f4 cc4 => ?_)
        simp only [bX5_readComparison_25, zw_0, zw_1, zs_aloadn0, zs_aloadNn0, zi_5_122, zs_iloadn1, zi_5_164, zg_5_51, zs_iloadn2, zs_iconst, zi_5_210, zs_popi, zs_popr, zs_popn, zs_return, zh_0, zh_1, zh_2, zh_3, zh_4, zt_i, zt_l, zt_r, zt_n, zn_int, zn_b0, zn_b1, zb_15, zb_16, zb_17, za_18, za_19, za_20, za_21, za_22, zb_23, za_24, za_25, za_26, za_27, za_28, za_29, za_30, za_31, za_32, zb_35, za_36, za_37, za_38, za_39, za_40, zb_377, zb_378, za_379, za_380, za_381, za_382, za_383, zb_384, za_385, za_386, za_387, za_388, za_389, za_390, za_391, za_392, za_393, zb_396, za_397, za_398, za_399, za_400, za_401, zb_738, za_739, za_740, za_741, za_742, za_743, za_744, za_745, za_746, za_747, zb_748, za_749, za_750, zb_751, zb_752, za_753, za_754, za_755, za_756, zb_757, za_758, za_759, za_760, zb_761, za_763, za_764, za_765, true_and, and_true, Nat.reduceAdd]
        exact qf f j c3 M4 (re f j f3) e4 (zd_F_t (zd_F_t F2 F3 cc1) f4 (by omega)) (by omega)
    · have fv : zz_fv 2 (zs_T tp n k1) = -1 := by
        show zz_oc.getD (zs_T tp n k1) 0 = _
        rw [zz_oc_at _ w44, if_neg cmp, if_neg (by omega)]
      simp only [bX5_readComparison_0, zw_0, zw_1, zs_aloadn0, zs_aloadNn0, zs_iloadn1, zi_5_164, zg_5_45, zgw_207, zs_istoren2, zs_iloadn2, zs_bipush, zs_icge, zs_iconst, zi_5_125, zs_return, zc_none, zc_int, zc_ref, zc_null, zc_long, zh_0, zh_1, zh_2, zh_3, zh_4, zt_i, zt_l, zt_r, zt_n, zn_int, zn_b0, zn_b1, zb_15, zb_16, zb_17, za_18, za_19, za_20, za_21, za_22, zb_23, za_24, za_25, za_26, za_27, za_28, za_29, za_30, za_31, za_32, zb_35, za_36, za_37, za_38, za_39, za_40, zb_377, zb_378, za_379, za_380, za_381, za_382, za_383, zb_384, za_385, za_386, za_387, za_388, za_389, za_390, za_391, za_392, za_393, zb_396, za_397, za_398, za_399, za_400, za_401, zb_738, za_739, za_740, za_741, za_742, za_743, za_744, za_745, za_746, za_747, zb_748, za_749, za_750, zb_751, zb_752, za_753, za_754, za_755, za_756, zb_757, za_758, za_759, za_760, zb_761, za_763, za_764, za_765, true_and, and_true, Nat.reduceAdd, g8, zk_rf, fv]
      refine ⟨w44, fun h => absurd h (by decide), fun _ => ?_⟩
      refine zd_comp (f := 1) (by omega) (by decide) S1 hE hL (fun M2 e2 g2 => ?_)
      simp only [bX5_readComparison_0, zw_0, zw_1, zs_aloadn0, zs_aloadNn0, zs_iloadn1, zi_5_164, zg_5_45, zgw_207, zs_istoren2, zs_iloadn2, zs_bipush, zs_icge, zs_iconst, zi_5_125, zs_return, zc_none, zc_int, zc_ref, zc_null, zc_long, zh_0, zh_1, zh_2, zh_3, zh_4, zt_i, zt_l, zt_r, zt_n, zn_int, zn_b0, zn_b1, zb_15, zb_16, zb_17, za_18, za_19, za_20, za_21, za_22, zb_23, za_24, za_25, za_26, za_27, za_28, za_29, za_30, za_31, za_32, zb_35, za_36, za_37, za_38, za_39, za_40, zb_377, zb_378, za_379, za_380, za_381, za_382, za_383, zb_384, za_385, za_386, za_387, za_388, za_389, za_390, za_391, za_392, za_393, zb_396, za_397, za_398, za_399, za_400, za_401, zb_738, za_739, za_740, za_741, za_742, za_743, za_744, za_745, za_746, za_747, zb_748, za_749, za_750, zb_751, zb_752, za_753, za_754, za_755, za_756, zb_757, za_758, za_759, za_760, zb_761, za_763, za_764, za_765, true_and, and_true, Nat.reduceAdd]
      exact qf 1 k1 c1 M2 (rc nx1 cmp) e2 (zd_F_trans F1 (zd_F_g hL g2)) cc1
  · obtain ⟨w, hw, g8⟩ : ∃ w, w = 43 ∧ M1.2.2 761 8 = some (1000 + w) := ⟨43, rfl, zd_wE e1⟩
    have n43 : zz_fv 2 w = -1 := by rw [hw]; decide +kernel
    simp only [bX5_readComparison_0, zw_0, zw_1, zs_aloadn0, zs_aloadNn0, zs_iloadn1, zi_5_164, zg_5_45, zgw_207, zs_istoren2, zs_iloadn2, zs_bipush, zs_icge, zs_iconst, zi_5_125, zs_return, zc_none, zc_int, zc_ref, zc_null, zc_long, zh_0, zh_1, zh_2, zh_3, zh_4, zt_i, zt_l, zt_r, zt_n, zn_int, zn_b0, zn_b1, zb_15, zb_16, zb_17, za_18, za_19, za_20, za_21, za_22, zb_23, za_24, za_25, za_26, za_27, za_28, za_29, za_30, za_31, za_32, zb_35, za_36, za_37, za_38, za_39, za_40, zb_377, zb_378, za_379, za_380, za_381, za_382, za_383, zb_384, za_385, za_386, za_387, za_388, za_389, za_390, za_391, za_392, za_393, zb_396, za_397, za_398, za_399, za_400, za_401, zb_738, za_739, za_740, za_741, za_742, za_743, za_744, za_745, za_746, za_747, zb_748, za_749, za_750, zb_751, zb_752, za_753, za_754, za_755, za_756, zb_757, za_758, za_759, za_760, zb_761, za_763, za_764, za_765, true_and, and_true, Nat.reduceAdd, g8, zk_rf, n43]
    refine ⟨by omega, fun h => absurd h (by decide), fun _ => ?_⟩
    refine zd_compE (by omega) e1 hE hL (fun M2 e2 g2 => ?_)
    simp only [bX5_readComparison_0, zw_0, zw_1, zs_aloadn0, zs_aloadNn0, zs_iloadn1, zi_5_164, zg_5_45, zgw_207, zs_istoren2, zs_iloadn2, zs_bipush, zs_icge, zs_iconst, zi_5_125, zs_return, zc_none, zc_int, zc_ref, zc_null, zc_long, zh_0, zh_1, zh_2, zh_3, zh_4, zt_i, zt_l, zt_r, zt_n, zn_int, zn_b0, zn_b1, zb_15, zb_16, zb_17, za_18, za_19, za_20, za_21, za_22, zb_23, za_24, za_25, za_26, za_27, za_28, za_29, za_30, za_31, za_32, zb_35, za_36, za_37, za_38, za_39, za_40, zb_377, zb_378, za_379, za_380, za_381, za_382, za_383, zb_384, za_385, za_386, za_387, za_388, za_389, za_390, za_391, za_392, za_393, zb_396, za_397, za_398, za_399, za_400, za_401, zb_738, za_739, za_740, za_741, za_742, za_743, za_744, za_745, za_746, za_747, zb_748, za_749, za_750, zb_751, zb_752, za_753, za_754, za_755, za_756, zb_757, za_758, za_759, za_760, zb_761, za_763, za_764, za_765, true_and, and_true, Nat.reduceAdd]
    exact qf f j c1 M2 (ra f j f1) e2 (zd_F_trans F1 (zd_F_g hL g2)) cc1
theorem zd_C3 (hE : zm_ok E.2.2.1 E.2.2.2.2) (ht : ∀ j, tp j < 256) (hL : zl_ok L) {o dd d3 : Nat} (hdd : 10 ≤ dd) (ho : o ≤ 8) (h3d : d3 ≤ dd) (rl4 : zd_4 (zs_T tp n) R F) (rl : zd_3 (zs_T tp n) R F) (C : zd_C tp n m L cl R F E dd mX5_readSum 5 o) (C3 : o < 8 → zd_C tp n m L cl R F E d3 mX5_readAsk 3 (o + 1)) : zd_C tp n m L cl R F E (dd + 2) mX5_readAsk 3 o := by
  intro d k c M hd hS Q qo qf
  have qo : zd_QO tp n m L cl R 3 o k c M Q := qo
  have qf : zd_QF tp n m L F 3 o k c M Q := qf
  obtain ⟨d, rfl⟩ : ∃ e, d = e + 1 := ⟨d - 1, by omega⟩
  refine zX5_readAsk hE rfl (fun G h0 h18 h32 h53 => ?_)
  show G 0 [some (.ref 761), some (.int (nI o))] [] M
  have ol := eq_true hL.2.1
  have g8 := zd_w8 hS
  have ck := hS.2.2.2.2.2
  have e27 : (1000 + zs_T tp n k = 1027) = (zs_T tp n k = 27) := propext ⟨fun z => by omega, fun z => by omega⟩
  have l8 : (nI o < 8) = (o < 8) := propext (nI_ltI (b := 8) (by omega) (by decide))
  have fin : ∀ M1, Q none M1 → G 53 [some (.ref 761), some (.int (nI o))] [] M1 := by
    intro M1 h
    refine h53 _ _ _ ?_
    simp only [bX5_readAsk_53, zw_0, zw_1, zs_return, zn_int, zn_b0, zn_b1, zb_15, zb_16, zb_17, za_18, za_19, za_20, za_21, za_22, zb_23, za_24, za_25, za_26, za_27, za_28, za_29, za_30, za_31, za_32, zb_35, za_36, za_37, za_38, za_39, za_40, zb_377, zb_378, za_379, za_380, za_381, za_382, za_383, zb_384, za_385, za_386, za_387, za_388, za_389, za_390, za_391, za_392, za_393, zb_396, za_397, za_398, za_399, za_400, za_401, zb_738, za_739, za_740, za_741, za_742, za_743, za_744, za_745, za_746, za_747, zb_748, za_749, za_750, zb_751, zb_752, za_753, za_754, za_755, za_756, zb_757, za_758, za_759, za_760, zb_761, za_763, za_764, za_765, true_and, and_true, Nat.reduceAdd]
    exact h
  refine h0 _ _ _ ?_
  simp only [bX5_readAsk_0, zw_0, zw_1, zs_aloadn0, zs_aloadNn0, zg_5_45, zgs_279, zs_aceq, zs_iloadn1, zi_5_282, zs_goto, zh_0, zh_1, zh_2, zh_3, zh_4, zt_i, zt_l, zt_r, zt_n, zb_15, zb_16, zb_17, za_18, za_19, za_20, za_21, za_22, zb_23, za_24, za_25, za_26, za_27, za_28, za_29, za_30, za_31, za_32, zb_35, za_36, za_37, za_38, za_39, za_40, zb_377, zb_378, za_379, za_380, za_381, za_382, za_383, zb_384, za_385, za_386, za_387, za_388, za_389, za_390, za_391, za_392, za_393, zb_396, za_397, za_398, za_399, za_400, za_401, zb_738, za_739, za_740, za_741, za_742, za_743, za_744, za_745, za_746, za_747, zb_748, za_749, za_750, zb_751, zb_752, za_753, za_754, za_755, za_756, zb_757, za_758, za_759, za_760, zb_761, za_763, za_764, za_765, true_and, and_true, Nat.reduceAdd, g8, zk_rf, e27]
  refine ⟨fun y => ?_, fun z => ?_⟩
  · refine h18 _ _ _ ?_
    simp only [bX5_readAsk_18, zw_0, zw_1, zs_iloadn1, zs_bipush, zs_iclt, zs_aloadn0, zs_aloadNn0, zs_iconst, zi_5_125, zs_goto, zh_0, zh_1, zh_2, zh_3, zh_4, zt_i, zt_l, zt_r, zt_n, zb_15, zb_16, zb_17, za_18, za_19, za_20, za_21, za_22, zb_23, za_24, za_25, za_26, za_27, za_28, za_29, za_30, za_31, za_32, zb_35, za_36, za_37, za_38, za_39, za_40, zb_377, zb_378, za_379, za_380, za_381, za_382, za_383, zb_384, za_385, za_386, za_387, za_388, za_389, za_390, za_391, za_392, za_393, zb_396, za_397, za_398, za_399, za_400, za_401, zb_738, za_739, za_740, za_741, za_742, za_743, za_744, za_745, za_746, za_747, zb_748, za_749, za_750, zb_751, zb_752, za_753, za_754, za_755, za_756, zb_757, za_758, za_759, za_760, zb_761, za_763, za_764, za_765, true_and, and_true, Nat.reduceAdd, l8]
    refine ⟨fun lt => ?_, fun ge => ?_⟩
    · obtain ⟨ra, rb⟩ := rl.2.2 o k lt y
      refine h32 _ _ _ ?_
      simp only [bX5_readAsk_32, zw_0, zw_1, zs_aloadn0, zs_aloadNn0, zi_5_122, zs_iloadn1, zs_iconst, zs_iadd, zi_5_273, zg_5_51, zi_5_210, zs_popi, zs_popr, zs_popn, zh_0, zh_1, zh_2, zh_3, zh_4, zt_i, zt_l, zt_r, zt_n, zb_15, zb_16, zb_17, za_18, za_19, za_20, za_21, za_22, zb_23, za_24, za_25, za_26, za_27, za_28, za_29, za_30, za_31, za_32, zb_35, za_36, za_37, za_38, za_39, za_40, zb_377, zb_378, za_379, za_380, za_381, za_382, za_383, zb_384, za_385, za_386, za_387, za_388, za_389, za_390, za_391, za_392, za_393, zb_396, za_397, za_398, za_399, za_400, za_401, zb_738, za_739, za_740, za_741, za_742, za_743, za_744, za_745, za_746, za_747, zb_748, za_749, za_750, zb_751, zb_752, za_753, za_754, za_755, za_756, zb_757, za_758, za_759, za_760, zb_761, za_763, za_764, za_765, true_and, and_true, Nat.reduceAdd]
      refine zd_step (by omega) hS (by omega) hE ht hL (fun M1 S1 g1 => ?_)
      have F1 : zd_F L c M M1 := zd_F_g hL g1
      simp only [bX5_readAsk_32, zw_0, zw_1, zs_aloadn0, zs_aloadNn0, zi_5_122, zs_iloadn1, zs_iconst, zs_iadd, zi_5_273, zg_5_51, zi_5_210, zs_popi, zs_popr, zs_popn, zh_0, zh_1, zh_2, zh_3, zh_4, zt_i, zt_l, zt_r, zt_n, zb_15, zb_16, zb_17, za_18, za_19, za_20, za_21, za_22, zb_23, za_24, za_25, za_26, za_27, za_28, za_29, za_30, za_31, za_32, zb_35, za_36, za_37, za_38, za_39, za_40, zb_377, zb_378, za_379, za_380, za_381, za_382, za_383, zb_384, za_385, za_386, za_387, za_388, za_389, za_390, za_391, za_392, za_393, zb_396, za_397, za_398, za_399, za_400, za_401, zb_738, za_739, za_740, za_741, za_742, za_743, za_744, za_745, za_746, za_747, zb_748, za_749, za_750, zb_751, zb_752, za_753, za_754, za_755, za_756, zb_757, za_758, za_759, za_760, zb_761, za_763, za_764, za_765, true_and, and_true, Nat.reduceAdd, nI_1]
      refine C3 lt _ (k + 1) c M1 (by omega) S1 _ (fun k1 c1 D M2 R2 nx2 S2 F2 cc2 ct2 kk2 sm2 b02 => ?_) (fun f j c1 M2 f2 e2 F2 cc2 => ?_)
      · have w2 := S2.2.1
        have km := S2.1.2.1
        have m3 := S2.1.1.2.1
        have b0 := b02 (by decide)
        simp only [bX5_readAsk_32, zw_0, zw_1, zs_aloadn0, zs_aloadNn0, zi_5_122, zs_iloadn1, zs_iconst, zs_iadd, zi_5_273, zg_5_51, zi_5_210, zs_popi, zs_popr, zs_popn, zh_0, zh_1, zh_2, zh_3, zh_4, zt_i, zt_l, zt_r, zt_n, zb_15, zb_16, zb_17, za_18, za_19, za_20, za_21, za_22, zb_23, za_24, za_25, za_26, za_27, za_28, za_29, za_30, za_31, za_32, zb_35, za_36, za_37, za_38, za_39, za_40, zb_377, zb_378, za_379, za_380, za_381, za_382, za_383, zb_384, za_385, za_386, za_387, za_388, za_389, za_390, za_391, za_392, za_393, zb_396, za_397, za_398, za_399, za_400, za_401, zb_738, za_739, za_740, za_741, za_742, za_743, za_744, za_745, za_746, za_747, zb_748, za_749, za_750, zb_751, zb_752, za_753, za_754, za_755, za_756, zb_757, za_758, za_759, za_760, zb_761, za_763, za_764, za_765, true_and, and_true, Nat.reduceAdd, w2, zk_rf, ol]
        refine zd_put (by omega) (by omega) S2 hE hL (fun M3 S3 f3 p3 v3 => ?_)
        simp only [bX5_readAsk_32, zw_0, zw_1, zs_aloadn0, zs_aloadNn0, zi_5_122, zs_iloadn1, zs_iconst, zs_iadd, zi_5_273, zg_5_51, zi_5_210, zs_popi, zs_popr, zs_popn, zh_0, zh_1, zh_2, zh_3, zh_4, zt_i, zt_l, zt_r, zt_n, zb_15, zb_16, zb_17, za_18, za_19, za_20, za_21, za_22, zb_23, za_24, za_25, za_26, za_27, za_28, za_29, za_30, za_31, za_32, zb_35, za_36, za_37, za_38, za_39, za_40, zb_377, zb_378, za_379, za_380, za_381, za_382, za_383, zb_384, za_385, za_386, za_387, za_388, za_389, za_390, za_391, za_392, za_393, zb_396, za_397, za_398, za_399, za_400, za_401, zb_738, za_739, za_740, za_741, za_742, za_743, za_744, za_745, za_746, za_747, zb_748, za_749, za_750, zb_751, zb_752, za_753, za_754, za_755, za_756, zb_757, za_758, za_759, za_760, zb_761, za_763, za_764, za_765, true_and, and_true, Nat.reduceAdd]
        refine fin M3 (qo k1 (c1 + 1) _ M3 (rb k1 D R2) nx2 S3 (zd_F_t (zd_F_trans F1 F2) f3 cc2) (by omega) (by omega) (by omega) (zl_sm_not (by omega) (zl_sm_c sm2 (fun i _ i2 => f3.2.2.2.2 i i2)) p3 v3 b0) (fun _ nm rk => ?_))
        show 1 - D nm rk = 0 ∨ 1 - D nm rk = 1
        rcases b0 nm rk with z | z <;> omega
      · have w2 := e2.2.1
        simp only [bX5_readAsk_32, zw_0, zw_1, zs_aloadn0, zs_aloadNn0, zi_5_122, zs_iloadn1, zs_iconst, zs_iadd, zi_5_273, zg_5_51, zi_5_210, zs_popi, zs_popr, zs_popn, zh_0, zh_1, zh_2, zh_3, zh_4, zt_i, zt_l, zt_r, zt_n, zb_15, zb_16, zb_17, za_18, za_19, za_20, za_21, za_22, zb_23, za_24, za_25, za_26, za_27, za_28, za_29, za_30, za_31, za_32, zb_35, za_36, za_37, za_38, za_39, za_40, zb_377, zb_378, za_379, za_380, za_381, za_382, za_383, zb_384, za_385, za_386, za_387, za_388, za_389, za_390, za_391, za_392, za_393, zb_396, za_397, za_398, za_399, za_400, za_401, zb_738, za_739, za_740, za_741, za_742, za_743, za_744, za_745, za_746, za_747, zb_748, za_749, za_750, zb_751, zb_752, za_753, za_754, za_755, za_756, zb_757, za_758, za_759, za_760, zb_761, za_763, za_764, za_765, true_and, and_true, Nat.reduceAdd, w2, zk_rf, ol]
        refine zd_putE (by omega) e2 hE hL (fun x c3 M3 hx e3 f3 cc3 => ?_)
        simp only [bX5_readAsk_32, zw_0, zw_1, zs_aloadn0, zs_aloadNn0, zi_5_122, zs_iloadn1, zs_iconst, zs_iadd, zi_5_273, zg_5_51, zi_5_210, zs_popi, zs_popr, zs_popn, zh_0, zh_1, zh_2, zh_3, zh_4, zt_i, zt_l, zt_r, zt_n, zb_15, zb_16, zb_17, za_18, za_19, za_20, za_21, za_22, zb_23, za_24, za_25, za_26, za_27, za_28, za_29, za_30, za_31, za_32, zb_35, za_36, za_37, za_38, za_39, za_40, zb_377, zb_378, za_379, za_380, za_381, za_382, za_383, zb_384, za_385, za_386, za_387, za_388, za_389, za_390, za_391, za_392, za_393, zb_396, za_397, za_398, za_399, za_400, za_401, zb_738, za_739, za_740, za_741, za_742, za_743, za_744, za_745, za_746, za_747, zb_748, za_749, za_750, zb_751, zb_752, za_753, za_754, za_755, za_756, zb_757, za_758, za_759, za_760, zb_761, za_763, za_764, za_765, true_and, and_true, Nat.reduceAdd]
        exact fin M3 (qf f j c3 M3 (ra f j f2) e3 (zd_F_t (zd_F_trans F1 F2) f3 cc2) (by omega))
    · have e8 : o = 8 := by omega
      subst e8
      refine zd_comp (f := 3) (by omega) (by decide) hS hE hL (fun M1 e1 g1 => ?_)
      simp only [bX5_readAsk_18, zw_0, zw_1, zs_iloadn1, zs_bipush, zs_iclt, zs_aloadn0, zs_aloadNn0, zs_iconst, zi_5_125, zs_goto, zh_0, zh_1, zh_2, zh_3, zh_4, zt_i, zt_l, zt_r, zt_n, zb_15, zb_16, zb_17, za_18, za_19, za_20, za_21, za_22, zb_23, za_24, za_25, za_26, za_27, za_28, za_29, za_30, za_31, za_32, zb_35, za_36, za_37, za_38, za_39, za_40, zb_377, zb_378, za_379, za_380, za_381, za_382, za_383, zb_384, za_385, za_386, za_387, za_388, za_389, za_390, za_391, za_392, za_393, zb_396, za_397, za_398, za_399, za_400, za_401, zb_738, za_739, za_740, za_741, za_742, za_743, za_744, za_745, za_746, za_747, zb_748, za_749, za_750, zb_751, zb_752, za_753, za_754, za_755, za_756, zb_757, za_758, za_759, za_760, zb_761, za_763, za_764, za_765, true_and, and_true, Nat.reduceAdd]
      exact fin M1 (qf 3 k c M1 (rl.2.1 k y) e1 (zd_F_g hL g1) (Nat.le_refl _))
  · obtain ⟨ra, rb⟩ := rl.1 o k z
    refine zd_C4 hE ht hL hdd rl4 C (by omega) z hS (fun k' c' D M' a1 a2 a3 a4 a5 a6 a7 a8 a9 => ?_) (fun f j c' M' a1 a2 a3 a4 => ?_)
    · simp only [bX5_readAsk_0, zw_0, zw_1, zs_aloadn0, zs_aloadNn0, zg_5_45, zgs_279, zs_aceq, zs_iloadn1, zi_5_282, zs_goto, zh_0, zh_1, zh_2, zh_3, zh_4, zt_i, zt_l, zt_r, zt_n, zb_15, zb_16, zb_17, za_18, za_19, za_20, za_21, za_22, zb_23, za_24, za_25, za_26, za_27, za_28, za_29, za_30, za_31, za_32, zb_35, za_36, za_37, za_38, za_39, za_40, zb_377, zb_378, za_379, za_380, za_381, za_382, za_383, zb_384, za_385, za_386, za_387, za_388, za_389, za_390, za_391, za_392, za_393, zb_396, za_397, za_398, za_399, za_400, za_401, zb_738, za_739, za_740, za_741, za_742, za_743, za_744, za_745, za_746, za_747, zb_748, za_749, za_750, zb_751, zb_752, za_753, za_754, za_755, za_756, zb_757, za_758, za_759, za_760, zb_761, za_763, za_764, za_765, true_and, and_true, Nat.reduceAdd]
      exact fin M' (qo k' c' D M' (rb k' D a1) ⟨fun _ => a2.1 (by omega), fun _ => a2.2.1 (by omega), fun z => by omega, fun z => by omega⟩ a3 a4 a5 a6 a7 a8 (fun _ => a9 (by decide)))
    · simp only [bX5_readAsk_0, zw_0, zw_1, zs_aloadn0, zs_aloadNn0, zg_5_45, zgs_279, zs_aceq, zs_iloadn1, zi_5_282, zs_goto, zh_0, zh_1, zh_2, zh_3, zh_4, zt_i, zt_l, zt_r, zt_n, zb_15, zb_16, zb_17, za_18, za_19, za_20, za_21, za_22, zb_23, za_24, za_25, za_26, za_27, za_28, za_29, za_30, za_31, za_32, zb_35, za_36, za_37, za_38, za_39, za_40, zb_377, zb_378, za_379, za_380, za_381, za_382, za_383, zb_384, za_385, za_386, za_387, za_388, za_389, za_390, za_391, za_392, za_393, zb_396, za_397, za_398, za_399, za_400, za_401, zb_738, za_739, za_740, za_741, za_742, za_743, za_744, za_745, za_746, za_747, zb_748, za_749, za_750, zb_751, zb_752, za_753, za_754, za_755, za_756, zb_757, za_758, za_759, za_760, zb_761, za_763, za_764, za_765, true_and, and_true, Nat.reduceAdd]
      exact fin M' (qf f j c' M' (ra f j a1) a2 a3 a4)
/-- all levels at once, by how many may still be opened -/
theorem zd_all (hE : zm_ok E.2.2.1 E.2.2.2.2) (ht : ∀ j, tp j < 256) (hL : zl_ok L) (hcl : cl ≤ 8) (r7a : zd_7a (zs_T tp n) (zs_N tp n) cl R F) (r7b : zd_7b (zs_T tp n) R F) (r7c : zd_7c (zs_T tp n) R F) (r7d : zd_7d (zs_T tp n) R F) (r7e : zd_7e (zs_T tp n) R F) (r6 : zd_6 (zs_T tp n) R F) (r5 : zd_5 (zs_T tp n) R F) (r4 : zd_4 (zs_T tp n) R F) (r3 : zd_3 (zs_T tp n) R F) (r2 : zd_2 (zs_T tp n) R F) (r1 : zd_1 (zs_T tp n) R F) : ∀ (g o : Nat), o + g = 8 → zd_C tp n m L cl R F E (10 * g + 10) mX5_readOne 7 o ∧ zd_C tp n m L cl R F E (10 * g + 12) mX5_readSum 5 o ∧ zd_C tp n m L cl R F E (10 * g + 14) mX5_readAsk 3 o ∧ zd_C tp n m L cl R F E (10 * g + 16) mX5_readEither 1 o := by
  intro g
  induction g with
  | zero =>
    intro o ho
    have c7 : zd_C tp n m L cl R F E (0 + 10) mX5_readOne 7 o := zd_C7 hE ht hL hcl (by omega) r7a r7b r7c r7d r7e (fun z => absurd z (by omega)) (fun z => absurd z (by omega)) (fun z => absurd z (by omega)) (fun z => absurd z (by omega))
    have c6 := zd_C6 hE ht hL (by omega) r6 c7
    have c5 := zd_C5 hE ht hL (by omega) r5 c6
    have c3 := zd_C3 (d3 := 0) hE ht hL (by omega) (by omega) (by omega) r4 r3 c5 (fun z => absurd z (by omega))
    have c2 := zd_C2 hE ht hL (by omega) r2 c3
    have c1 := zd_C1 hE ht hL (by omega) r1 c2
    exact ⟨c7, c5, c3, c1⟩
  | succ g ih =>
    intro o ho
    obtain ⟨d7, d5, d3, d1⟩ := ih (o + 1) (by omega)
    have c7 : zd_C tp n m L cl R F E (10 * g + 10 + 10) mX5_readOne 7 o := zd_C7 hE ht hL hcl (by omega) r7a r7b r7c r7d r7e (fun _ => d7) (fun _ => d5) (fun _ => d1) (fun _ => by omega)
    have c6 := zd_C6 hE ht hL (by omega) r6 c7
    have c5 := zd_C5 hE ht hL (by omega) r5 c6
    have c3 := zd_C3 hE ht hL (by omega) (by omega) (by omega) r4 r3 c5 (fun _ => d3)
    have c2 := zd_C2 hE ht hL (by omega) r2 c3
    have c1 := zd_C1 hE ht hL (by omega) r1 c2
    have e : 10 * (g + 1) = 10 * g + 10 := by omega
    rw [e]
    exact ⟨c7, c5, c3, c1⟩
theorem zd_sum (hE : zm_ok E.2.2.1 E.2.2.2.2) (ht : ∀ j, tp j < 256) (hL : zl_ok L) (hcl : cl ≤ 2) : zd_C tp n m L cl (zs_RR (zs_T tp n) (zs_N tp n) cl) (zs_FF (zs_T tp n) (zs_N tp n) cl) E 92 mX5_readSum 5 0 := (zd_all hE ht hL (by omega) (zs_7a hcl) zs_7b zs_7c zs_7d zs_7e zs_6 zs_5 zs_4 zs_3 zs_2 zs_1 8 0 rfl).2.1
/-- what the reference's machine does where the class has read a sum -/
theorem zs_ends {T V : Nat → Nat} {k k' : Nat} {D : zD} (h : zs_RR T V cl 5 0 k k' D) (hx : zd_nx 5 (T k')) : zD_ok cl D ∧ ∀ Fa G, zs_ru T V cl G Fa (fun j cs => j = k' ∧ zs_mn cs D) → G k [] 0 false [] := by
  refine ⟨h.1, fun Fa G hr => h.2 G Fa _ hr [] [] (by decide) (by decide) (fun seg pend hp hm => hr.2 k' (pend ++ []) 0 _ ?_)⟩
  have on : zs_on (pend ++ []) = 0 := zs_on_a pend hp
  unfold zs_beh
  rw [if_neg (fun z => z (zs_bet_0 hx (by rw [on]; decide))), if_pos (by unfold zs_par; rw [on]; rfl)]
  simp only [zs_nx]
  rw [if_pos trivial, if_pos on]
  have e := zs_se_ps (r := 1) (o := 0) (ws := []) (cs := [] ++ seg) (zs_rg_le hp (by omega)) (by decide)
  rw [zs_cn_0 pend hp] at e
  rw [e]
  exact ⟨trivial, hm⟩
theorem zs_faults {T V : Nat → Nat} {k f j : Nat} (h : zs_FF T V cl 5 0 k f j) : ∀ Fi G, zs_ru T V cl G (fun f' j' => f' = f ∧ j' = j) Fi → G k [] 0 false [] := fun Fi G hr => h G _ Fi hr [] [] (by decide) (by decide) (fun _ => rfl) ⟨rfl, rfl⟩
end
