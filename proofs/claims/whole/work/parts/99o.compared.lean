/-! ===== the reference: is it compared? ===== -/
def zh_cm : List Nat → Bool
  | [] => false
  | c :: ws => if 4 < zk_rk c then zh_cm ws else decide (zk_rk c = 4)
theorem zk_rk_7 (c : Nat) : zk_rk c ≤ 7 := by
  unfold zk_rk
  (repeat' split) <;> omega
theorem c_isCompared {E : zm_E} (hE : zm_ok E.2.2.1 E.2.2.2.2) (d : Nat) {ws : List Nat} {M : zm_M} (hW : zh_W ws M) : zm_R E (d + 2) mX12_isCompared [.ref 0] M (fun r M' => r = some (.int (zi_b (zh_cm ws))) ∧ M' = M) := by
  refine zX12_isCompared hE rfl (fun G h0 h7 h30 h51 h52 => ?_)
  show G 0 [some (.ref 0), none] [] M
  obtain ⟨h16, hl, hf⟩ := hW
  have no : ∀ l1, zh_cm ws = false → G 51 [some (.ref 0), l1] [] M := by
    intro l1 h
    refine h51 _ _ _ ?_
    simp only [bX12_isCompared_51, zw_0, zw_1, zs_iconst, zb_0, za_1, za_2, za_3, za_4, za_5, za_6, za_7, za_8, za_9, za_10, za_11, za_12, za_13, za_14, true_and, and_true, Nat.reduceAdd]
    refine h52 _ _ _ ?_
    simp only [bX12_isCompared_52, zw_0, zw_1, zs_ireturn, zn_int, zn_b0, zn_b1, zb_0, za_1, za_2, za_3, za_4, za_5, za_6, za_7, za_8, za_9, za_10, za_11, za_12, za_13, za_14, true_and, and_true, Nat.reduceAdd]
    rw [h]; rfl
  have loop : ∀ (us : List Nat), us.length ≤ 160 → zh_wf us (M.1 5) → zh_cm us = zh_cm ws → G 7 [some (.ref 0), some (.int (nI us.length + -1))] [] M := by
    intro us
    induction us with
    | nil =>
      intro _ _ e
      refine h7 _ _ _ ?_
      simp only [bX12_isCompared_7, zw_0, zw_1, zs_iloadn1, zs_iflt, zs_aloadn0, zs_aloadNn0, zg_12_29, zs_iaload, zi_12_148, zs_iconst, zs_icle, zs_iinc1, zs_goto, zc_none, zc_int, zc_ref, zc_null, zc_long, zh_0, zh_1, zh_2, zh_3, zh_4, zt_i, zt_l, zt_r, zt_n, zb_0, za_1, za_2, za_3, za_4, za_5, za_6, za_7, za_8, za_9, za_10, za_11, za_12, za_13, za_14, zu_0, zu_1, zu_2, zu_3, zu_4, zu_5, zu_6, zu_7, zu_8, zu_9, zu_10, zu_11, zu_12, zu_13, zu_14, zu_15, zu_16, zu_17, zu_18, zu_19, zu_20, zu_21, zu_22, zu_23, zu_24, zu_25, zu_26, zu_27, zu_28, zu_29, zu_30, zu_90, zv_0_9, zv_1_9, zv_2_9, zv_3_9, zv_4_9, zv_5_9, zv_6_9, zv_7_9, zv_8_9, zv_0_330, zv_0_4544, zv_1_4544, zv_2_4544, zv_3_4544, zv_4_4544, zv_5_4544, zv_6_4544, zv_7_4544, zv_8_4544, zv_9_4544, zv_10_4544, zv_11_4544, zv_12_4544, zv_13_4544, zv_14_4544, zv_15_4544, zv_16_4544, zv_17_4544, zv_18_4544, zv_19_4544, zv_20_4544, zv_21_4544, zv_22_4544, zv_23_4544, zv_24_4544, zv_25_4544, zv_26_4544, zv_27_4544, zv_28_4544, zv_29_4544, zv_0_11, zv_1_11, zv_0_160, true_and, and_true, Nat.reduceAdd]
      refine ⟨fun _ => ?_, fun h => absurd (by decide) h⟩
      refine h30 _ _ _ ?_
      simp only [bX12_isCompared_30, zw_0, zw_1, zs_iloadn1, zs_iflt, zs_aloadn0, zs_aloadNn0, zg_12_29, zs_iaload, zi_12_148, zs_iconst, zs_icne, zs_goto, zh_0, zh_1, zh_2, zh_3, zh_4, zt_i, zt_l, zt_r, zt_n, zb_0, za_1, za_2, za_3, za_4, za_5, za_6, za_7, za_8, za_9, za_10, za_11, za_12, za_13, za_14, zu_0, zu_1, zu_2, zu_3, zu_4, zu_5, zu_6, zu_7, zu_8, zu_9, zu_10, zu_11, zu_12, zu_13, zu_14, zu_15, zu_16, zu_17, zu_18, zu_19, zu_20, zu_21, zu_22, zu_23, zu_24, zu_25, zu_26, zu_27, zu_28, zu_29, zu_30, zu_90, zv_0_9, zv_1_9, zv_2_9, zv_3_9, zv_4_9, zv_5_9, zv_6_9, zv_7_9, zv_8_9, zv_0_330, zv_0_4544, zv_1_4544, zv_2_4544, zv_3_4544, zv_4_4544, zv_5_4544, zv_6_4544, zv_7_4544, zv_8_4544, zv_9_4544, zv_10_4544, zv_11_4544, zv_12_4544, zv_13_4544, zv_14_4544, zv_15_4544, zv_16_4544, zv_17_4544, zv_18_4544, zv_19_4544, zv_20_4544, zv_21_4544, zv_22_4544, zv_23_4544, zv_24_4544, zv_25_4544, zv_26_4544, zv_27_4544, zv_28_4544, zv_29_4544, zv_0_11, zv_1_11, zv_0_160, true_and, and_true, Nat.reduceAdd]
      refine ⟨fun _ => no _ (by rw [← e]; rfl), fun h => absurd (by decide) h⟩
    | cons c us ih =>
      intro hl2 hf2 e
      have hl3 : us.length + 1 ≤ 160 := hl2
      obtain ⟨f1, f2, f3⟩ := hf2
      have v1 : vp_in (nI us.length) 160 := vp_in_nI (by omega) (by decide)
      have v2 : (nI us.length).toNatClampNeg = us.length := nI_clamp (by omega)
      have r7 := zk_rk_7 c
      have e4 : (nI (zk_rk c) ≤ 4) = (zk_rk c ≤ 4) := propext (nI_leI (b := 4) (by omega) (by decide))
      have q4 : (nI (zk_rk c) = 4) = (zk_rk c = 4) := propext (nI_eq (b := 4) (by omega) (by decide))
      rw [show (c :: us).length = us.length + 1 from rfl, zh_mi (by omega)]
      simp only [zh_cm] at e
      refine h7 _ _ _ ?_
      simp only [bX12_isCompared_7, zw_0, zw_1, zs_iloadn1, zs_iflt, zs_aloadn0, zs_aloadNn0, zg_12_29, zs_iaload, zi_12_148, zs_iconst, zs_icle, zs_iinc1, zs_goto, zc_none, zc_int, zc_ref, zc_null, zc_long, zh_0, zh_1, zh_2, zh_3, zh_4, zt_i, zt_l, zt_r, zt_n, zb_0, za_1, za_2, za_3, za_4, za_5, za_6, za_7, za_8, za_9, za_10, za_11, za_12, za_13, za_14, zu_0, zu_1, zu_2, zu_3, zu_4, zu_5, zu_6, zu_7, zu_8, zu_9, zu_10, zu_11, zu_12, zu_13, zu_14, zu_15, zu_16, zu_17, zu_18, zu_19, zu_20, zu_21, zu_22, zu_23, zu_24, zu_25, zu_26, zu_27, zu_28, zu_29, zu_30, zu_90, zv_0_9, zv_1_9, zv_2_9, zv_3_9, zv_4_9, zv_5_9, zv_6_9, zv_7_9, zv_8_9, zv_0_330, zv_0_4544, zv_1_4544, zv_2_4544, zv_3_4544, zv_4_4544, zv_5_4544, zv_6_4544, zv_7_4544, zv_8_4544, zv_9_4544, zv_10_4544, zv_11_4544, zv_12_4544, zv_13_4544, zv_14_4544, zv_15_4544, zv_16_4544, zv_17_4544, zv_18_4544, zv_19_4544, zv_20_4544, zv_21_4544, zv_22_4544, zv_23_4544, zv_24_4544, zv_25_4544, zv_26_4544, zv_27_4544, zv_28_4544, zv_29_4544, zv_0_11, zv_1_11, zv_0_160, true_and, and_true, Nat.reduceAdd, v1, v2, f1]
      refine ⟨fun h => absurd h (nI_pos (by omega)), fun _ => ?_⟩
      refine zm_R_eq (c_rank hE d f2 M) ?_
      simp only [bX12_isCompared_7, zw_0, zw_1, zs_iloadn1, zs_iflt, zs_aloadn0, zs_aloadNn0, zg_12_29, zs_iaload, zi_12_148, zs_iconst, zs_icle, zs_iinc1, zs_goto, zc_none, zc_int, zc_ref, zc_null, zc_long, zh_0, zh_1, zh_2, zh_3, zh_4, zt_i, zt_l, zt_r, zt_n, zb_0, za_1, za_2, za_3, za_4, za_5, za_6, za_7, za_8, za_9, za_10, za_11, za_12, za_13, za_14, zu_0, zu_1, zu_2, zu_3, zu_4, zu_5, zu_6, zu_7, zu_8, zu_9, zu_10, zu_11, zu_12, zu_13, zu_14, zu_15, zu_16, zu_17, zu_18, zu_19, zu_20, zu_21, zu_22, zu_23, zu_24, zu_25, zu_26, zu_27, zu_28, zu_29, zu_30, zu_90, zv_0_9, zv_1_9, zv_2_9, zv_3_9, zv_4_9, zv_5_9, zv_6_9, zv_7_9, zv_8_9, zv_0_330, zv_0_4544, zv_1_4544, zv_2_4544, zv_3_4544, zv_4_4544, zv_5_4544, zv_6_4544, zv_7_4544, zv_8_4544, zv_9_4544, zv_10_4544, zv_11_4544, zv_12_4544, zv_13_4544, zv_14_4544, zv_15_4544, zv_16_4544, zv_17_4544, zv_18_4544, zv_19_4544, zv_20_4544, zv_21_4544, zv_22_4544, zv_23_4544, zv_24_4544, zv_25_4544, zv_26_4544, zv_27_4544, zv_28_4544, zv_29_4544, zv_0_11, zv_1_11, zv_0_160, true_and, and_true, Nat.reduceAdd, e4]
      refine ⟨fun h => ?_, fun h => ?_⟩
      · rw [if_neg (by omega)] at e
        refine h30 _ _ _ ?_
        simp only [bX12_isCompared_30, zw_0, zw_1, zs_iloadn1, zs_iflt, zs_aloadn0, zs_aloadNn0, zg_12_29, zs_iaload, zi_12_148, zs_iconst, zs_icne, zs_goto, zh_0, zh_1, zh_2, zh_3, zh_4, zt_i, zt_l, zt_r, zt_n, zb_0, za_1, za_2, za_3, za_4, za_5, za_6, za_7, za_8, za_9, za_10, za_11, za_12, za_13, za_14, zu_0, zu_1, zu_2, zu_3, zu_4, zu_5, zu_6, zu_7, zu_8, zu_9, zu_10, zu_11, zu_12, zu_13, zu_14, zu_15, zu_16, zu_17, zu_18, zu_19, zu_20, zu_21, zu_22, zu_23, zu_24, zu_25, zu_26, zu_27, zu_28, zu_29, zu_30, zu_90, zv_0_9, zv_1_9, zv_2_9, zv_3_9, zv_4_9, zv_5_9, zv_6_9, zv_7_9, zv_8_9, zv_0_330, zv_0_4544, zv_1_4544, zv_2_4544, zv_3_4544, zv_4_4544, zv_5_4544, zv_6_4544, zv_7_4544, zv_8_4544, zv_9_4544, zv_10_4544, zv_11_4544, zv_12_4544, zv_13_4544, zv_14_4544, zv_15_4544, zv_16_4544, zv_17_4544, zv_18_4544, zv_19_4544, zv_20_4544, zv_21_4544, zv_22_4544, zv_23_4544, zv_24_4544, zv_25_4544, zv_26_4544, zv_27_4544, zv_28_4544, zv_29_4544, zv_0_11, zv_1_11, zv_0_160, true_and, and_true, Nat.reduceAdd, v1, v2, f1]
        refine ⟨fun h => absurd h (nI_pos (by omega)), fun _ => ?_⟩
        refine zm_R_eq (c_rank hE d f2 M) ?_
        simp only [bX12_isCompared_30, zw_0, zw_1, zs_iloadn1, zs_iflt, zs_aloadn0, zs_aloadNn0, zg_12_29, zs_iaload, zi_12_148, zs_iconst, zs_icne, zs_goto, zh_0, zh_1, zh_2, zh_3, zh_4, zt_i, zt_l, zt_r, zt_n, zb_0, za_1, za_2, za_3, za_4, za_5, za_6, za_7, za_8, za_9, za_10, za_11, za_12, za_13, za_14, zu_0, zu_1, zu_2, zu_3, zu_4, zu_5, zu_6, zu_7, zu_8, zu_9, zu_10, zu_11, zu_12, zu_13, zu_14, zu_15, zu_16, zu_17, zu_18, zu_19, zu_20, zu_21, zu_22, zu_23, zu_24, zu_25, zu_26, zu_27, zu_28, zu_29, zu_30, zu_90, zv_0_9, zv_1_9, zv_2_9, zv_3_9, zv_4_9, zv_5_9, zv_6_9, zv_7_9, zv_8_9, zv_0_330, zv_0_4544, zv_1_4544, zv_2_4544, zv_3_4544, zv_4_4544, zv_5_4544, zv_6_4544, zv_7_4544, zv_8_4544, zv_9_4544, zv_10_4544, zv_11_4544, zv_12_4544, zv_13_4544, zv_14_4544, zv_15_4544, zv_16_4544, zv_17_4544, zv_18_4544, zv_19_4544, zv_20_4544, zv_21_4544, zv_22_4544, zv_23_4544, zv_24_4544, zv_25_4544, zv_26_4544, zv_27_4544, zv_28_4544, zv_29_4544, zv_0_11, zv_1_11, zv_0_160, true_and, and_true, Nat.reduceAdd, q4]
        refine ⟨fun z => no _ (by rw [← e]; exact decide_eq_false z), fun z => ?_⟩
        refine h52 _ _ _ ?_
        simp only [bX12_isCompared_52, zw_0, zw_1, zs_ireturn, zn_int, zn_b0, zn_b1, zb_0, za_1, za_2, za_3, za_4, za_5, za_6, za_7, za_8, za_9, za_10, za_11, za_12, za_13, za_14, true_and, and_true, Nat.reduceAdd]
        rw [← e, decide_eq_true z]; rfl
      · rw [if_pos (by omega)] at e
        exact ih (by omega) f3 e
  refine h0 _ _ _ ?_
  simp only [bX12_isCompared_0, zw_0, zw_1, zs_aloadn0, zs_aloadNn0, zg_12_145, zs_iconst, zs_isub, zs_istoren1, zc_none, zc_int, zc_ref, zc_null, zc_long, zb_0, za_1, za_2, za_3, za_4, za_5, za_6, za_7, za_8, za_9, za_10, za_11, za_12, za_13, za_14, true_and, and_true, Nat.reduceAdd, h16]
  have := loop ws hl hf rfl
  rw [show nI ws.length + (-1 : Int32) = nI ws.length - 1 from by rw [Int32.sub_eq_add_neg]] at this
  exact this
