/-! ===== the reference: what stands between two; what shuts ===== -/
theorem zs_sg {tp : Nat → Nat} {n k i : Nat} (ht : ∀ j, tp j < 256) (hi : i < 13) : (nI (zk_so tp n (zk_st tp n k)) = nI (zz_cd.getD i 0)) = (zs_T tp n k = 28 + i) := by
  unfold zs_T
  rw [zk_sign ht hi]
  have := zk_so_lt ht n (zk_st tp n k)
  have h2 : zz_cd.getD i 0 < 256 := by
    rcases (show i = 0 ∨ i = 1 ∨ i = 2 ∨ i = 3 ∨ i = 4 ∨ i = 5 ∨ i = 6 ∨ i = 7 ∨ i = 8 ∨ i = 9 ∨ i = 10 ∨ i = 11 ∨ i = 12 by omega) with rfl | rfl | rfl | rfl | rfl | rfl | rfl | rfl | rfl | rfl | rfl | rfl | rfl <;> decide
  exact propext (nI_eq (by omega) (by omega))
theorem c_betweenOf {E : zm_E} (hE : zm_ok E.2.2.1 E.2.2.2.2) (d : Nat) {tp : Nat → Nat} {n k : Nat} {ws : List Nat} {M : zm_M} (hi : zs_iv ws) (hW : zh_W ws M) (ht : ∀ j, tp j < 256) (hA : zk_at tp n (zk_st tp n k) M) : zm_R E (d + 3) mX12_betweenOf [.ref 0] M (fun r M' => r = some (.int (if zs_bet (zs_T tp n) k ws = 0 then -1 else nI (zs_bet (zs_T tp n) k ws))) ∧ M' = M) := by
  refine zX12_betweenOf hE rfl (fun G h0 h12 h24 h36 h48 h59 h71 h92 h111 h112 => ?_)
  show G 0 [some (.ref 0)] [] M
  have k9 := hA.2.2.1
  have e43 : (nI (zk_so tp n (zk_st tp n k)) = 43) = (zs_T tp n k = 34) := zs_sg (i := 6) ht (by decide)
  have e45 : (nI (zk_so tp n (zk_st tp n k)) = 45) = (zs_T tp n k = 35) := zs_sg (i := 7) ht (by decide)
  have e42 : (nI (zk_so tp n (zk_st tp n k)) = 42) = (zs_T tp n k = 36) := zs_sg (i := 8) ht (by decide)
  have e47 : (nI (zk_so tp n (zk_st tp n k)) = 47) = (zs_T tp n k = 37) := zs_sg (i := 9) ht (by decide)
  have o42 : (zh_on ws = 42) = (zs_on ws = 42) := zh_on_e hi (x := 42) (by decide) (by decide)
  refine h0 _ _ _ ?_
  simp only [bX12_betweenOf_0, zw_0, zw_1, zs_aloadn0, zs_aloadNn0, zg_12_98, zs_bipush, zs_icne, zs_ireturn, zn_int, zn_b0, zn_b1, zb_0, za_1, za_2, za_3, za_4, za_5, za_6, za_7, za_8, za_9, za_10, za_11, za_12, za_13, za_14, true_and, and_true, Nat.reduceAdd, k9, e43]
  refine ⟨fun a => ?_, fun a => ?_⟩
  rotate_left
  · unfold zs_bet; rw [if_pos a]; rfl
  refine h12 _ _ _ ?_
  simp only [bX12_betweenOf_12, zw_0, zw_1, zs_aloadn0, zs_aloadNn0, zg_12_98, zs_bipush, zs_icne, zs_ireturn, zn_int, zn_b0, zn_b1, zb_0, za_1, za_2, za_3, za_4, za_5, za_6, za_7, za_8, za_9, za_10, za_11, za_12, za_13, za_14, true_and, and_true, Nat.reduceAdd, k9, e45]
  refine ⟨fun a2 => ?_, fun a2 => ?_⟩
  rotate_left
  · unfold zs_bet; rw [if_neg a, if_pos a2]; rfl
  refine h24 _ _ _ ?_
  simp only [bX12_betweenOf_24, zw_0, zw_1, zs_aloadn0, zs_aloadNn0, zg_12_98, zs_bipush, zs_icne, zs_ireturn, zn_int, zn_b0, zn_b1, zb_0, za_1, za_2, za_3, za_4, za_5, za_6, za_7, za_8, za_9, za_10, za_11, za_12, za_13, za_14, true_and, and_true, Nat.reduceAdd, k9, e42]
  refine ⟨fun a3 => ?_, fun a3 => ?_⟩
  rotate_left
  · unfold zs_bet; rw [if_neg a, if_neg a2, if_pos a3]; rfl
  refine h36 _ _ _ ?_
  simp only [bX12_betweenOf_36, zw_0, zw_1, zs_aloadn0, zs_aloadNn0, zg_12_98, zs_bipush, zs_icne, zs_ireturn, zn_int, zn_b0, zn_b1, zb_0, za_1, za_2, za_3, za_4, za_5, za_6, za_7, za_8, za_9, za_10, za_11, za_12, za_13, za_14, true_and, and_true, Nat.reduceAdd, k9, e47]
  refine ⟨fun a4 => ?_, fun a4 => ?_⟩
  rotate_left
  · unfold zs_bet; rw [if_neg a, if_neg a2, if_neg a3, if_pos a4]; rfl
  have hz : zs_bet (zs_T tp n) k ws = zs_bet (zs_T tp n) k ws := rfl
  conv at hz => rhs; unfold zs_bet
  rw [if_neg a, if_neg a2, if_neg a3, if_neg a4] at hz
  refine h48 _ _ _ ?_
  simp only [bX12_betweenOf_48, zw_0, zw_1, zs_aloadn0, zs_aloadNn0, zi_12_162, zs_bipush, zs_iceq, zs_iconst, zs_ireturn, zh_0, zh_1, zh_2, zh_3, zh_4, zt_i, zt_l, zt_r, zt_n, zn_int, zn_b0, zn_b1, zb_0, za_1, za_2, za_3, za_4, za_5, za_6, za_7, za_8, za_9, za_10, za_11, za_12, za_13, za_14, true_and, and_true, Nat.reduceAdd]
  refine zm_R_eq (c_openNow hE (d + 0) hW) ?_
  simp only [bX12_betweenOf_48, zw_0, zw_1, zs_aloadn0, zs_aloadNn0, zi_12_162, zs_bipush, zs_iceq, zs_iconst, zs_ireturn, zh_0, zh_1, zh_2, zh_3, zh_4, zt_i, zt_l, zt_r, zt_n, zn_int, zn_b0, zn_b1, zb_0, za_1, za_2, za_3, za_4, za_5, za_6, za_7, za_8, za_9, za_10, za_11, za_12, za_13, za_14, true_and, and_true, Nat.reduceAdd, o42]
  refine ⟨fun a5 => ?_, fun a5 => by rw [if_pos a5] at hz; rw [hz]; rfl⟩
  rw [if_neg (fun z => z a5)] at hz
  refine h59 _ _ _ ?_
  simp only [bX12_betweenOf_59, zw_0, zw_1, zs_aloadn0, zs_aloadNn0, zi_12_198, zs_ifne, zi_12_201, zs_ireturn, zh_0, zh_1, zh_2, zh_3, zh_4, zt_i, zt_l, zt_r, zt_n, zn_int, zn_b0, zn_b1, zb_0, za_1, za_2, za_3, za_4, za_5, za_6, za_7, za_8, za_9, za_10, za_11, za_12, za_13, za_14, true_and, and_true, Nat.reduceAdd]
  refine zm_R_eq (c_isCompared hE (d + 0) hW) ?_
  simp only [bX12_betweenOf_59, zw_0, zw_1, zs_aloadn0, zs_aloadNn0, zi_12_198, zs_ifne, zi_12_201, zs_ireturn, zh_0, zh_1, zh_2, zh_3, zh_4, zt_i, zt_l, zt_r, zt_n, zn_int, zn_b0, zn_b1, zb_0, za_1, za_2, za_3, za_4, za_5, za_6, za_7, za_8, za_9, za_10, za_11, za_12, za_13, za_14, true_and, and_true, Nat.reduceAdd, zi_b0]
  refine ⟨fun a6 => ?_, fun a6 => ?_⟩
  · rw [if_neg a6] at hz
    have d1 : (decide (zk_w tp n (zk_st tp n k) = 26) = false) = ¬ (zs_T tp n k = 26) := by unfold zs_T; simp
    have d2 : (decide (zk_w tp n (zk_st tp n k) = 25) = false) = ¬ (zs_T tp n k = 25) := by unfold zs_T; simp
    refine h71 _ _ _ ?_
    simp only [bX12_betweenOf_71, zw_0, zw_1, zs_aloadn0, zs_aloadNn0, zs_bipush, zi_12_124, zi_12_184, zs_ifeq, zs_goto, zh_0, zh_1, zh_2, zh_3, zh_4, zt_i, zt_l, zt_r, zt_n, zb_0, za_1, za_2, za_3, za_4, za_5, za_6, za_7, za_8, za_9, za_10, za_11, za_12, za_13, za_14, true_and, and_true, Nat.reduceAdd]
    refine zm_R_eq (c_w3 hE (d + 0) 97 110 100 (by decide) (by decide) (by decide) _) ?_
    simp only [bX12_betweenOf_71, zw_0, zw_1, zs_aloadn0, zs_aloadNn0, zs_bipush, zi_12_124, zi_12_184, zs_ifeq, zs_goto, zh_0, zh_1, zh_2, zh_3, zh_4, zt_i, zt_l, zt_r, zt_n, zb_0, za_1, za_2, za_3, za_4, za_5, za_6, za_7, za_8, za_9, za_10, za_11, za_12, za_13, za_14, true_and, and_true, Nat.reduceAdd]
    refine zm_R_eq (c_isWord hE (d + 1) (i := 26) ht hA (by decide) (by decide)) ?_
    simp only [bX12_betweenOf_71, zw_0, zw_1, zs_aloadn0, zs_aloadNn0, zs_bipush, zi_12_124, zi_12_184, zs_ifeq, zs_goto, zh_0, zh_1, zh_2, zh_3, zh_4, zt_i, zt_l, zt_r, zt_n, zb_0, za_1, za_2, za_3, za_4, za_5, za_6, za_7, za_8, za_9, za_10, za_11, za_12, za_13, za_14, true_and, and_true, Nat.reduceAdd, zi_b0, d1]
    refine ⟨fun a7 => ?_, fun a7 => ?_⟩
    · rw [if_neg a7] at hz
      refine h92 _ _ _ ?_
      simp only [bX12_betweenOf_92, zw_0, zw_1, zs_aloadn0, zs_aloadNn0, zs_bipush, zi_12_120, zi_12_184, zs_ifeq, zs_goto, zh_0, zh_1, zh_2, zh_3, zh_4, zt_i, zt_l, zt_r, zt_n, zb_0, za_1, za_2, za_3, za_4, za_5, za_6, za_7, za_8, za_9, za_10, za_11, za_12, za_13, za_14, true_and, and_true, Nat.reduceAdd]
      refine zm_R_eq (c_w2 hE (d + 1) 111 114 (by decide) (by decide) _) ?_
      simp only [bX12_betweenOf_92, zw_0, zw_1, zs_aloadn0, zs_aloadNn0, zs_bipush, zi_12_120, zi_12_184, zs_ifeq, zs_goto, zh_0, zh_1, zh_2, zh_3, zh_4, zt_i, zt_l, zt_r, zt_n, zb_0, za_1, za_2, za_3, za_4, za_5, za_6, za_7, za_8, za_9, za_10, za_11, za_12, za_13, za_14, true_and, and_true, Nat.reduceAdd]
      refine zm_R_eq (c_isWord hE (d + 1) (i := 25) ht hA (by decide) (by decide)) ?_
      simp only [bX12_betweenOf_92, zw_0, zw_1, zs_aloadn0, zs_aloadNn0, zs_bipush, zi_12_120, zi_12_184, zs_ifeq, zs_goto, zh_0, zh_1, zh_2, zh_3, zh_4, zt_i, zt_l, zt_r, zt_n, zb_0, za_1, za_2, za_3, za_4, za_5, za_6, za_7, za_8, za_9, za_10, za_11, za_12, za_13, za_14, true_and, and_true, Nat.reduceAdd, zi_b0, d2]
      refine ⟨fun a8 => ?_, fun a8 => ?_⟩
      · rw [if_neg a8] at hz
        refine h111 _ _ _ ?_
        simp only [bX12_betweenOf_111, zw_0, zw_1, zs_iconst, zb_0, za_1, za_2, za_3, za_4, za_5, za_6, za_7, za_8, za_9, za_10, za_11, za_12, za_13, za_14, true_and, and_true, Nat.reduceAdd]
        refine h112 _ _ _ ?_
        simp only [bX12_betweenOf_112, zw_0, zw_1, zs_ireturn, zn_int, zn_b0, zn_b1, zb_0, za_1, za_2, za_3, za_4, za_5, za_6, za_7, za_8, za_9, za_10, za_11, za_12, za_13, za_14, true_and, and_true, Nat.reduceAdd]
        rw [hz]; rfl
      · rw [if_pos (Classical.byContradiction a8)] at hz
        refine h112 _ _ _ ?_
        simp only [bX12_betweenOf_112, zw_0, zw_1, zs_ireturn, zn_int, zn_b0, zn_b1, zb_0, za_1, za_2, za_3, za_4, za_5, za_6, za_7, za_8, za_9, za_10, za_11, za_12, za_13, za_14, true_and, and_true, Nat.reduceAdd]
        rw [hz]; rfl
    · rw [if_pos (Classical.byContradiction a7)] at hz
      refine h112 _ _ _ ?_
      simp only [bX12_betweenOf_112, zw_0, zw_1, zs_ireturn, zn_int, zn_b0, zn_b1, zb_0, za_1, za_2, za_3, za_4, za_5, za_6, za_7, za_8, za_9, za_10, za_11, za_12, za_13, za_14, true_and, and_true, Nat.reduceAdd]
      rw [hz]; rfl
  · rw [if_pos a6] at hz
    refine zm_R_eq (c_compareOf hE (d + 1) ht hA) ?_
    simp only [bX12_betweenOf_59, zw_0, zw_1, zs_aloadn0, zs_aloadNn0, zi_12_198, zs_ifne, zi_12_201, zs_ireturn, zh_0, zh_1, zh_2, zh_3, zh_4, zt_i, zt_l, zt_r, zt_n, zn_int, zn_b0, zn_b1, zb_0, za_1, za_2, za_3, za_4, za_5, za_6, za_7, za_8, za_9, za_10, za_11, za_12, za_13, za_14, true_and, and_true, Nat.reduceAdd]
    rw [hz]
    show _ = some (Value.int (if (if 28 ≤ zk_w tp n (zk_st tp n k) ∧ zk_w tp n (zk_st tp n k) ≤ 33 then zk_w tp n (zk_st tp n k) - 18 else 0) = 0 then -1 else nI (if 28 ≤ zk_w tp n (zk_st tp n k) ∧ zk_w tp n (zk_st tp n k) ≤ 33 then zk_w tp n (zk_st tp n k) - 18 else 0)))
    by_cases z : 28 ≤ zk_w tp n (zk_st tp n k) ∧ zk_w tp n (zk_st tp n k) ≤ 33
    · rw [if_pos z, if_pos z, if_neg (by omega)]
    · rw [if_neg z, if_neg z]; rfl
theorem c_partOf {E : zm_E} (hE : zm_ok E.2.2.1 E.2.2.2.2) (d : Nat) {tp : Nat → Nat} {n k : Nat} {ws : List Nat} {M : zm_M} (hi : zs_iv ws) (hW : zh_W ws M) (ht : ∀ j, tp j < 256) (hA : zk_at tp n (zk_st tp n k) M) : zm_R E (d + 4) mX12_partOf [.ref 0, .int (zh_on ws)] M (fun r M' => r = some (.int (if zs_par (zs_T tp n) k ws = 100 then -1 else nI (zs_par (zs_T tp n) k ws))) ∧ M' = M) := by
  refine zX12_partOf hE rfl (fun G h0 h36 h49 h50 h51 h81 h82 h83 h106 h107 h108 h128 h129 h130 => ?_)
  show G 0 [some (.ref 0), some (.int (zh_on ws))] [] M
  have k9 := hA.2.2.1
  have o40 : (zh_on ws = 40) = (zs_on ws = 40) := zh_on_e hi (x := 40) (by decide) (by decide)
  have o41 : (zh_on ws = 41) = (zs_on ws = 41) := zh_on_e hi (x := 41) (by decide) (by decide)
  have o42 : (zh_on ws = 42) = (zs_on ws = 42) := zh_on_e hi (x := 42) (by decide) (by decide)
  have o43 : (zh_on ws = 43) = (zs_on ws = 43) := zh_on_e hi (x := 43) (by decide) (by decide)
  have o44 : (zh_on ws = 44) = (zs_on ws = 44) := zh_on_e hi (x := 44) (by decide) (by decide)
  have e41 : (nI (zk_so tp n (zk_st tp n k)) = 41) = (zs_T tp n k = 39) := zs_sg (i := 11) ht (by decide)
  have d22 : (decide (zk_w tp n (zk_st tp n k) = 22) = false) = ¬ (zs_T tp n k = 22) := by unfold zs_T; simp
  have d23 : (decide (zk_w tp n (zk_st tp n k) = 23) = false) = ¬ (zs_T tp n k = 23) := by unfold zs_T; simp
  have d24 : (decide (zk_w tp n (zk_st tp n k) = 24) = false) = ¬ (zs_T tp n k = 24) := by unfold zs_T; simp
  refine h0 _ _ _ ?_
  simp only [bX12_partOf_0, zw_0, zw_1, zs_iloadn1, zs_tsw, zm_sw, zb_0, za_1, za_2, za_3, za_4, za_5, za_6, za_7, za_8, za_9, za_10, za_11, za_12, za_13, za_14, true_and, and_true, Nat.reduceAdd, o40, o41, o42, o43, o44]
  have hz : zs_par (zs_T tp n) k ws = zs_par (zs_T tp n) k ws := rfl
  conv at hz => rhs; unfold zs_par
  refine ⟨fun a => ?_, fun a => ⟨fun a1 => ?_, fun a1 => ⟨fun a2 => ?_, fun a2 => ⟨fun a3 => ?_, fun a3 => ⟨fun a4 => ?_, fun a4 => ?_⟩⟩⟩⟩⟩
  · rw [if_pos a] at hz
    refine h36 _ _ _ ?_
    simp only [bX12_partOf_36, zw_0, zw_1, zs_aloadn0, zs_aloadNn0, zg_12_98, zs_bipush, zs_icne, zs_iconst, zs_goto, zb_0, za_1, za_2, za_3, za_4, za_5, za_6, za_7, za_8, za_9, za_10, za_11, za_12, za_13, za_14, true_and, and_true, Nat.reduceAdd, k9, e41]
    refine ⟨fun y => ?_, fun y => ?_⟩
    · rw [if_neg y] at hz
      refine h49 _ _ _ ?_
      simp only [bX12_partOf_49, zw_0, zw_1, zs_iconst, zb_0, za_1, za_2, za_3, za_4, za_5, za_6, za_7, za_8, za_9, za_10, za_11, za_12, za_13, za_14, true_and, and_true, Nat.reduceAdd]
      refine h50 _ _ _ ?_
      simp only [bX12_partOf_50, zw_0, zw_1, zs_ireturn, zn_int, zn_b0, zn_b1, zb_0, za_1, za_2, za_3, za_4, za_5, za_6, za_7, za_8, za_9, za_10, za_11, za_12, za_13, za_14, true_and, and_true, Nat.reduceAdd]
      rw [hz]; rfl
    · rw [if_pos y] at hz
      refine h50 _ _ _ ?_
      simp only [bX12_partOf_50, zw_0, zw_1, zs_ireturn, zn_int, zn_b0, zn_b1, zb_0, za_1, za_2, za_3, za_4, za_5, za_6, za_7, za_8, za_9, za_10, za_11, za_12, za_13, za_14, true_and, and_true, Nat.reduceAdd]
      rw [hz]; rfl
  · rw [if_neg a, if_neg (by omega), if_neg (by omega), if_neg (by omega)] at hz
    refine h130 _ _ _ ?_
    simp only [bX12_partOf_130, zw_0, zw_1, zs_iconst, zs_ireturn, zn_int, zn_b0, zn_b1, zb_0, za_1, za_2, za_3, za_4, za_5, za_6, za_7, za_8, za_9, za_10, za_11, za_12, za_13, za_14, true_and, and_true, Nat.reduceAdd]
    rw [hz]; rfl
  · rw [if_neg a, if_pos a2] at hz
    have no : ¬ (zs_T tp n k = 22 ∧ zh_cm ws = true) → G 81 [some (.ref 0), some (.int (zh_on ws))] [] M := by
      intro y
      rw [if_neg y] at hz
      refine h81 _ _ _ ?_
      simp only [bX12_partOf_81, zw_0, zw_1, zs_iconst, zb_0, za_1, za_2, za_3, za_4, za_5, za_6, za_7, za_8, za_9, za_10, za_11, za_12, za_13, za_14, true_and, and_true, Nat.reduceAdd]
      refine h82 _ _ _ ?_
      simp only [bX12_partOf_82, zw_0, zw_1, zs_ireturn, zn_int, zn_b0, zn_b1, zb_0, za_1, za_2, za_3, za_4, za_5, za_6, za_7, za_8, za_9, za_10, za_11, za_12, za_13, za_14, true_and, and_true, Nat.reduceAdd]
      rw [hz]; rfl
    refine h51 _ _ _ ?_
    simp only [bX12_partOf_51, zw_0, zw_1, zs_aloadn0, zs_aloadNn0, zs_bipush, zi_12_128, zi_12_184, zs_ifeq, zi_12_198, zs_goto, zh_0, zh_1, zh_2, zh_3, zh_4, zt_i, zt_l, zt_r, zt_n, zb_0, za_1, za_2, za_3, za_4, za_5, za_6, za_7, za_8, za_9, za_10, za_11, za_12, za_13, za_14, true_and, and_true, Nat.reduceAdd]
    refine zm_R_eq (c_w4 hE (d + 0) 116 104 101 110 (by decide) (by decide) (by decide) (by decide) _) ?_
    simp only [bX12_partOf_51, zw_0, zw_1, zs_aloadn0, zs_aloadNn0, zs_bipush, zi_12_128, zi_12_184, zs_ifeq, zi_12_198, zs_goto, zh_0, zh_1, zh_2, zh_3, zh_4, zt_i, zt_l, zt_r, zt_n, zb_0, za_1, za_2, za_3, za_4, za_5, za_6, za_7, za_8, za_9, za_10, za_11, za_12, za_13, za_14, true_and, and_true, Nat.reduceAdd]
    refine zm_R_eq (c_isWord hE (d + 2) (i := 22) ht hA (by decide) (by decide)) ?_
    simp only [bX12_partOf_51, zw_0, zw_1, zs_aloadn0, zs_aloadNn0, zs_bipush, zi_12_128, zi_12_184, zs_ifeq, zi_12_198, zs_goto, zh_0, zh_1, zh_2, zh_3, zh_4, zt_i, zt_l, zt_r, zt_n, zb_0, za_1, za_2, za_3, za_4, za_5, za_6, za_7, za_8, za_9, za_10, za_11, za_12, za_13, za_14, true_and, and_true, Nat.reduceAdd, zi_b0, d22]
    refine ⟨fun y => no (fun z => y z.1), fun y => ?_⟩
    refine zm_R_eq (c_isCompared hE (d + 1) hW) ?_
    simp only [bX12_partOf_51, zw_0, zw_1, zs_aloadn0, zs_aloadNn0, zs_bipush, zi_12_128, zi_12_184, zs_ifeq, zi_12_198, zs_goto, zh_0, zh_1, zh_2, zh_3, zh_4, zt_i, zt_l, zt_r, zt_n, zb_0, za_1, za_2, za_3, za_4, za_5, za_6, za_7, za_8, za_9, za_10, za_11, za_12, za_13, za_14, true_and, and_true, Nat.reduceAdd, zi_b0]
    refine ⟨fun y2 => no (fun z => by rw [z.2] at y2; cases y2), fun y2 => ?_⟩
    rw [if_pos ⟨Classical.byContradiction y, by simpa using y2⟩] at hz
    refine h82 _ _ _ ?_
    simp only [bX12_partOf_82, zw_0, zw_1, zs_ireturn, zn_int, zn_b0, zn_b1, zb_0, za_1, za_2, za_3, za_4, za_5, za_6, za_7, za_8, za_9, za_10, za_11, za_12, za_13, za_14, true_and, and_true, Nat.reduceAdd]
    rw [hz]; rfl
  · rw [if_neg a, if_neg a2, if_pos a3] at hz
    refine h83 _ _ _ ?_
    simp only [bX12_partOf_83, zw_0, zw_1, zs_aloadn0, zs_aloadNn0, zs_bipush, zi_12_128, zi_12_184, zs_ifeq, zs_goto, zh_0, zh_1, zh_2, zh_3, zh_4, zt_i, zt_l, zt_r, zt_n, zb_0, za_1, za_2, za_3, za_4, za_5, za_6, za_7, za_8, za_9, za_10, za_11, za_12, za_13, za_14, true_and, and_true, Nat.reduceAdd]
    refine zm_R_eq (c_w4 hE (d + 0) 101 108 115 101 (by decide) (by decide) (by decide) (by decide) _) ?_
    simp only [bX12_partOf_83, zw_0, zw_1, zs_aloadn0, zs_aloadNn0, zs_bipush, zi_12_128, zi_12_184, zs_ifeq, zs_goto, zh_0, zh_1, zh_2, zh_3, zh_4, zt_i, zt_l, zt_r, zt_n, zb_0, za_1, za_2, za_3, za_4, za_5, za_6, za_7, za_8, za_9, za_10, za_11, za_12, za_13, za_14, true_and, and_true, Nat.reduceAdd]
    refine zm_R_eq (c_isWord hE (d + 2) (i := 23) ht hA (by decide) (by decide)) ?_
    simp only [bX12_partOf_83, zw_0, zw_1, zs_aloadn0, zs_aloadNn0, zs_bipush, zi_12_128, zi_12_184, zs_ifeq, zs_goto, zh_0, zh_1, zh_2, zh_3, zh_4, zt_i, zt_l, zt_r, zt_n, zb_0, za_1, za_2, za_3, za_4, za_5, za_6, za_7, za_8, za_9, za_10, za_11, za_12, za_13, za_14, true_and, and_true, Nat.reduceAdd, zi_b0, d23]
    refine ⟨fun y => ?_, fun y => ?_⟩
    · rw [if_neg y] at hz
      refine h106 _ _ _ ?_
      simp only [bX12_partOf_106, zw_0, zw_1, zs_iconst, zb_0, za_1, za_2, za_3, za_4, za_5, za_6, za_7, za_8, za_9, za_10, za_11, za_12, za_13, za_14, true_and, and_true, Nat.reduceAdd]
      refine h107 _ _ _ ?_
      simp only [bX12_partOf_107, zw_0, zw_1, zs_ireturn, zn_int, zn_b0, zn_b1, zb_0, za_1, za_2, za_3, za_4, za_5, za_6, za_7, za_8, za_9, za_10, za_11, za_12, za_13, za_14, true_and, and_true, Nat.reduceAdd]
      rw [hz]; rfl
    · rw [if_pos (Classical.byContradiction y)] at hz
      refine h107 _ _ _ ?_
      simp only [bX12_partOf_107, zw_0, zw_1, zs_ireturn, zn_int, zn_b0, zn_b1, zb_0, za_1, za_2, za_3, za_4, za_5, za_6, za_7, za_8, za_9, za_10, za_11, za_12, za_13, za_14, true_and, and_true, Nat.reduceAdd]
      rw [hz]; rfl
  · rw [if_neg a, if_neg a2, if_neg a3, if_pos a4] at hz
    refine h108 _ _ _ ?_
    simp only [bX12_partOf_108, zw_0, zw_1, zs_aloadn0, zs_aloadNn0, zs_bipush, zi_12_124, zi_12_184, zs_ifeq, zs_iconst, zs_goto, zh_0, zh_1, zh_2, zh_3, zh_4, zt_i, zt_l, zt_r, zt_n, zb_0, za_1, za_2, za_3, za_4, za_5, za_6, za_7, za_8, za_9, za_10, za_11, za_12, za_13, za_14, true_and, and_true, Nat.reduceAdd]
    refine zm_R_eq (c_w3 hE (d + 1) 101 110 100 (by decide) (by decide) (by decide) _) ?_
    simp only [bX12_partOf_108, zw_0, zw_1, zs_aloadn0, zs_aloadNn0, zs_bipush, zi_12_124, zi_12_184, zs_ifeq, zs_iconst, zs_goto, zh_0, zh_1, zh_2, zh_3, zh_4, zt_i, zt_l, zt_r, zt_n, zb_0, za_1, za_2, za_3, za_4, za_5, za_6, za_7, za_8, za_9, za_10, za_11, za_12, za_13, za_14, true_and, and_true, Nat.reduceAdd]
    refine zm_R_eq (c_isWord hE (d + 2) (i := 24) ht hA (by decide) (by decide)) ?_
    simp only [bX12_partOf_108, zw_0, zw_1, zs_aloadn0, zs_aloadNn0, zs_bipush, zi_12_124, zi_12_184, zs_ifeq, zs_iconst, zs_goto, zh_0, zh_1, zh_2, zh_3, zh_4, zt_i, zt_l, zt_r, zt_n, zb_0, za_1, za_2, za_3, za_4, za_5, za_6, za_7, za_8, za_9, za_10, za_11, za_12, za_13, za_14, true_and, and_true, Nat.reduceAdd, zi_b0, d24]
    refine ⟨fun y => ?_, fun y => ?_⟩
    · rw [if_neg y] at hz
      refine h128 _ _ _ ?_
      simp only [bX12_partOf_128, zw_0, zw_1, zs_iconst, zb_0, za_1, za_2, za_3, za_4, za_5, za_6, za_7, za_8, za_9, za_10, za_11, za_12, za_13, za_14, true_and, and_true, Nat.reduceAdd]
      refine h129 _ _ _ ?_
      simp only [bX12_partOf_129, zw_0, zw_1, zs_ireturn, zn_int, zn_b0, zn_b1, zb_0, za_1, za_2, za_3, za_4, za_5, za_6, za_7, za_8, za_9, za_10, za_11, za_12, za_13, za_14, true_and, and_true, Nat.reduceAdd]
      rw [hz]; rfl
    · rw [if_pos (Classical.byContradiction y)] at hz
      refine h129 _ _ _ ?_
      simp only [bX12_partOf_129, zw_0, zw_1, zs_ireturn, zn_int, zn_b0, zn_b1, zb_0, za_1, za_2, za_3, za_4, za_5, za_6, za_7, za_8, za_9, za_10, za_11, za_12, za_13, za_14, true_and, and_true, Nat.reduceAdd]
      rw [hz]; rfl
  · rw [if_neg a, if_neg a2, if_neg a3, if_neg a4] at hz
    refine h130 _ _ _ ?_
    simp only [bX12_partOf_130, zw_0, zw_1, zs_iconst, zs_ireturn, zn_int, zn_b0, zn_b1, zb_0, za_1, za_2, za_3, za_4, za_5, za_6, za_7, za_8, za_9, za_10, za_11, za_12, za_13, za_14, true_and, and_true, Nat.reduceAdd]
    rw [hz]; rfl
