/-! ===== the reference: which clause, which name ===== -/
theorem c_sortOf {E : zm_E} (hE : zm_ok E.2.2.1 E.2.2.2.2) (d : Nat) {tp : Nat → Nat} {n s : Nat} {M : zm_M} (hT : zk_tm tp n M) (hA : zk_at tp n s M) : zm_R E (d + 6) mX12_sortOf [.ref 0] M (fun r M' => r = some (.int (if zk_w tp n s < 9 then nI (zk_w tp n s) else -1)) ∧ M' = M) := by
  refine zX12_sortOf hE rfl (fun G h0 h20 h49 h71 h100 h124 h146 h167 h190 h211 h212 => ?_)
  show G 0 [some (.ref 0)] [] M
  have ht := hT.2.2.2
  have d1 : ∀ i, (decide (zk_w tp n s = i) = false) = ¬ (zk_w tp n s = i) := fun i => by simp
  have fin : ∀ x : Int32, x = (if zk_w tp n s < 9 then nI (zk_w tp n s) else -1) → G 212 [some (.ref 0)] [.int x] M := by
    intro x hx
    refine h212 _ _ _ ?_
    simp only [bX12_sortOf_212, zw_0, zw_1, zs_ireturn, zn_int, zn_b0, zn_b1, zb_0, za_1, za_2, za_3, za_4, za_5, za_6, za_7, za_8, za_9, za_10, za_11, za_12, za_13, za_14, true_and, and_true, Nat.reduceAdd]
    rw [hx]
  refine h0 _ _ _ ?_
  simp only [bX12_sortOf_0, zw_0, zw_1, zs_aloadn0, zs_aloadNn0, zs_bipush, zi_12_128, zi_12_184, zs_ifeq, zs_iconst, zs_ireturn, zh_0, zh_1, zh_2, zh_3, zh_4, zt_i, zt_l, zt_r, zt_n, zn_int, zn_b0, zn_b1, zb_0, za_1, za_2, za_3, za_4, za_5, za_6, za_7, za_8, za_9, za_10, za_11, za_12, za_13, za_14, true_and, and_true, Nat.reduceAdd]
  refine zm_R_eq (c_w4 hE (d + 2) 97 100 100 115 (by decide) (by decide) (by decide) (by decide) M) ?_
  simp only [bX12_sortOf_0, zw_0, zw_1, zs_aloadn0, zs_aloadNn0, zs_bipush, zi_12_128, zi_12_184, zs_ifeq, zs_iconst, zs_ireturn, zh_0, zh_1, zh_2, zh_3, zh_4, zt_i, zt_l, zt_r, zt_n, zn_int, zn_b0, zn_b1, zb_0, za_1, za_2, za_3, za_4, za_5, za_6, za_7, za_8, za_9, za_10, za_11, za_12, za_13, za_14, true_and, and_true, Nat.reduceAdd]
  refine zm_R_eq (c_isWord hE (d + 4) (i := 0) ht hA (by decide) (by decide)) ?_
  simp only [bX12_sortOf_0, zw_0, zw_1, zs_aloadn0, zs_aloadNn0, zs_bipush, zi_12_128, zi_12_184, zs_ifeq, zs_iconst, zs_ireturn, zh_0, zh_1, zh_2, zh_3, zh_4, zt_i, zt_l, zt_r, zt_n, zn_int, zn_b0, zn_b1, zb_0, za_1, za_2, za_3, za_4, za_5, za_6, za_7, za_8, za_9, za_10, za_11, za_12, za_13, za_14, true_and, and_true, Nat.reduceAdd, zi_b0, d1]
  refine ⟨fun n0 => ?_, fun y => ?_⟩
  rotate_left
  · have y : zk_w tp n s = 0 := Classical.byContradiction y
    rw [if_pos (by omega), y]; rfl
  refine h20 _ _ _ ?_
  simp only [bX12_sortOf_20, zw_0, zw_1, zs_aloadn0, zs_aloadNn0, zs_bipush, zi_12_128, zi_12_124, zi_12_234, zs_ifeq, zs_iconst, zs_ireturn, zh_0, zh_1, zh_2, zh_3, zh_4, zt_i, zt_l, zt_r, zt_n, zn_int, zn_b0, zn_b1, zb_0, za_1, za_2, za_3, za_4, za_5, za_6, za_7, za_8, za_9, za_10, za_11, za_12, za_13, za_14, true_and, and_true, Nat.reduceAdd]
  refine zm_R_eq (c_w4 hE (d + 2) 112 97 114 100 (by decide) (by decide) (by decide) (by decide) M) ?_
  simp only [bX12_sortOf_20, zw_0, zw_1, zs_aloadn0, zs_aloadNn0, zs_bipush, zi_12_128, zi_12_124, zi_12_234, zs_ifeq, zs_iconst, zs_ireturn, zh_0, zh_1, zh_2, zh_3, zh_4, zt_i, zt_l, zt_r, zt_n, zn_int, zn_b0, zn_b1, zb_0, za_1, za_2, za_3, za_4, za_5, za_6, za_7, za_8, za_9, za_10, za_11, za_12, za_13, za_14, true_and, and_true, Nat.reduceAdd]
  refine zm_R_eq (c_w3 hE (d + 3) 111 110 115 (by decide) (by decide) (by decide) M) ?_
  simp only [bX12_sortOf_20, zw_0, zw_1, zs_aloadn0, zs_aloadNn0, zs_bipush, zi_12_128, zi_12_124, zi_12_234, zs_ifeq, zs_iconst, zs_ireturn, zh_0, zh_1, zh_2, zh_3, zh_4, zt_i, zt_l, zt_r, zt_n, zn_int, zn_b0, zn_b1, zb_0, za_1, za_2, za_3, za_4, za_5, za_6, za_7, za_8, za_9, za_10, za_11, za_12, za_13, za_14, true_and, and_true, Nat.reduceAdd]
  refine zm_R_eq (c_isLong hE (d + 1) (i := 1) hT hA (by decide) rfl (by decide) (by decide)) ?_
  simp only [bX12_sortOf_20, zw_0, zw_1, zs_aloadn0, zs_aloadNn0, zs_bipush, zi_12_128, zi_12_124, zi_12_234, zs_ifeq, zs_iconst, zs_ireturn, zh_0, zh_1, zh_2, zh_3, zh_4, zt_i, zt_l, zt_r, zt_n, zn_int, zn_b0, zn_b1, zb_0, za_1, za_2, za_3, za_4, za_5, za_6, za_7, za_8, za_9, za_10, za_11, za_12, za_13, za_14, true_and, and_true, Nat.reduceAdd, zi_b0, d1]
  refine ⟨fun n1 => ?_, fun y => ?_⟩
  rotate_left
  · have y : zk_w tp n s = 1 := Classical.byContradiction y
    rw [if_pos (by omega), y]; rfl
  refine h49 _ _ _ ?_
  simp only [bX12_sortOf_49, zw_0, zw_1, zs_aloadn0, zs_aloadNn0, zs_bipush, zi_12_132, zi_12_184, zs_ifeq, zs_iconst, zs_ireturn, zh_0, zh_1, zh_2, zh_3, zh_4, zt_i, zt_l, zt_r, zt_n, zn_int, zn_b0, zn_b1, zb_0, za_1, za_2, za_3, za_4, za_5, za_6, za_7, za_8, za_9, za_10, za_11, za_12, za_13, za_14, true_and, and_true, Nat.reduceAdd]
  refine zm_R_eq (c_w5 hE (d + 1) 119 101 97 114 115 (by decide) (by decide) (by decide) (by decide) (by decide) M) ?_
  simp only [bX12_sortOf_49, zw_0, zw_1, zs_aloadn0, zs_aloadNn0, zs_bipush, zi_12_132, zi_12_184, zs_ifeq, zs_iconst, zs_ireturn, zh_0, zh_1, zh_2, zh_3, zh_4, zt_i, zt_l, zt_r, zt_n, zn_int, zn_b0, zn_b1, zb_0, za_1, za_2, za_3, za_4, za_5, za_6, za_7, za_8, za_9, za_10, za_11, za_12, za_13, za_14, true_and, and_true, Nat.reduceAdd]
  refine zm_R_eq (c_isWord hE (d + 4) (i := 2) ht hA (by decide) (by decide)) ?_
  simp only [bX12_sortOf_49, zw_0, zw_1, zs_aloadn0, zs_aloadNn0, zs_bipush, zi_12_132, zi_12_184, zs_ifeq, zs_iconst, zs_ireturn, zh_0, zh_1, zh_2, zh_3, zh_4, zt_i, zt_l, zt_r, zt_n, zn_int, zn_b0, zn_b1, zb_0, za_1, za_2, za_3, za_4, za_5, za_6, za_7, za_8, za_9, za_10, za_11, za_12, za_13, za_14, true_and, and_true, Nat.reduceAdd, zi_b0, d1]
  refine ⟨fun n2 => ?_, fun y => ?_⟩
  rotate_left
  · have y : zk_w tp n s = 2 := Classical.byContradiction y
    rw [if_pos (by omega), y]; rfl
  refine h71 _ _ _ ?_
  simp only [bX12_sortOf_71, zw_0, zw_1, zs_aloadn0, zs_aloadNn0, zs_bipush, zi_12_128, zi_12_124, zi_12_234, zs_ifeq, zs_iconst, zs_ireturn, zh_0, zh_1, zh_2, zh_3, zh_4, zt_i, zt_l, zt_r, zt_n, zn_int, zn_b0, zn_b1, zb_0, za_1, za_2, za_3, za_4, za_5, za_6, za_7, za_8, za_9, za_10, za_11, za_12, za_13, za_14, true_and, and_true, Nat.reduceAdd]
  refine zm_R_eq (c_w4 hE (d + 2) 111 102 102 105 (by decide) (by decide) (by decide) (by decide) M) ?_
  simp only [bX12_sortOf_71, zw_0, zw_1, zs_aloadn0, zs_aloadNn0, zs_bipush, zi_12_128, zi_12_124, zi_12_234, zs_ifeq, zs_iconst, zs_ireturn, zh_0, zh_1, zh_2, zh_3, zh_4, zt_i, zt_l, zt_r, zt_n, zn_int, zn_b0, zn_b1, zb_0, za_1, za_2, za_3, za_4, za_5, za_6, za_7, za_8, za_9, za_10, za_11, za_12, za_13, za_14, true_and, and_true, Nat.reduceAdd]
  refine zm_R_eq (c_w3 hE (d + 3) 99 101 114 (by decide) (by decide) (by decide) M) ?_
  simp only [bX12_sortOf_71, zw_0, zw_1, zs_aloadn0, zs_aloadNn0, zs_bipush, zi_12_128, zi_12_124, zi_12_234, zs_ifeq, zs_iconst, zs_ireturn, zh_0, zh_1, zh_2, zh_3, zh_4, zt_i, zt_l, zt_r, zt_n, zn_int, zn_b0, zn_b1, zb_0, za_1, za_2, za_3, za_4, za_5, za_6, za_7, za_8, za_9, za_10, za_11, za_12, za_13, za_14, true_and, and_true, Nat.reduceAdd]
  refine zm_R_eq (c_isLong hE (d + 1) (i := 3) hT hA (by decide) rfl (by decide) (by decide)) ?_
  simp only [bX12_sortOf_71, zw_0, zw_1, zs_aloadn0, zs_aloadNn0, zs_bipush, zi_12_128, zi_12_124, zi_12_234, zs_ifeq, zs_iconst, zs_ireturn, zh_0, zh_1, zh_2, zh_3, zh_4, zt_i, zt_l, zt_r, zt_n, zn_int, zn_b0, zn_b1, zb_0, za_1, za_2, za_3, za_4, za_5, za_6, za_7, za_8, za_9, za_10, za_11, za_12, za_13, za_14, true_and, and_true, Nat.reduceAdd, zi_b0, d1]
  refine ⟨fun n3 => ?_, fun y => ?_⟩
  rotate_left
  · have y : zk_w tp n s = 3 := Classical.byContradiction y
    rw [if_pos (by omega), y]; rfl
  refine h100 _ _ _ ?_
  simp only [bX12_sortOf_100, zw_0, zw_1, zs_aloadn0, zs_aloadNn0, zs_bipush, zi_12_180, zi_12_184, zs_ifeq, zs_iconst, zs_ireturn, zh_0, zh_1, zh_2, zh_3, zh_4, zt_i, zt_l, zt_r, zt_n, zn_int, zn_b0, zn_b1, zb_0, za_1, za_2, za_3, za_4, za_5, za_6, za_7, za_8, za_9, za_10, za_11, za_12, za_13, za_14, true_and, and_true, Nat.reduceAdd]
  refine zm_R_eq (c_w6 hE d 99 111 117 115 105 110 (by decide) (by decide) (by decide) (by decide) (by decide) (by decide) M) ?_
  simp only [bX12_sortOf_100, zw_0, zw_1, zs_aloadn0, zs_aloadNn0, zs_bipush, zi_12_180, zi_12_184, zs_ifeq, zs_iconst, zs_ireturn, zh_0, zh_1, zh_2, zh_3, zh_4, zt_i, zt_l, zt_r, zt_n, zn_int, zn_b0, zn_b1, zb_0, za_1, za_2, za_3, za_4, za_5, za_6, za_7, za_8, za_9, za_10, za_11, za_12, za_13, za_14, true_and, and_true, Nat.reduceAdd]
  refine zm_R_eq (c_isWord hE (d + 4) (i := 4) ht hA (by decide) (by decide)) ?_
  simp only [bX12_sortOf_100, zw_0, zw_1, zs_aloadn0, zs_aloadNn0, zs_bipush, zi_12_180, zi_12_184, zs_ifeq, zs_iconst, zs_ireturn, zh_0, zh_1, zh_2, zh_3, zh_4, zt_i, zt_l, zt_r, zt_n, zn_int, zn_b0, zn_b1, zb_0, za_1, za_2, za_3, za_4, za_5, za_6, za_7, za_8, za_9, za_10, za_11, za_12, za_13, za_14, true_and, and_true, Nat.reduceAdd, zi_b0, d1]
  refine ⟨fun n4 => ?_, fun y => ?_⟩
  rotate_left
  · have y : zk_w tp n s = 4 := Classical.byContradiction y
    rw [if_pos (by omega), y]; rfl
  refine h124 _ _ _ ?_
  simp only [bX12_sortOf_124, zw_0, zw_1, zs_aloadn0, zs_aloadNn0, zs_bipush, zi_12_132, zi_12_184, zs_ifeq, zs_iconst, zs_ireturn, zh_0, zh_1, zh_2, zh_3, zh_4, zt_i, zt_l, zt_r, zt_n, zn_int, zn_b0, zn_b1, zb_0, za_1, za_2, za_3, za_4, za_5, za_6, za_7, za_8, za_9, za_10, za_11, za_12, za_13, za_14, true_and, and_true, Nat.reduceAdd]
  refine zm_R_eq (c_w5 hE (d + 1) 119 114 111 110 103 (by decide) (by decide) (by decide) (by decide) (by decide) M) ?_
  simp only [bX12_sortOf_124, zw_0, zw_1, zs_aloadn0, zs_aloadNn0, zs_bipush, zi_12_132, zi_12_184, zs_ifeq, zs_iconst, zs_ireturn, zh_0, zh_1, zh_2, zh_3, zh_4, zt_i, zt_l, zt_r, zt_n, zn_int, zn_b0, zn_b1, zb_0, za_1, za_2, za_3, za_4, za_5, za_6, za_7, za_8, za_9, za_10, za_11, za_12, za_13, za_14, true_and, and_true, Nat.reduceAdd]
  refine zm_R_eq (c_isWord hE (d + 4) (i := 5) ht hA (by decide) (by decide)) ?_
  simp only [bX12_sortOf_124, zw_0, zw_1, zs_aloadn0, zs_aloadNn0, zs_bipush, zi_12_132, zi_12_184, zs_ifeq, zs_iconst, zs_ireturn, zh_0, zh_1, zh_2, zh_3, zh_4, zt_i, zt_l, zt_r, zt_n, zn_int, zn_b0, zn_b1, zb_0, za_1, za_2, za_3, za_4, za_5, za_6, za_7, za_8, za_9, za_10, za_11, za_12, za_13, za_14, true_and, and_true, Nat.reduceAdd, zi_b0, d1]
  refine ⟨fun n5 => ?_, fun y => ?_⟩
  rotate_left
  · have y : zk_w tp n s = 5 := Classical.byContradiction y
    rw [if_pos (by omega), y]; rfl
  refine h146 _ _ _ ?_
  simp only [bX12_sortOf_146, zw_0, zw_1, zs_aloadn0, zs_aloadNn0, zs_bipush, zi_12_128, zi_12_184, zs_ifeq, zs_ireturn, zh_0, zh_1, zh_2, zh_3, zh_4, zt_i, zt_l, zt_r, zt_n, zn_int, zn_b0, zn_b1, zb_0, za_1, za_2, za_3, za_4, za_5, za_6, za_7, za_8, za_9, za_10, za_11, za_12, za_13, za_14, true_and, and_true, Nat.reduceAdd]
  refine zm_R_eq (c_w4 hE (d + 2) 97 119 97 121 (by decide) (by decide) (by decide) (by decide) M) ?_
  simp only [bX12_sortOf_146, zw_0, zw_1, zs_aloadn0, zs_aloadNn0, zs_bipush, zi_12_128, zi_12_184, zs_ifeq, zs_ireturn, zh_0, zh_1, zh_2, zh_3, zh_4, zt_i, zt_l, zt_r, zt_n, zn_int, zn_b0, zn_b1, zb_0, za_1, za_2, za_3, za_4, za_5, za_6, za_7, za_8, za_9, za_10, za_11, za_12, za_13, za_14, true_and, and_true, Nat.reduceAdd]
  refine zm_R_eq (c_isWord hE (d + 4) (i := 6) ht hA (by decide) (by decide)) ?_
  simp only [bX12_sortOf_146, zw_0, zw_1, zs_aloadn0, zs_aloadNn0, zs_bipush, zi_12_128, zi_12_184, zs_ifeq, zs_ireturn, zh_0, zh_1, zh_2, zh_3, zh_4, zt_i, zt_l, zt_r, zt_n, zn_int, zn_b0, zn_b1, zb_0, za_1, za_2, za_3, za_4, za_5, za_6, za_7, za_8, za_9, za_10, za_11, za_12, za_13, za_14, true_and, and_true, Nat.reduceAdd, zi_b0, d1]
  refine ⟨fun n6 => ?_, fun y => ?_⟩
  rotate_left
  · have y : zk_w tp n s = 6 := Classical.byContradiction y
    rw [if_pos (by omega), y]; rfl
  refine h167 _ _ _ ?_
  simp only [bX12_sortOf_167, zw_0, zw_1, zs_aloadn0, zs_aloadNn0, zs_bipush, zi_12_128, zi_12_184, zs_ifeq, zs_goto, zh_0, zh_1, zh_2, zh_3, zh_4, zt_i, zt_l, zt_r, zt_n, zb_0, za_1, za_2, za_3, za_4, za_5, za_6, za_7, za_8, za_9, za_10, za_11, za_12, za_13, za_14, true_and, and_true, Nat.reduceAdd]
  refine zm_R_eq (c_w4 hE (d + 2) 115 101 110 100 (by decide) (by decide) (by decide) (by decide) M) ?_
  simp only [bX12_sortOf_167, zw_0, zw_1, zs_aloadn0, zs_aloadNn0, zs_bipush, zi_12_128, zi_12_184, zs_ifeq, zs_goto, zh_0, zh_1, zh_2, zh_3, zh_4, zt_i, zt_l, zt_r, zt_n, zb_0, za_1, za_2, za_3, za_4, za_5, za_6, za_7, za_8, za_9, za_10, za_11, za_12, za_13, za_14, true_and, and_true, Nat.reduceAdd]
  refine zm_R_eq (c_isWord hE (d + 4) (i := 7) ht hA (by decide) (by decide)) ?_
  simp only [bX12_sortOf_167, zw_0, zw_1, zs_aloadn0, zs_aloadNn0, zs_bipush, zi_12_128, zi_12_184, zs_ifeq, zs_goto, zh_0, zh_1, zh_2, zh_3, zh_4, zt_i, zt_l, zt_r, zt_n, zb_0, za_1, za_2, za_3, za_4, za_5, za_6, za_7, za_8, za_9, za_10, za_11, za_12, za_13, za_14, true_and, and_true, Nat.reduceAdd, zi_b0, d1]
  refine ⟨fun n7 => ?_, fun y => ?_⟩
  rotate_left
  · have y : zk_w tp n s = 7 := Classical.byContradiction y
    exact fin 7 (by rw [if_pos (by omega), y]; rfl)
  refine h190 _ _ _ ?_
  simp only [bX12_sortOf_190, zw_0, zw_1, zs_aloadn0, zs_aloadNn0, zs_bipush, zi_12_124, zi_12_184, zs_ifeq, zs_goto, zh_0, zh_1, zh_2, zh_3, zh_4, zt_i, zt_l, zt_r, zt_n, zb_0, za_1, za_2, za_3, za_4, za_5, za_6, za_7, za_8, za_9, za_10, za_11, za_12, za_13, za_14, true_and, and_true, Nat.reduceAdd]
  refine zm_R_eq (c_w3 hE (d + 3) 100 97 121 (by decide) (by decide) (by decide) M) ?_
  simp only [bX12_sortOf_190, zw_0, zw_1, zs_aloadn0, zs_aloadNn0, zs_bipush, zi_12_124, zi_12_184, zs_ifeq, zs_goto, zh_0, zh_1, zh_2, zh_3, zh_4, zt_i, zt_l, zt_r, zt_n, zb_0, za_1, za_2, za_3, za_4, za_5, za_6, za_7, za_8, za_9, za_10, za_11, za_12, za_13, za_14, true_and, and_true, Nat.reduceAdd]
  refine zm_R_eq (c_isWord hE (d + 4) (i := 8) ht hA (by decide) (by decide)) ?_
  simp only [bX12_sortOf_190, zw_0, zw_1, zs_aloadn0, zs_aloadNn0, zs_bipush, zi_12_124, zi_12_184, zs_ifeq, zs_goto, zh_0, zh_1, zh_2, zh_3, zh_4, zt_i, zt_l, zt_r, zt_n, zb_0, za_1, za_2, za_3, za_4, za_5, za_6, za_7, za_8, za_9, za_10, za_11, za_12, za_13, za_14, true_and, and_true, Nat.reduceAdd, zi_b0, d1]
  refine ⟨fun n8 => ?_, fun y => ?_⟩
  rotate_left
  · have y : zk_w tp n s = 8 := Classical.byContradiction y
    exact fin 8 (by rw [if_pos (by omega), y]; rfl)
  refine h211 _ _ _ ?_
  simp only [bX12_sortOf_211, zw_0, zw_1, zs_iconst, zb_0, za_1, za_2, za_3, za_4, za_5, za_6, za_7, za_8, za_9, za_10, za_11, za_12, za_13, za_14, true_and, and_true, Nat.reduceAdd]
  exact fin (-1) (by rw [if_neg (by omega)])
