theorem c_nameOf {E : zm_E} (hE : zm_ok E.2.2.1 E.2.2.2.2) (d : Nat) {tp : Nat → Nat} {n s : Nat} {M : zm_M} (hT : zk_tm tp n M) (hA : zk_at tp n s M) : zm_R E (d + 5) mX12_nameOf [.ref 0] M (fun r M' => r = some (.int (if 8 ≤ zk_w tp n s ∧ zk_w tp n s ≤ 16 then nI (zk_w tp n s - 8) else -1)) ∧ M' = M) := by
  refine zX12_nameOf hE rfl (fun G h0 h10 h29 h50 h69 h92 h113 h134 h152 h176 h200 h201 => ?_)
  show G 0 [some (.ref 0)] [] M
  have ht := hT.2.2.2
  obtain ⟨k8, k7, k9, k10, k11⟩ := hA
  have e9 : (nI (zk_so tp n s) = 2) = (zk_so tp n s = 2) := propext (nI_eq (b := 2) (by have := zk_so_lt ht n s; omega) (by decide))
  have fin : ∀ x : Int32, x = (if 8 ≤ zk_w tp n s ∧ zk_w tp n s ≤ 16 then nI (zk_w tp n s - 8) else -1) → G 201 [some (.ref 0)] [.int x] M := by
    intro x hx
    refine h201 _ _ _ ?_
    simp only [bX12_nameOf_201, zw_0, zw_1, zs_ireturn, zn_int, zn_b0, zn_b1, zb_0, za_1, za_2, za_3, za_4, za_5, za_6, za_7, za_8, za_9, za_10, za_11, za_12, za_13, za_14, true_and, and_true, Nat.reduceAdd]
    rw [hx]
  refine h0 _ _ _ ?_
  simp only [bX12_nameOf_0, zw_0, zw_1, zs_aloadn0, zs_aloadNn0, zg_12_98, zs_iconst, zs_iceq, zs_ireturn, zn_int, zn_b0, zn_b1, zb_0, za_1, za_2, za_3, za_4, za_5, za_6, za_7, za_8, za_9, za_10, za_11, za_12, za_13, za_14, true_and, and_true, Nat.reduceAdd, k9, e9]
  refine ⟨fun h2 => ?_, fun h2 => ?_⟩
  rotate_left
  · rw [if_neg (fun z => ?_)]
    obtain ⟨u1, u2⟩ := zk_w_28 ht (by omega) (rfl : zk_w tp n s = zk_w tp n s)
    exact h2 (zk_so_L u1 u2)
  have W : ∀ i, i < 28 → (zz_sd.getD i []).length ≤ 6 → (M.2.1 0 11 = lN (zk_fd (zz_sd.getD i []))) = (zk_w tp n s = i) := by
    intro i hi hl
    have key := zk_is (n := n) (s := s) ht hi hl
    rw [← key, k11 h2]
    have b1 := zk_pk_lt ht (zk_en tp n s - s) s 0 (by decide)
    have b2 := zz_sd_lt i hi hl
    exact propext ⟨fun z => ⟨h2, (pk_lEQ (by omega) (by omega)).mp z⟩, fun z => by rw [z.2]⟩
  have W8 : (M.2.1 0 11 = lN (zk_fd [100, 97, 121])) = (zk_w tp n s = 8) := W 8 (by decide) (by decide)
  refine h10 _ _ _ ?_
  simp only [bX12_nameOf_10, zw_0, zw_1, zs_aloadn0, zs_aloadNn0, zg_12_111, zs_bipush, zi_12_124, zs_lcmp, zs_ifne, zs_iconst, zs_ireturn, zh_0, zh_1, zh_2, zh_3, zh_4, zt_i, zt_l, zt_r, zt_n, zn_int, zn_b0, zn_b1, zb_0, za_1, za_2, za_3, za_4, za_5, za_6, za_7, za_8, za_9, za_10, za_11, za_12, za_13, za_14, true_and, and_true, Nat.reduceAdd]
  refine zm_R_eq (c_w3 hE (d + 2) 100 97 121 (by decide) (by decide) (by decide) M) ?_
  simp only [bX12_nameOf_10, zw_0, zw_1, zs_aloadn0, zs_aloadNn0, zg_12_111, zs_bipush, zi_12_124, zs_lcmp, zs_ifne, zs_iconst, zs_ireturn, zh_0, zh_1, zh_2, zh_3, zh_4, zt_i, zt_l, zt_r, zt_n, zn_int, zn_b0, zn_b1, zb_0, za_1, za_2, za_3, za_4, za_5, za_6, za_7, za_8, za_9, za_10, za_11, za_12, za_13, za_14, true_and, and_true, Nat.reduceAdd, lg_cmp_eq, W8]
  refine ⟨fun n8 => ?_, fun y => ?_⟩
  rotate_left
  · rw [if_pos (by omega), y]; rfl
  have W9 : (M.2.1 0 11 = lN (zk_fd [115, 105, 122, 101])) = (zk_w tp n s = 9) := W 9 (by decide) (by decide)
  refine h29 _ _ _ ?_
  simp only [bX12_nameOf_29, zw_0, zw_1, zs_aloadn0, zs_aloadNn0, zg_12_111, zs_bipush, zi_12_128, zs_lcmp, zs_ifne, zs_iconst, zs_ireturn, zh_0, zh_1, zh_2, zh_3, zh_4, zt_i, zt_l, zt_r, zt_n, zn_int, zn_b0, zn_b1, zb_0, za_1, za_2, za_3, za_4, za_5, za_6, za_7, za_8, za_9, za_10, za_11, za_12, za_13, za_14, true_and, and_true, Nat.reduceAdd]
  refine zm_R_eq (c_w4 hE (d + 1) 115 105 122 101 (by decide) (by decide) (by decide) (by decide) M) ?_
  simp only [bX12_nameOf_29, zw_0, zw_1, zs_aloadn0, zs_aloadNn0, zg_12_111, zs_bipush, zi_12_128, zs_lcmp, zs_ifne, zs_iconst, zs_ireturn, zh_0, zh_1, zh_2, zh_3, zh_4, zt_i, zt_l, zt_r, zt_n, zn_int, zn_b0, zn_b1, zb_0, za_1, za_2, za_3, za_4, za_5, za_6, za_7, za_8, za_9, za_10, za_11, za_12, za_13, za_14, true_and, and_true, Nat.reduceAdd, lg_cmp_eq, W9]
  refine ⟨fun n9 => ?_, fun y => ?_⟩
  rotate_left
  · rw [if_pos (by omega), y]; rfl
  have W10 : (M.2.1 0 11 = lN (zk_fd [119, 104, 111])) = (zk_w tp n s = 10) := W 10 (by decide) (by decide)
  refine h50 _ _ _ ?_
  simp only [bX12_nameOf_50, zw_0, zw_1, zs_aloadn0, zs_aloadNn0, zg_12_111, zs_bipush, zi_12_124, zs_lcmp, zs_ifne, zs_iconst, zs_ireturn, zh_0, zh_1, zh_2, zh_3, zh_4, zt_i, zt_l, zt_r, zt_n, zn_int, zn_b0, zn_b1, zb_0, za_1, za_2, za_3, za_4, za_5, za_6, za_7, za_8, za_9, za_10, za_11, za_12, za_13, za_14, true_and, and_true, Nat.reduceAdd]
  refine zm_R_eq (c_w3 hE (d + 2) 119 104 111 (by decide) (by decide) (by decide) M) ?_
  simp only [bX12_nameOf_50, zw_0, zw_1, zs_aloadn0, zs_aloadNn0, zg_12_111, zs_bipush, zi_12_124, zs_lcmp, zs_ifne, zs_iconst, zs_ireturn, zh_0, zh_1, zh_2, zh_3, zh_4, zt_i, zt_l, zt_r, zt_n, zn_int, zn_b0, zn_b1, zb_0, za_1, za_2, za_3, za_4, za_5, za_6, za_7, za_8, za_9, za_10, za_11, za_12, za_13, za_14, true_and, and_true, Nat.reduceAdd, lg_cmp_eq, W10]
  refine ⟨fun n10 => ?_, fun y => ?_⟩
  rotate_left
  · rw [if_pos (by omega), y]; rfl
  have W11 : (M.2.1 0 11 = lN (zk_fd [112, 114, 105, 100, 101])) = (zk_w tp n s = 11) := W 11 (by decide) (by decide)
  refine h69 _ _ _ ?_
  simp only [bX12_nameOf_69, zw_0, zw_1, zs_aloadn0, zs_aloadNn0, zg_12_111, zs_bipush, zi_12_132, zs_lcmp, zs_ifne, zs_iconst, zs_ireturn, zh_0, zh_1, zh_2, zh_3, zh_4, zt_i, zt_l, zt_r, zt_n, zn_int, zn_b0, zn_b1, zb_0, za_1, za_2, za_3, za_4, za_5, za_6, za_7, za_8, za_9, za_10, za_11, za_12, za_13, za_14, true_and, and_true, Nat.reduceAdd]
  refine zm_R_eq (c_w5 hE d 112 114 105 100 101 (by decide) (by decide) (by decide) (by decide) (by decide) M) ?_
  simp only [bX12_nameOf_69, zw_0, zw_1, zs_aloadn0, zs_aloadNn0, zg_12_111, zs_bipush, zi_12_132, zs_lcmp, zs_ifne, zs_iconst, zs_ireturn, zh_0, zh_1, zh_2, zh_3, zh_4, zt_i, zt_l, zt_r, zt_n, zn_int, zn_b0, zn_b1, zb_0, za_1, za_2, za_3, za_4, za_5, za_6, za_7, za_8, za_9, za_10, za_11, za_12, za_13, za_14, true_and, and_true, Nat.reduceAdd, lg_cmp_eq, W11]
  refine ⟨fun n11 => ?_, fun y => ?_⟩
  rotate_left
  · rw [if_pos (by omega), y]; rfl
  have W12 : (M.2.1 0 11 = lN (zk_fd [114, 97, 110, 107])) = (zk_w tp n s = 12) := W 12 (by decide) (by decide)
  refine h92 _ _ _ ?_
  simp only [bX12_nameOf_92, zw_0, zw_1, zs_aloadn0, zs_aloadNn0, zg_12_111, zs_bipush, zi_12_128, zs_lcmp, zs_ifne, zs_iconst, zs_ireturn, zh_0, zh_1, zh_2, zh_3, zh_4, zt_i, zt_l, zt_r, zt_n, zn_int, zn_b0, zn_b1, zb_0, za_1, za_2, za_3, za_4, za_5, za_6, za_7, za_8, za_9, za_10, za_11, za_12, za_13, za_14, true_and, and_true, Nat.reduceAdd]
  refine zm_R_eq (c_w4 hE (d + 1) 114 97 110 107 (by decide) (by decide) (by decide) (by decide) M) ?_
  simp only [bX12_nameOf_92, zw_0, zw_1, zs_aloadn0, zs_aloadNn0, zg_12_111, zs_bipush, zi_12_128, zs_lcmp, zs_ifne, zs_iconst, zs_ireturn, zh_0, zh_1, zh_2, zh_3, zh_4, zt_i, zt_l, zt_r, zt_n, zn_int, zn_b0, zn_b1, zb_0, za_1, za_2, za_3, za_4, za_5, za_6, za_7, za_8, za_9, za_10, za_11, za_12, za_13, za_14, true_and, and_true, Nat.reduceAdd, lg_cmp_eq, W12]
  refine ⟨fun n12 => ?_, fun y => ?_⟩
  rotate_left
  · rw [if_pos (by omega), y]; rfl
  have W13 : (M.2.1 0 11 = lN (zk_fd [102, 114, 111, 109])) = (zk_w tp n s = 13) := W 13 (by decide) (by decide)
  refine h113 _ _ _ ?_
  simp only [bX12_nameOf_113, zw_0, zw_1, zs_aloadn0, zs_aloadNn0, zg_12_111, zs_bipush, zi_12_128, zs_lcmp, zs_ifne, zs_iconst, zs_ireturn, zh_0, zh_1, zh_2, zh_3, zh_4, zt_i, zt_l, zt_r, zt_n, zn_int, zn_b0, zn_b1, zb_0, za_1, za_2, za_3, za_4, za_5, za_6, za_7, za_8, za_9, za_10, za_11, za_12, za_13, za_14, true_and, and_true, Nat.reduceAdd]
  refine zm_R_eq (c_w4 hE (d + 1) 102 114 111 109 (by decide) (by decide) (by decide) (by decide) M) ?_
  simp only [bX12_nameOf_113, zw_0, zw_1, zs_aloadn0, zs_aloadNn0, zg_12_111, zs_bipush, zi_12_128, zs_lcmp, zs_ifne, zs_iconst, zs_ireturn, zh_0, zh_1, zh_2, zh_3, zh_4, zt_i, zt_l, zt_r, zt_n, zn_int, zn_b0, zn_b1, zb_0, za_1, za_2, za_3, za_4, za_5, za_6, za_7, za_8, za_9, za_10, za_11, za_12, za_13, za_14, true_and, and_true, Nat.reduceAdd, lg_cmp_eq, W13]
  refine ⟨fun n13 => ?_, fun y => ?_⟩
  rotate_left
  · rw [if_pos (by omega), y]; rfl
  have W14 : (M.2.1 0 11 = lN (zk_fd [116, 111])) = (zk_w tp n s = 14) := W 14 (by decide) (by decide)
  refine h134 _ _ _ ?_
  simp only [bX12_nameOf_134, zw_0, zw_1, zs_aloadn0, zs_aloadNn0, zg_12_111, zs_bipush, zi_12_120, zs_lcmp, zs_ifne, zs_ireturn, zh_0, zh_1, zh_2, zh_3, zh_4, zt_i, zt_l, zt_r, zt_n, zn_int, zn_b0, zn_b1, zb_0, za_1, za_2, za_3, za_4, za_5, za_6, za_7, za_8, za_9, za_10, za_11, za_12, za_13, za_14, true_and, and_true, Nat.reduceAdd]
  refine zm_R_eq (c_w2 hE (d + 3) 116 111 (by decide) (by decide) M) ?_
  simp only [bX12_nameOf_134, zw_0, zw_1, zs_aloadn0, zs_aloadNn0, zg_12_111, zs_bipush, zi_12_120, zs_lcmp, zs_ifne, zs_ireturn, zh_0, zh_1, zh_2, zh_3, zh_4, zt_i, zt_l, zt_r, zt_n, zn_int, zn_b0, zn_b1, zb_0, za_1, za_2, za_3, za_4, za_5, za_6, za_7, za_8, za_9, za_10, za_11, za_12, za_13, za_14, true_and, and_true, Nat.reduceAdd, lg_cmp_eq, W14]
  refine ⟨fun n14 => ?_, fun y => ?_⟩
  rotate_left
  · rw [if_pos (by omega), y]; rfl
  have W15 : (M.2.1 0 11 = lN (zk_fd [100, 97, 121, 115])) = (zk_w tp n s = 15) := W 15 (by decide) (by decide)
  refine h152 _ _ _ ?_
  simp only [bX12_nameOf_152, zw_0, zw_1, zs_aloadn0, zs_aloadNn0, zg_12_111, zs_bipush, zi_12_128, zs_lcmp, zs_ifne, zs_goto, zh_0, zh_1, zh_2, zh_3, zh_4, zt_i, zt_l, zt_r, zt_n, zb_0, za_1, za_2, za_3, za_4, za_5, za_6, za_7, za_8, za_9, za_10, za_11, za_12, za_13, za_14, true_and, and_true, Nat.reduceAdd]
  refine zm_R_eq (c_w4 hE (d + 1) 100 97 121 115 (by decide) (by decide) (by decide) (by decide) M) ?_
  simp only [bX12_nameOf_152, zw_0, zw_1, zs_aloadn0, zs_aloadNn0, zg_12_111, zs_bipush, zi_12_128, zs_lcmp, zs_ifne, zs_goto, zh_0, zh_1, zh_2, zh_3, zh_4, zt_i, zt_l, zt_r, zt_n, zb_0, za_1, za_2, za_3, za_4, za_5, za_6, za_7, za_8, za_9, za_10, za_11, za_12, za_13, za_14, true_and, and_true, Nat.reduceAdd, lg_cmp_eq, W15]
  refine ⟨fun n15 => ?_, fun y => ?_⟩
  rotate_left
  · exact fin 7 (by rw [if_pos (by omega), y]; rfl)
  have W16 : (M.2.1 0 11 = lN (zk_fd [100, 101, 115, 107])) = (zk_w tp n s = 16) := W 16 (by decide) (by decide)
  refine h176 _ _ _ ?_
  simp only [bX12_nameOf_176, zw_0, zw_1, zs_aloadn0, zs_aloadNn0, zg_12_111, zs_bipush, zi_12_128, zs_lcmp, zs_ifne, zs_goto, zh_0, zh_1, zh_2, zh_3, zh_4, zt_i, zt_l, zt_r, zt_n, zb_0, za_1, za_2, za_3, za_4, za_5, za_6, za_7, za_8, za_9, za_10, za_11, za_12, za_13, za_14, true_and, and_true, Nat.reduceAdd]
  refine zm_R_eq (c_w4 hE (d + 1) 100 101 115 107 (by decide) (by decide) (by decide) (by decide) M) ?_
  simp only [bX12_nameOf_176, zw_0, zw_1, zs_aloadn0, zs_aloadNn0, zg_12_111, zs_bipush, zi_12_128, zs_lcmp, zs_ifne, zs_goto, zh_0, zh_1, zh_2, zh_3, zh_4, zt_i, zt_l, zt_r, zt_n, zb_0, za_1, za_2, za_3, za_4, za_5, za_6, za_7, za_8, za_9, za_10, za_11, za_12, za_13, za_14, true_and, and_true, Nat.reduceAdd, lg_cmp_eq, W16]
  refine ⟨fun n16 => ?_, fun y => ?_⟩
  rotate_left
  · exact fin 8 (by rw [if_pos (by omega), y]; rfl)
  refine h200 _ _ _ ?_
  simp only [bX12_nameOf_200, zw_0, zw_1, zs_iconst, zb_0, za_1, za_2, za_3, za_4, za_5, za_6, za_7, za_8, za_9, za_10, za_11, za_12, za_13, za_14, true_and, and_true, Nat.reduceAdd]
  exact fin (-1) (by rw [if_neg (by omega)])
