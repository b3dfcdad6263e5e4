/-! ===== the reference: a comparison; whose name ===== -/
theorem c_compareOf {E : zm_E} (hE : zm_ok E.2.2.1 E.2.2.2.2) (d : Nat) {tp : Nat → Nat} {n s : Nat} {M : zm_M} (ht : ∀ j, tp j < 256) (hA : zk_at tp n s M) : zm_R E (d + 1) mX12_compareOf [.ref 0] M (fun r M' => r = some (.int (if 28 ≤ zk_w tp n s ∧ zk_w tp n s ≤ 33 then nI (zk_w tp n s - 18) else -1)) ∧ M' = M) := by
  refine zX12_compareOf hE rfl (fun G h0 h14 h27 h41 h54 h68 h82 h83 => ?_)
  show G 0 [some (.ref 0)] [] M
  obtain ⟨k8, k7, k9, k10, k11⟩ := hA
  have so := zk_so_lt ht n s
  have fin : ∀ x : Int32, x = (if 28 ≤ zk_w tp n s ∧ zk_w tp n s ≤ 33 then nI (zk_w tp n s - 18) else -1) → G 83 [some (.ref 0)] [.int x] M := by
    intro x hx
    refine h83 _ _ _ ?_
    simp only [bX12_compareOf_83, zw_0, zw_1, zs_ireturn, zn_int, zn_b0, zn_b1, zb_0, za_1, za_2, za_3, za_4, za_5, za_6, za_7, za_8, za_9, za_10, za_11, za_12, za_13, za_14, true_and, and_true, Nat.reduceAdd]
    rw [hx]
  have W0 : (nI (zk_so tp n s) = 60) = (zk_w tp n s = 28) := by
    rw [show (zk_w tp n s = 28) = (zk_so tp n s = 60) from zk_sign (i := 0) ht (by decide)]
    exact propext (nI_eq (b := 60) (by omega) (by decide))
  refine h0 _ _ _ ?_
  simp only [bX12_compareOf_0, zw_0, zw_1, zs_aloadn0, zs_aloadNn0, zg_12_98, zs_bipush, zs_icne, zs_goto, zb_0, za_1, za_2, za_3, za_4, za_5, za_6, za_7, za_8, za_9, za_10, za_11, za_12, za_13, za_14, true_and, and_true, Nat.reduceAdd, k9, W0]
  refine ⟨fun n0 => ?_, fun y => ?_⟩
  rotate_left
  · exact fin 10 (by rw [if_pos (by omega), y]; rfl)
  have W1 : (nI (zk_so tp n s) = 4) = (zk_w tp n s = 29) := by
    rw [show (zk_w tp n s = 29) = (zk_so tp n s = 4) from zk_sign (i := 1) ht (by decide)]
    exact propext (nI_eq (b := 4) (by omega) (by decide))
  refine h14 _ _ _ ?_
  simp only [bX12_compareOf_14, zw_0, zw_1, zs_aloadn0, zs_aloadNn0, zg_12_98, zs_iconst, zs_icne, zs_bipush, zs_goto, zb_0, za_1, za_2, za_3, za_4, za_5, za_6, za_7, za_8, za_9, za_10, za_11, za_12, za_13, za_14, true_and, and_true, Nat.reduceAdd, k9, W1]
  refine ⟨fun n1 => ?_, fun y => ?_⟩
  rotate_left
  · exact fin 11 (by rw [if_pos (by omega), y]; rfl)
  have W2 : (nI (zk_so tp n s) = 62) = (zk_w tp n s = 30) := by
    rw [show (zk_w tp n s = 30) = (zk_so tp n s = 62) from zk_sign (i := 2) ht (by decide)]
    exact propext (nI_eq (b := 62) (by omega) (by decide))
  refine h27 _ _ _ ?_
  simp only [bX12_compareOf_27, zw_0, zw_1, zs_aloadn0, zs_aloadNn0, zg_12_98, zs_bipush, zs_icne, zs_goto, zb_0, za_1, za_2, za_3, za_4, za_5, za_6, za_7, za_8, za_9, za_10, za_11, za_12, za_13, za_14, true_and, and_true, Nat.reduceAdd, k9, W2]
  refine ⟨fun n2 => ?_, fun y => ?_⟩
  rotate_left
  · exact fin 12 (by rw [if_pos (by omega), y]; rfl)
  have W3 : (nI (zk_so tp n s) = 5) = (zk_w tp n s = 31) := by
    rw [show (zk_w tp n s = 31) = (zk_so tp n s = 5) from zk_sign (i := 3) ht (by decide)]
    exact propext (nI_eq (b := 5) (by omega) (by decide))
  refine h41 _ _ _ ?_
  simp only [bX12_compareOf_41, zw_0, zw_1, zs_aloadn0, zs_aloadNn0, zg_12_98, zs_iconst, zs_icne, zs_bipush, zs_goto, zb_0, za_1, za_2, za_3, za_4, za_5, za_6, za_7, za_8, za_9, za_10, za_11, za_12, za_13, za_14, true_and, and_true, Nat.reduceAdd, k9, W3]
  refine ⟨fun n3 => ?_, fun y => ?_⟩
  rotate_left
  · exact fin 13 (by rw [if_pos (by omega), y]; rfl)
  have W4 : (nI (zk_so tp n s) = 61) = (zk_w tp n s = 32) := by
    rw [show (zk_w tp n s = 32) = (zk_so tp n s = 61) from zk_sign (i := 4) ht (by decide)]
    exact propext (nI_eq (b := 61) (by omega) (by decide))
  refine h54 _ _ _ ?_
  simp only [bX12_compareOf_54, zw_0, zw_1, zs_aloadn0, zs_aloadNn0, zg_12_98, zs_bipush, zs_icne, zs_goto, zb_0, za_1, za_2, za_3, za_4, za_5, za_6, za_7, za_8, za_9, za_10, za_11, za_12, za_13, za_14, true_and, and_true, Nat.reduceAdd, k9, W4]
  refine ⟨fun n4 => ?_, fun y => ?_⟩
  rotate_left
  · exact fin 14 (by rw [if_pos (by omega), y]; rfl)
  have W5 : (nI (zk_so tp n s) = 35) = (zk_w tp n s = 33) := by
    rw [show (zk_w tp n s = 33) = (zk_so tp n s = 35) from zk_sign (i := 5) ht (by decide)]
    exact propext (nI_eq (b := 35) (by omega) (by decide))
  refine h68 _ _ _ ?_
  simp only [bX12_compareOf_68, zw_0, zw_1, zs_aloadn0, zs_aloadNn0, zg_12_98, zs_bipush, zs_icne, zs_goto, zb_0, za_1, za_2, za_3, za_4, za_5, za_6, za_7, za_8, za_9, za_10, za_11, za_12, za_13, za_14, true_and, and_true, Nat.reduceAdd, k9, W5]
  refine ⟨fun n5 => ?_, fun y => ?_⟩
  rotate_left
  · exact fin 15 (by rw [if_pos (by omega), y]; rfl)
  refine h82 _ _ _ ?_
  simp only [bX12_compareOf_82, zw_0, zw_1, zs_iconst, zb_0, za_1, za_2, za_3, za_4, za_5, za_6, za_7, za_8, za_9, za_10, za_11, za_12, za_13, za_14, true_and, and_true, Nat.reduceAdd]
  exact fin (-1) (by rw [if_neg (by omega)])
