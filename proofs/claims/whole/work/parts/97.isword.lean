/-! ===== is it the word? ===== -/
theorem c_w4 {E : zm_E} (hE : zm_ok E.2.2.1 E.2.2.2.2) (d : Nat) (a b c x : Nat) (ha : a < 256) (hb : b < 256) (hc : c < 256) (hx : x < 256) (M : zm_M) : zm_R E (d + 3) mX12_w4 [.int (nI a), .int (nI b), .int (nI c), .int (nI x)] M (fun r M' => r = some (.long (lN (zk_fd [a, b, c, x]))) ∧ M' = M) := by
  refine zX12_w4 hE rfl (fun G h0 => ?_)
  show G 0 [some (.int (nI a)), some (.int (nI b)), some (.int (nI c)), some (.int (nI x))] [] M
  have e2 : zk_fd [a, b, c] = (a * 256 + b) * 256 + c := by simp [zk_fd]
  have e3 : zk_fd [a, b, c, x] = zk_fd [a, b, c] * 256 + x := by simp [zk_fd]
  have e1 := zk_sh8 (a := zk_fd [a, b, c]) (c := x) (by omega) hx
  refine h0 _ _ _ ?_
  simp only [bX12_w4_0, zw_0, zw_1, zs_iloadn0, zs_iloadn1, zs_iloadn2, zi_12_124, zs_bipush, zs_lshl, zs_iloadn3, zs_i2l, zs_lor, zs_lreturn, zh_0, zh_1, zh_2, zh_3, zh_4, zt_i, zt_l, zt_r, zt_n, zn_int, zn_b0, zn_b1, zb_0, za_1, za_2, za_3, za_4, za_5, za_6, za_7, za_8, za_9, za_10, za_11, za_12, za_13, za_14, true_and, and_true, Nat.reduceAdd]
  refine zm_R_eq (c_w3 hE d a b c ha hb hc M) ?_
  simp only [bX12_w4_0, zw_0, zw_1, zs_iloadn0, zs_iloadn1, zs_iloadn2, zi_12_124, zs_bipush, zs_lshl, zs_iloadn3, zs_i2l, zs_lor, zs_lreturn, zh_0, zh_1, zh_2, zh_3, zh_4, zt_i, zt_l, zt_r, zt_n, zn_int, zn_b0, zn_b1, zb_0, za_1, za_2, za_3, za_4, za_5, za_6, za_7, za_8, za_9, za_10, za_11, za_12, za_13, za_14, true_and, and_true, Nat.reduceAdd, e1]
  rw [e3]
theorem c_w5 {E : zm_E} (hE : zm_ok E.2.2.1 E.2.2.2.2) (d : Nat) (a b c x y : Nat) (ha : a < 256) (hb : b < 256) (hc : c < 256) (hx : x < 256) (hy : y < 256) (M : zm_M) : zm_R E (d + 4) mX12_w5 [.int (nI a), .int (nI b), .int (nI c), .int (nI x), .int (nI y)] M (fun r M' => r = some (.long (lN (zk_fd [a, b, c, x, y]))) ∧ M' = M) := by
  refine zX12_w5 hE rfl (fun G h0 => ?_)
  show G 0 [some (.int (nI a)), some (.int (nI b)), some (.int (nI c)), some (.int (nI x)), some (.int (nI y))] [] M
  have e2 : zk_fd [a, b, c, x] = ((a * 256 + b) * 256 + c) * 256 + x := by simp [zk_fd]
  have e3 : zk_fd [a, b, c, x, y] = zk_fd [a, b, c, x] * 256 + y := by simp [zk_fd]
  have e1 := zk_sh8 (a := zk_fd [a, b, c, x]) (c := y) (by omega) hy
  refine h0 _ _ _ ?_
  simp only [bX12_w5_0, zw_0, zw_1, zs_iloadn0, zs_iloadn1, zs_iloadn2, zs_iloadn3, zi_12_128, zs_bipush, zs_lshl, zs_iload4, zs_i2l, zs_lor, zs_lreturn, zh_0, zh_1, zh_2, zh_3, zh_4, zt_i, zt_l, zt_r, zt_n, zn_int, zn_b0, zn_b1, zb_0, za_1, za_2, za_3, za_4, za_5, za_6, za_7, za_8, za_9, za_10, za_11, za_12, za_13, za_14, true_and, and_true, Nat.reduceAdd]
  refine zm_R_eq (c_w4 hE d a b c x ha hb hc hx M) ?_
  simp only [bX12_w5_0, zw_0, zw_1, zs_iloadn0, zs_iloadn1, zs_iloadn2, zs_iloadn3, zi_12_128, zs_bipush, zs_lshl, zs_iload4, zs_i2l, zs_lor, zs_lreturn, zh_0, zh_1, zh_2, zh_3, zh_4, zt_i, zt_l, zt_r, zt_n, zn_int, zn_b0, zn_b1, zb_0, za_1, za_2, za_3, za_4, za_5, za_6, za_7, za_8, za_9, za_10, za_11, za_12, za_13, za_14, true_and, and_true, Nat.reduceAdd, e1]
  rw [e3]
theorem c_w6 {E : zm_E} (hE : zm_ok E.2.2.1 E.2.2.2.2) (d : Nat) (a b c x y z : Nat) (ha : a < 256) (hb : b < 256) (hc : c < 256) (hx : x < 256) (hy : y < 256) (hz : z < 256) (M : zm_M) : zm_R E (d + 5) mX12_w6 [.int (nI a), .int (nI b), .int (nI c), .int (nI x), .int (nI y), .int (nI z)] M (fun r M' => r = some (.long (lN (zk_fd [a, b, c, x, y, z]))) ∧ M' = M) := by
  refine zX12_w6 hE rfl (fun G h0 => ?_)
  show G 0 [some (.int (nI a)), some (.int (nI b)), some (.int (nI c)), some (.int (nI x)), some (.int (nI y)), some (.int (nI z))] [] M
  have e2 : zk_fd [a, b, c, x, y] = (((a * 256 + b) * 256 + c) * 256 + x) * 256 + y := by simp [zk_fd]
  have e3 : zk_fd [a, b, c, x, y, z] = zk_fd [a, b, c, x, y] * 256 + z := by simp [zk_fd]
  have e1 := zk_sh8 (a := zk_fd [a, b, c, x, y]) (c := z) (by omega) hz
  refine h0 _ _ _ ?_
  simp only [bX12_w6_0, zw_0, zw_1, zs_iloadn0, zs_iloadn1, zs_iloadn2, zs_iloadn3, zs_iload4, zi_12_132, zs_bipush, zs_lshl, zs_iload5, zs_i2l, zs_lor, zs_lreturn, zh_0, zh_1, zh_2, zh_3, zh_4, zt_i, zt_l, zt_r, zt_n, zn_int, zn_b0, zn_b1, zb_0, za_1, za_2, za_3, za_4, za_5, za_6, za_7, za_8, za_9, za_10, za_11, za_12, za_13, za_14, true_and, and_true, Nat.reduceAdd]
  refine zm_R_eq (c_w5 hE d a b c x y ha hb hc hx hy M) ?_
  simp only [bX12_w6_0, zw_0, zw_1, zs_iloadn0, zs_iloadn1, zs_iloadn2, zs_iloadn3, zs_iload4, zi_12_132, zs_bipush, zs_lshl, zs_iload5, zs_i2l, zs_lor, zs_lreturn, zh_0, zh_1, zh_2, zh_3, zh_4, zt_i, zt_l, zt_r, zt_n, zn_int, zn_b0, zn_b1, zb_0, za_1, za_2, za_3, za_4, za_5, za_6, za_7, za_8, za_9, za_10, za_11, za_12, za_13, za_14, true_and, and_true, Nat.reduceAdd, e1]
  rw [e3]
theorem zk_so_lt {tp : Nat → Nat} (ht : ∀ j, tp j < 256) (n s : Nat) : zk_so tp n s < 256 := by
  unfold zk_so
  have := ht s
  (repeat' split) <;> omega
theorem zz_sd_lt : ∀ i, i < 28 → (zz_sd.getD i []).length ≤ 6 → zk_fd (zz_sd.getD i []) < 2 ^ 48 := by decide +kernel
theorem c_isWord {E : zm_E} (hE : zm_ok E.2.2.1 E.2.2.2.2) (d : Nat) {tp : Nat → Nat} {n s i : Nat} {M : zm_M} (ht : ∀ j, tp j < 256) (hA : zk_at tp n s M) (hi : i < 28) (hl : (zz_sd.getD i []).length ≤ 6) : zm_R E (d + 1) mX12_isWord [.ref 0, .long (lN (zk_fd (zz_sd.getD i [])))] M (fun r M' => r = some (.int (zi_b (decide (zk_w tp n s = i)))) ∧ M' = M) := by
  refine zX12_isWord hE rfl (fun G h0 h21 h22 => ?_)
  have st0 : zm_ent [.ref 0, .long (lN (zk_fd (zz_sd.getD i [])))] 3 = [some (.ref 0), some (.long (lN (zk_fd (zz_sd.getD i [])))), none] := rfl
  rw [st0]
  obtain ⟨h8, h7, h9, h10, h11⟩ := hA
  have e9 : (nI (zk_so tp n s) = 2) = (zk_so tp n s = 2) := propext (nI_eq (b := 2) (by have := zk_so_lt ht n s; omega) (by decide))
  have no : ¬ zk_w tp n s = i → G 21 [some (.ref 0), some (.long (lN (zk_fd (zz_sd.getD i [])))), none] [] M := by
    intro h
    refine h21 _ _ _ ?_
    simp only [bX12_isWord_21, zw_0, zw_1, zs_iconst, zb_0, za_1, za_2, za_3, za_4, za_5, za_6, za_7, za_8, za_9, za_10, za_11, za_12, za_13, za_14, true_and, and_true, Nat.reduceAdd]
    refine h22 _ _ _ ?_
    simp only [bX12_isWord_22, zw_0, zw_1, zs_ireturn, zn_int, zn_b0, zn_b1, zb_0, za_1, za_2, za_3, za_4, za_5, za_6, za_7, za_8, za_9, za_10, za_11, za_12, za_13, za_14, true_and, and_true, Nat.reduceAdd]
    rw [decide_eq_false h]; rfl
  have key := zk_is (n := n) (s := s) ht hi hl
  refine h0 _ _ _ ?_
  simp only [bX12_isWord_0, zw_0, zw_1, zs_aloadn0, zs_aloadNn0, zg_12_98, zs_iconst, zs_icne, zg_12_111, zs_lloadn1, zs_lcmp, zs_ifne, zs_goto, zb_0, za_1, za_2, za_3, za_4, za_5, za_6, za_7, za_8, za_9, za_10, za_11, za_12, za_13, za_14, true_and, and_true, Nat.reduceAdd, h9, e9, lg_cmp_eq]
  refine ⟨fun h => no (fun z => h (by rw [← key] at z; exact z.1)), fun h => ?_⟩
  have e11 : (lN (zk_pk tp (zk_en tp n s - s) s 0) = lN (zk_fd (zz_sd.getD i []))) = (zk_w tp n s = i) := by
    rw [← key]
    have b1 := zk_pk_lt ht (zk_en tp n s - s) s 0 (by decide)
    have b2 := zz_sd_lt i hi hl
    exact propext ⟨fun z => ⟨h, (pk_lEQ (by omega) (by omega)).mp z⟩, fun z => by rw [z.2]⟩
  rw [h11 h, e11]
  refine ⟨fun h2 => no h2, fun h2 => ?_⟩
  refine h22 _ _ _ ?_
  simp only [bX12_isWord_22, zw_0, zw_1, zs_ireturn, zn_int, zn_b0, zn_b1, zb_0, za_1, za_2, za_3, za_4, za_5, za_6, za_7, za_8, za_9, za_10, za_11, za_12, za_13, za_14, true_and, and_true, Nat.reduceAdd]
  rw [decide_eq_true h2]; rfl
