/-! ===== is it a word of seven? a name? ===== -/
theorem zk_sub {a b : Nat} (h : b ≤ a) : nI a - nI b = nI (a - b) := by
  obtain ⟨y, rfl⟩ : ∃ y, a = y + b := ⟨a - b, by omega⟩
  rw [← nI_add, Nat.add_sub_cancel]
  exact Int32.add_sub_cancel _ _
theorem zk_li7 {tp : Nat → Nat} {s e : Nat} (h : e = s + 7) : zk_li tp s e = [tp s, tp (s + 1), tp (s + 2), tp (s + 3), tp (s + 4), tp (s + 5), tp (s + 6)] := by
  subst h
  unfold zk_li
  rw [Nat.add_sub_cancel_left]
  rfl
theorem zk_fd4 {a b c x a' b' c' x' : Nat} (h : a < 256 ∧ b < 256 ∧ c < 256 ∧ x < 256) (h' : a' < 256 ∧ b' < 256 ∧ c' < 256 ∧ x' < 256) : (lN (zk_fd [a, b, c, x]) = lN (zk_fd [a', b', c', x'])) = (a = a' ∧ b = b' ∧ c = c' ∧ x = x') := by
  have e : zk_fd [a, b, c, x] = ((a * 256 + b) * 256 + c) * 256 + x := by simp [zk_fd]
  have e' : zk_fd [a', b', c', x'] = ((a' * 256 + b') * 256 + c') * 256 + x' := by simp [zk_fd]
  refine propext ⟨fun z => ?_, fun z => by rw [z.1, z.2.1, z.2.2.1, z.2.2.2]⟩
  have := (pk_lEQ (by omega) (by omega)).mp z
  rw [e, e'] at this
  omega
theorem zk_fd3 {a b c a' b' c' : Nat} (h : a < 256 ∧ b < 256 ∧ c < 256) (h' : a' < 256 ∧ b' < 256 ∧ c' < 256) : (lN (zk_fd [a, b, c]) = lN (zk_fd [a', b', c'])) = (a = a' ∧ b = b' ∧ c = c') := by
  have e : zk_fd [a, b, c] = (a * 256 + b) * 256 + c := by simp [zk_fd]
  have e' : zk_fd [a', b', c'] = (a' * 256 + b') * 256 + c' := by simp [zk_fd]
  refine propext ⟨fun z => ?_, fun z => by rw [z.1, z.2.1, z.2.2]⟩
  have := (pk_lEQ (by omega) (by omega)).mp z
  rw [e, e'] at this
  omega
theorem c_isLong {E : zm_E} (hE : zm_ok E.2.2.1 E.2.2.2.2) (d : Nat) {tp : Nat → Nat} {n s i a b c x y z t : Nat} {M : zm_M} (hT : zk_tm tp n M) (hA : zk_at tp n s M) (hi : i < 28) (hs : zz_sd.getD i [] = [a, b, c, x, y, z, t]) (h4 : a < 256 ∧ b < 256 ∧ c < 256 ∧ x < 256) (h3 : y < 256 ∧ z < 256 ∧ t < 256) : zm_R E (d + 4) mX12_isLong [.ref 0, .long (lN (zk_fd [a, b, c, x])), .long (lN (zk_fd [y, z, t]))] M (fun r M' => r = some (.int (zi_b (decide (zk_w tp n s = i)))) ∧ M' = M) := by
  refine zX12_isLong hE rfl (fun G h0 h22 h24 h113 h114 => ?_)
  have st0 : zm_ent [.ref 0, .long (lN (zk_fd [a, b, c, x])), .long (lN (zk_fd [y, z, t]))] 5 = [some (.ref 0), some (.long (lN (zk_fd [a, b, c, x]))), none, some (.long (lN (zk_fd [y, z, t]))), none] := rfl
  rw [st0]
  have ht := hT.2.2.2
  have n300 := hT.1
  obtain ⟨h8, h7, h9, h10, h11⟩ := hA
  have e9 : (nI (zk_so tp n s) = 2) = (zk_so tp n s = 2) := propext (nI_eq (b := 2) (by have := zk_so_lt ht n s; omega) (by decide))
  have wd : ∀ (h1 : s < n) (h2 : zk_L (tp s) = true), (zk_w tp n s = i) = (zk_li tp s (zk_en tp n s) = [a, b, c, x, y, z, t]) := by
    intro h1 h2
    rw [← hs, ← zk_wd_li ht (by omega)]
    unfold zk_w
    rw [if_neg (by omega), if_neg (by rw [zk_L_F h2]; decide)]
  have no22 : ¬ zk_w tp n s = i → G 22 [some (.ref 0), some (.long (lN (zk_fd [a, b, c, x]))), none, some (.long (lN (zk_fd [y, z, t]))), none] [] M := by
    intro h
    refine h22 _ _ _ ?_
    simp only [bX12_isLong_22, zw_0, zw_1, zs_iconst, zs_ireturn, zn_int, zn_b0, zn_b1, zb_0, za_1, za_2, za_3, za_4, za_5, za_6, za_7, za_8, za_9, za_10, za_11, za_12, za_13, za_14, true_and, and_true, Nat.reduceAdd]
    rw [decide_eq_false h]; rfl
  have no : ¬ zk_w tp n s = i → G 113 [some (.ref 0), some (.long (lN (zk_fd [a, b, c, x]))), none, some (.long (lN (zk_fd [y, z, t]))), none] [] M := by
    intro h
    refine h113 _ _ _ ?_
    simp only [bX12_isLong_113, zw_0, zw_1, zs_iconst, zb_0, za_1, za_2, za_3, za_4, za_5, za_6, za_7, za_8, za_9, za_10, za_11, za_12, za_13, za_14, true_and, and_true, Nat.reduceAdd]
    refine h114 _ _ _ ?_
    simp only [bX12_isLong_114, zw_0, zw_1, zs_ireturn, zn_int, zn_b0, zn_b1, zb_0, za_1, za_2, za_3, za_4, za_5, za_6, za_7, za_8, za_9, za_10, za_11, za_12, za_13, za_14, true_and, and_true, Nat.reduceAdd]
    rw [decide_eq_false h]; rfl
  refine h0 _ _ _ ?_
  simp only [bX12_isLong_0, zw_0, zw_1, zs_aloadn0, zs_aloadNn0, zg_12_98, zs_iconst, zs_icne, zg_12_88, zg_12_95, zs_isub, zs_bipush, zs_iceq, zb_0, za_1, za_2, za_3, za_4, za_5, za_6, za_7, za_8, za_9, za_10, za_11, za_12, za_13, za_14, true_and, and_true, Nat.reduceAdd, h9, e9, h7, h8]
  refine ⟨fun h => no22 (fun w => ?_), fun h => ?_⟩
  · obtain ⟨u1, u2⟩ := zk_w_28 ht hi w
    exact h (zk_so_L u1 u2)
  obtain ⟨u1, -, u2⟩ := zk_so_2 h
  have hen := zk_en_in (tp := tp) u1
  have e7 : (nI (zk_en tp n s) - nI s = 7) = (zk_en tp n s = s + 7) := by
    rw [zk_sub (by omega)]
    exact propext ⟨fun w => by have := (nI_eq (b := 7) (by omega) (by decide)).mp w; omega, fun w => by rw [w, Nat.add_sub_cancel_left]; rfl⟩
  rw [e7]
  refine ⟨fun h7' => ?_, fun h7' => no22 (fun w => ?_)⟩
  · have p2 : nI s + 2 = nI (s + 2) := by rw [← nI_add]; rfl
    have p3 : nI s + 3 = nI (s + 3) := by rw [← nI_add]; rfl
    have p4 : nI s + 4 = nI (s + 4) := by rw [← nI_add]; rfl
    have p5 : nI s + 5 = nI (s + 5) := by rw [← nI_add]; rfl
    have p6 : nI s + 6 = nI (s + 6) := by rw [← nI_add]; rfl
    have bt : ∀ j, j ≤ 6 → zk_b tp n (s + j) = nI (tp (s + j)) := fun j hj => zk_b_in (by omega)
    have b0 : zk_b tp n s = nI (tp s) := zk_b_in u1
    have w7 := wd u1 u2
    rw [zk_li7 h7'] at w7
    simp only [List.cons.injEq, and_true] at w7
    refine h24 _ _ _ ?_
    simp only [bX12_isLong_24, zw_0, zw_1, zs_aloadn0, zs_aloadNn0, zg_12_95, zi_12_91, zs_iconst, zs_iadd, zi_12_128, zs_lloadn1, zs_lcmp, zs_ifne, zs_bipush, zi_12_124, zs_lloadn3, zs_goto, zh_0, zh_1, zh_2, zh_3, zh_4, zt_i, zt_l, zt_r, zt_n, zb_0, za_1, za_2, za_3, za_4, za_5, za_6, za_7, za_8, za_9, za_10, za_11, za_12, za_13, za_14, true_and, and_true, Nat.reduceAdd, h8, nI_1, p2, p3, p4, p5, p6]
    refine zm_R_eq (c_byteAt hE (d + 2) (by omega) hT) ?_
    rw [b0]
    simp only [bX12_isLong_24, zw_0, zw_1, zs_aloadn0, zs_aloadNn0, zg_12_95, zi_12_91, zs_iconst, zs_iadd, zi_12_128, zs_lloadn1, zs_lcmp, zs_ifne, zs_bipush, zi_12_124, zs_lloadn3, zs_goto, zh_0, zh_1, zh_2, zh_3, zh_4, zt_i, zt_l, zt_r, zt_n, zb_0, za_1, za_2, za_3, za_4, za_5, za_6, za_7, za_8, za_9, za_10, za_11, za_12, za_13, za_14, true_and, and_true, Nat.reduceAdd, h8, nI_1, p2, p3, p4, p5, p6]
    refine zm_R_eq (c_byteAt hE (d + 2) (by omega) hT) ?_
    rw [bt 1 (by omega)]
    simp only [bX12_isLong_24, zw_0, zw_1, zs_aloadn0, zs_aloadNn0, zg_12_95, zi_12_91, zs_iconst, zs_iadd, zi_12_128, zs_lloadn1, zs_lcmp, zs_ifne, zs_bipush, zi_12_124, zs_lloadn3, zs_goto, zh_0, zh_1, zh_2, zh_3, zh_4, zt_i, zt_l, zt_r, zt_n, zb_0, za_1, za_2, za_3, za_4, za_5, za_6, za_7, za_8, za_9, za_10, za_11, za_12, za_13, za_14, true_and, and_true, Nat.reduceAdd, h8, nI_1, p2, p3, p4, p5, p6]
    refine zm_R_eq (c_byteAt hE (d + 2) (by omega) hT) ?_
    rw [bt 2 (by omega)]
    simp only [bX12_isLong_24, zw_0, zw_1, zs_aloadn0, zs_aloadNn0, zg_12_95, zi_12_91, zs_iconst, zs_iadd, zi_12_128, zs_lloadn1, zs_lcmp, zs_ifne, zs_bipush, zi_12_124, zs_lloadn3, zs_goto, zh_0, zh_1, zh_2, zh_3, zh_4, zt_i, zt_l, zt_r, zt_n, zb_0, za_1, za_2, za_3, za_4, za_5, za_6, za_7, za_8, za_9, za_10, za_11, za_12, za_13, za_14, true_and, and_true, Nat.reduceAdd, h8, nI_1, p2, p3, p4, p5, p6]
    refine zm_R_eq (c_byteAt hE (d + 2) (by omega) hT) ?_
    rw [bt 3 (by omega)]
    simp only [bX12_isLong_24, zw_0, zw_1, zs_aloadn0, zs_aloadNn0, zg_12_95, zi_12_91, zs_iconst, zs_iadd, zi_12_128, zs_lloadn1, zs_lcmp, zs_ifne, zs_bipush, zi_12_124, zs_lloadn3, zs_goto, zh_0, zh_1, zh_2, zh_3, zh_4, zt_i, zt_l, zt_r, zt_n, zb_0, za_1, za_2, za_3, za_4, za_5, za_6, za_7, za_8, za_9, za_10, za_11, za_12, za_13, za_14, true_and, and_true, Nat.reduceAdd, h8, nI_1, p2, p3, p4, p5, p6]
    refine zm_R_eq (c_w4 hE d _ _ _ _ (ht _) (ht _) (ht _) (ht _) M) ?_
    have k4 := zk_fd4 (a := tp s) (b := tp (s + 1)) (c := tp (s + 2)) (x := tp (s + 3)) ⟨ht _, ht _, ht _, ht _⟩ h4
    simp only [bX12_isLong_24, zw_0, zw_1, zs_aloadn0, zs_aloadNn0, zg_12_95, zi_12_91, zs_iconst, zs_iadd, zi_12_128, zs_lloadn1, zs_lcmp, zs_ifne, zs_bipush, zi_12_124, zs_lloadn3, zs_goto, zh_0, zh_1, zh_2, zh_3, zh_4, zt_i, zt_l, zt_r, zt_n, zb_0, za_1, za_2, za_3, za_4, za_5, za_6, za_7, za_8, za_9, za_10, za_11, za_12, za_13, za_14, true_and, and_true, Nat.reduceAdd, lg_cmp_eq, k4, h8, nI_1, p2, p3, p4, p5, p6]
    refine ⟨fun w => no (fun u => w (by rw [w7] at u; exact ⟨u.1, u.2.1, u.2.2.1, u.2.2.2.1⟩)), fun w4 => ?_⟩
    refine zm_R_eq (c_byteAt hE (d + 2) (by omega) hT) ?_
    rw [bt 4 (by omega)]
    simp only [bX12_isLong_24, zw_0, zw_1, zs_aloadn0, zs_aloadNn0, zg_12_95, zi_12_91, zs_iconst, zs_iadd, zi_12_128, zs_lloadn1, zs_lcmp, zs_ifne, zs_bipush, zi_12_124, zs_lloadn3, zs_goto, zh_0, zh_1, zh_2, zh_3, zh_4, zt_i, zt_l, zt_r, zt_n, zb_0, za_1, za_2, za_3, za_4, za_5, za_6, za_7, za_8, za_9, za_10, za_11, za_12, za_13, za_14, true_and, and_true, Nat.reduceAdd, h8, nI_1, p2, p3, p4, p5, p6]
    refine zm_R_eq (c_byteAt hE (d + 2) (by omega) hT) ?_
    rw [bt 5 (by omega)]
    simp only [bX12_isLong_24, zw_0, zw_1, zs_aloadn0, zs_aloadNn0, zg_12_95, zi_12_91, zs_iconst, zs_iadd, zi_12_128, zs_lloadn1, zs_lcmp, zs_ifne, zs_bipush, zi_12_124, zs_lloadn3, zs_goto, zh_0, zh_1, zh_2, zh_3, zh_4, zt_i, zt_l, zt_r, zt_n, zb_0, za_1, za_2, za_3, za_4, za_5, za_6, za_7, za_8, za_9, za_10, za_11, za_12, za_13, za_14, true_and, and_true, Nat.reduceAdd, h8, nI_1, p2, p3, p4, p5, p6]
    refine zm_R_eq (c_byteAt hE (d + 2) (by omega) hT) ?_
    rw [bt 6 (by omega)]
    simp only [bX12_isLong_24, zw_0, zw_1, zs_aloadn0, zs_aloadNn0, zg_12_95, zi_12_91, zs_iconst, zs_iadd, zi_12_128, zs_lloadn1, zs_lcmp, zs_ifne, zs_bipush, zi_12_124, zs_lloadn3, zs_goto, zh_0, zh_1, zh_2, zh_3, zh_4, zt_i, zt_l, zt_r, zt_n, zb_0, za_1, za_2, za_3, za_4, za_5, za_6, za_7, za_8, za_9, za_10, za_11, za_12, za_13, za_14, true_and, and_true, Nat.reduceAdd, h8, nI_1, p2, p3, p4, p5, p6]
    refine zm_R_eq (c_w3 hE (d + 1) _ _ _ (ht _) (ht _) (ht _) M) ?_
    have k3 := zk_fd3 (a := tp (s + 4)) (b := tp (s + 5)) (c := tp (s + 6)) ⟨ht _, ht _, ht _⟩ h3
    simp only [bX12_isLong_24, zw_0, zw_1, zs_aloadn0, zs_aloadNn0, zg_12_95, zi_12_91, zs_iconst, zs_iadd, zi_12_128, zs_lloadn1, zs_lcmp, zs_ifne, zs_bipush, zi_12_124, zs_lloadn3, zs_goto, zh_0, zh_1, zh_2, zh_3, zh_4, zt_i, zt_l, zt_r, zt_n, zb_0, za_1, za_2, za_3, za_4, za_5, za_6, za_7, za_8, za_9, za_10, za_11, za_12, za_13, za_14, true_and, and_true, Nat.reduceAdd, lg_cmp_eq, k3]
    refine ⟨fun w => no (fun u => w (by rw [w7] at u; exact u.2.2.2.2)), fun w3 => ?_⟩
    refine h114 _ _ _ ?_
    simp only [bX12_isLong_114, zw_0, zw_1, zs_ireturn, zn_int, zn_b0, zn_b1, zb_0, za_1, za_2, za_3, za_4, za_5, za_6, za_7, za_8, za_9, za_10, za_11, za_12, za_13, za_14, true_and, and_true, Nat.reduceAdd]
    rw [decide_eq_true (show zk_w tp n s = i by rw [w7]; exact ⟨w4.1, w4.2.1, w4.2.2.1, w4.2.2.2, w3⟩)]; rfl
  · rw [wd u1 u2] at w
    have := congrArg List.length w
    rw [zk_li_len] at this
    simp at this
    exact h7' (by omega)
