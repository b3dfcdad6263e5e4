/-! ===== the reference: a word and a figure ===== -/
theorem c_worded {E : zm_E} (hE : zm_ok E.2.2.1 E.2.2.2.2) (d : Nat) {tp : Nat → Nat} {n s p l h i : Nat} {M : zm_M} (hi : i < 28) (hil : (zz_sd.getD i []).length ≤ 6) (hT : zk_tm tp n M) (hA : zk_at tp n s M) (hsn : s ≤ n) (hp : p < 2820) (hl : l ≤ 9999) (hh : h ≤ 9999) {Q : Option Value → zm_M → Prop} (q0 : ¬ zk_w tp n s = i → Q (some (.int 1)) M) (q1 : zk_w tp n s = i → ∀ M1, zk_at tp n (zk_sk tp n (zk_en tp n s)) M1 → zk_f M M1 → ¬ zk_w tp n (zk_sk tp n (zk_en tp n s)) = 41 → Q (some (.int 1)) M1) (q2 : zk_w tp n s = i → ∀ M1, zk_at tp n (zk_sk tp n (zk_en tp n s)) M1 → zk_f M M1 → ∀ v, v = zk_nc tp (zk_en tp n (zk_sk tp n (zk_en tp n s)) - zk_sk tp n (zk_en tp n s)) (zk_sk tp n (zk_en tp n s)) 0 → zk_w tp n (zk_sk tp n (zk_en tp n s)) = 41 → zi_in (nI v) (nI l) (nI h) = 0 → Q (some (.int 2)) M1) (q3 : zk_w tp n s = i → ∀ M1, zk_at tp n (zk_sk tp n (zk_en tp n s)) M1 → zk_f M M1 → ∀ v, v = zk_nc tp (zk_en tp n (zk_sk tp n (zk_en tp n s)) - zk_sk tp n (zk_en tp n s)) (zk_sk tp n (zk_en tp n s)) 0 → zk_w tp n (zk_sk tp n (zk_en tp n s)) = 41 → ¬ zi_in (nI v) (nI l) (nI h) = 0 → ∀ M', zk_at tp n (zk_sk tp n (zk_en tp n (zk_sk tp n (zk_en tp n s)))) M' → zk_f (zm_wi M1 3 p (nI v)) M' → Q (some (.int 0)) M') : zm_R E (d + 4) mX12_worded [.ref 0, .long (lN (zk_fd (zz_sd.getD i []))), .int (nI p), .int (nI l), .int (nI h)] M Q := by
  refine zX12_worded hE rfl (fun G h0 h10 => ?_)
  have st0 : zm_ent [.ref 0, .long (lN (zk_fd (zz_sd.getD i []))), .int (nI p), .int (nI l), .int (nI h)] 6 = [some (.ref 0), some (.long (lN (zk_fd (zz_sd.getD i [])))), none, some (.int (nI p)), some (.int (nI l)), some (.int (nI h))] := rfl
  rw [st0]
  have ht := hT.2.2.2
  have d1 : (decide (zk_w tp n s = i) = false) = ¬ (zk_w tp n s = i) := by simp
  refine h0 _ _ _ ?_
  simp only [bX12_worded_0, zw_0, zw_1, zs_aloadn0, zs_aloadNn0, zs_lloadn1, zi_12_184, zs_ifne, zs_iconst, zs_ireturn, zh_0, zh_1, zh_2, zh_3, zh_4, zt_i, zt_l, zt_r, zt_n, zn_int, zn_b0, zn_b1, zb_0, za_1, za_2, za_3, za_4, za_5, za_6, za_7, za_8, za_9, za_10, za_11, za_12, za_13, za_14, true_and, and_true, Nat.reduceAdd]
  refine zm_R_eq (c_isWord hE (d + 2) ht hA hi hil) ?_
  simp only [bX12_worded_0, zw_0, zw_1, zs_aloadn0, zs_aloadNn0, zs_lloadn1, zi_12_184, zs_ifne, zs_iconst, zs_ireturn, zh_0, zh_1, zh_2, zh_3, zh_4, zt_i, zt_l, zt_r, zt_n, zn_int, zn_b0, zn_b1, zb_0, za_1, za_2, za_3, za_4, za_5, za_6, za_7, za_8, za_9, za_10, za_11, za_12, za_13, za_14, true_and, and_true, Nat.reduceAdd, zi_b0, d1]
  refine ⟨fun hw => ?_, fun hw => q0 hw⟩
  have hw : zk_w tp n s = i := Classical.byContradiction hw
  obtain ⟨u1, u2⟩ := zk_w_28 ht hi hw
  have hen := zk_en_in (tp := tp) u1
  refine h10 _ _ _ ?_
  simp only [bX12_worded_10, zw_0, zw_1, zs_aloadn0, zs_aloadNn0, zi_12_165, zs_iloadn3, zs_iload4, zs_iload5, zi_12_216, zs_ireturn, zh_0, zh_1, zh_2, zh_3, zh_4, zt_i, zt_l, zt_r, zt_n, zn_int, zn_b0, zn_b1, zb_0, za_1, za_2, za_3, za_4, za_5, za_6, za_7, za_8, za_9, za_10, za_11, za_12, za_13, za_14, true_and, and_true, Nat.reduceAdd]
  refine c_nextToken hE (d + 1) hT hA.2.1 hen.2 (fun M1 a1 f1 => ?_)
  simp only [bX12_worded_10, zw_0, zw_1, zs_aloadn0, zs_aloadNn0, zi_12_165, zs_iloadn3, zs_iload4, zs_iload5, zi_12_216, zs_ireturn, zh_0, zh_1, zh_2, zh_3, zh_4, zt_i, zt_l, zt_r, zt_n, zn_int, zn_b0, zn_b1, zb_0, za_1, za_2, za_3, za_4, za_5, za_6, za_7, za_8, za_9, za_10, za_11, za_12, za_13, za_14, true_and, and_true, Nat.reduceAdd]
  refine c_figure hE d (zk_tm_f hT f1) a1 hp hl hh (fun z => ?_) (fun v hv z1 z2 => ?_) (fun v hv z1 z2 M2 a2 f2 => ?_)
  · simp only [bX12_worded_10, zw_0, zw_1, zs_aloadn0, zs_aloadNn0, zi_12_165, zs_iloadn3, zs_iload4, zs_iload5, zi_12_216, zs_ireturn, zh_0, zh_1, zh_2, zh_3, zh_4, zt_i, zt_l, zt_r, zt_n, zn_int, zn_b0, zn_b1, zb_0, za_1, za_2, za_3, za_4, za_5, za_6, za_7, za_8, za_9, za_10, za_11, za_12, za_13, za_14, true_and, and_true, Nat.reduceAdd]
    exact q1 hw M1 a1 f1 z
  · simp only [bX12_worded_10, zw_0, zw_1, zs_aloadn0, zs_aloadNn0, zi_12_165, zs_iloadn3, zs_iload4, zs_iload5, zi_12_216, zs_ireturn, zh_0, zh_1, zh_2, zh_3, zh_4, zt_i, zt_l, zt_r, zt_n, zn_int, zn_b0, zn_b1, zb_0, za_1, za_2, za_3, za_4, za_5, za_6, za_7, za_8, za_9, za_10, za_11, za_12, za_13, za_14, true_and, and_true, Nat.reduceAdd]
    exact q2 hw M1 a1 f1 v hv z1 z2
  · simp only [bX12_worded_10, zw_0, zw_1, zs_aloadn0, zs_aloadNn0, zi_12_165, zs_iloadn3, zs_iload4, zs_iload5, zi_12_216, zs_ireturn, zh_0, zh_1, zh_2, zh_3, zh_4, zt_i, zt_l, zt_r, zt_n, zn_int, zn_b0, zn_b1, zb_0, za_1, za_2, za_3, za_4, za_5, za_6, za_7, za_8, za_9, za_10, za_11, za_12, za_13, za_14, true_and, and_true, Nat.reduceAdd]
    exact q3 hw M1 a1 f1 v hv z1 z2 M2 a2 f2
