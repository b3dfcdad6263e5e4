/-! ===== the reference: coming down, merging, passing ===== -/
theorem zh_6g {a b d e : Int32} {c f : Nat} : zm_sh [.int a, .int b, .ref c, .int d, .int e, .ref f] = True := eq_true (Or.inr ⟨by simp, fun v hv => by
  simp only [List.mem_cons, List.not_mem_nil, or_false] at hv
  rcases hv with rfl | rfl | rfl | rfl | rfl | rfl <;> rfl⟩)
theorem c_finish {E : zm_E} (hE : zm_ok E.2.2.1 E.2.2.2.2) (d : Nat) {k c : Nat} {wr : Bool} (what : Int32) {M : zm_M} {S : zW} (hs : zw_sz S) (hk : k < zWn S) (hwr : M.1 0 23 = zi_b wr) (hc : M.1 0 24 = nI c) (hS : zw_m M S) {Q : Option Value → zm_M → Prop} (q : ∀ M', zw_m M' (ze_wr wr (zw_pt S 4 k 2) k what) → M'.1 0 24 = nI (c + 1) → M'.1 0 25 = M.1 0 25 → zR M M' → Q none M') : zm_R E (d + 3) mX12_finish [.ref 0, .int (nI k), .int what] M Q := by
  refine zX12_finish hE rfl (fun G h0 => ?_)
  show G 0 [some (.ref 0), some (.int (nI k)), some (.int what)] [] M
  have hk10 := hs.1
  refine h0 _ _ _ ?_
  simp only [bX12_finish_0, zw_0, zw_1, zs_aloadn0, zs_aloadNn0, zs_iloadn1, zs_iconst, zi_12_319, zs_dupi, zs_dupr, zs_dupn, zg_12_332, zs_iadd, zq_12_332, zs_iloadn2, zi_12_329, zs_return, zh_0, zh_1, zh_2, zh_3, zh_4, zt_i, zt_l, zt_r, zt_n, zn_int, zn_b0, zn_b1, zb_0, za_1, za_2, za_3, za_4, za_5, za_6, za_7, za_8, za_9, za_10, za_11, za_12, za_13, za_14, true_and, and_true, Nat.reduceAdd]
  refine c_mput hE (d + 1) (k := k) (x := 4) (by omega) (by decide) 2 hs hS (fun M1 _ S1 f1 => ?_)
  have c1 : M1.1 0 = M.1 0 := (f1.1 0 (by decide)).1
  simp only [bX12_finish_0, zw_0, zw_1, zs_aloadn0, zs_aloadNn0, zs_iloadn1, zs_iconst, zi_12_319, zs_dupi, zs_dupr, zs_dupn, zg_12_332, zs_iadd, zq_12_332, zs_iloadn2, zi_12_329, zs_return, zh_0, zh_1, zh_2, zh_3, zh_4, zt_i, zt_l, zt_r, zt_n, zn_int, zn_b0, zn_b1, zb_0, za_1, za_2, za_3, za_4, za_5, za_6, za_7, za_8, za_9, za_10, za_11, za_12, za_13, za_14, true_and, and_true, Nat.reduceAdd, c1, hc, nI_1]
  have S2 : zw_m (zm_wi M1 0 24 (nI (c + 1))) (zw_pt S 4 k 2) := zw_m_f S1 (zm_wi_other (by decide))
  have R2 : zR M (zm_wi M1 0 24 (nI (c + 1))) := zR_trans (zR_h f1) (zR_0 (Or.inl rfl))
  refine c_wrw hE d what (wr := wr) (S := zw_pt S 4 k 2) hs hk (by rw [R2.2.2 23 (by decide) (by decide)]; exact hwr) S2 (fun M3 S3 f3 => ?_)
  simp only [bX12_finish_0, zw_0, zw_1, zs_aloadn0, zs_aloadNn0, zs_iloadn1, zs_iconst, zi_12_319, zs_dupi, zs_dupr, zs_dupn, zg_12_332, zs_iadd, zq_12_332, zs_iloadn2, zi_12_329, zs_return, zh_0, zh_1, zh_2, zh_3, zh_4, zt_i, zt_l, zt_r, zt_n, zn_int, zn_b0, zn_b1, zb_0, za_1, za_2, za_3, za_4, za_5, za_6, za_7, za_8, za_9, za_10, za_11, za_12, za_13, za_14, true_and, and_true, Nat.reduceAdd]
  have c3 : M3.1 0 = (zm_wi M1 0 24 (nI (c + 1))).1 0 := (f3.1 0 (by decide)).1
  exact q M3 S3 (by rw [c3, zm_wi_same, if_pos rfl]) (by rw [c3, zm_wi_same, if_neg (by decide), c1]) (zR_trans R2 (zR_h f3))
set_option maxHeartbeats 4000000 in
theorem c_goDown {E : zm_E} (hE : zm_ok E.2.2.1 E.2.2.2.2) (d : Nat) {n k c : Nat} {wr : Bool} {b pr : Nat → Int32} {T : Nat → Option zD} {tx : Int32} {M : zm_M} {S : zW} (h9 : zm_s9 n b pr M) (htx : M.1 1 2 = tx) (hwr : M.1 0 23 = zi_b wr) (hc : M.1 0 24 = nI c) (hT : ∀ w, w ≤ 2 → zm_T M tx w (T w)) (hTo : ∀ w, w ≤ 2 → zDo w (T w)) (hi : zw_i n b S) (hk : k < zWn S) (h1' : zWa S 4 k = 1) (hS : zw_m M S) {Q : Option Value → zm_M → Prop} (q : ∀ M', zw_m M' (ze_dn wr n b pr T S k).1 → M'.1 0 24 = nI (c + (ze_dn wr n b pr T S k).2) → M'.1 0 25 = M.1 0 25 → zR M M' → Q none M') : zm_R E (d + 6) mX12_goDown [.ref 0, .int (nI k)] M Q := by
  refine zX12_goDown hE rfl (fun G h0 h74 => ?_)
  show G 0 [some (.ref 0), some (.int (nI k)), none] [] M
  have hbw : zt_wf n b := zt_wf_c h9.1 h9.2.2.1
  have hn10 := hbw.1
  have hs := hi.1
  have hk10 := hs.1
  obtain ⟨a, f, ea, ef, ba, bf, hab, eds, hdl⟩ := ze_ds_of hbw hi hk h1'
  obtain ⟨f0, t0, a0, s, hh, g0, x0, x1, x2, x3, x4, x5, bf0, bt0, ba0, bs, rest⟩ := hi.2.2.2.1 k hk
  have hab9 : zt_ab (fun i => M.1 1 (90 + i)) a f = true := by rw [zt_ab_c h9.1 h9.2.2.1 ba f bf]; exact hab
  have hdn9 : zt_dn (fun i => M.1 1 (90 + i)) a f = zt_dn b a f := zt_dn_c h9.1 h9.2.2.1 ba f bf hab9
  have gt : ∀ (x : Nat) (hx : x < 7) (M1 : zm_M) (S1 : zW), zWn S1 = zWn S → zw_m M1 S1 → zm_R E (d + 5) mX12_get [.ref 0, .int (nI k), .int (nI x)] M1 (fun r M' => r = some (.int (zWa S1 x k)) ∧ M' = M1) := by
    intro x hx M1 S1 hn hS1
    have := c_gt hE (d + 4) (k := k) (by omega) x hx M1
    rw [show zp M1 x k = zWa S1 x k from zw_m_ap hS1 hx (by omega)] at this
    exact this
  have dn : ze_dn wr n b pr T S k = if nI (zt_dn b a f) = zWa S 0 k then (ze_wr wr (zw_pt (ze_d1 n b pr T S k (zt_dn b a f)) 4 k 2) k 2, 1) else (ze_d1 n b pr T S k (zt_dn b a f), 0) := by
    unfold ze_dn; rw [eds]
  rw [dn] at q
  generalize hpp : zt_dn b a f = p at *
  have nmo := ze_nm_ok (k := k) (p := p) (pr := pr) hbw hi hk hdl h9.2.2.2.2
  refine h0 _ _ _ ?_
  simp only [bX12_goDown_0, zw_0, zw_1, zs_aloadn0, zs_aloadNn0, zs_iloadn1, zs_iconst, zi_12_304, zi_12_335, zs_istoren2, zs_iloadn2, zi_12_316, zg_12_7, zs_iaload, zs_idiv, zs_sipush, zi_12_293, zi_12_319, zs_icne, zi_12_338, zc_none, zc_int, zc_ref, zc_null, zc_long, zh_0, zh_1, zh_2, zh_3, zh_4, zt_i, zt_l, zt_r, zt_n, zb_0, za_1, za_2, za_3, za_4, za_5, za_6, za_7, za_8, za_9, za_10, za_11, za_12, za_13, za_14, zu_0, zu_1, zu_2, zu_3, zu_4, zu_5, zu_6, zu_7, zu_8, zu_9, zu_10, zu_11, zu_12, zu_13, zu_14, zu_15, zu_16, zu_17, zu_18, zu_19, zu_20, zu_21, zu_22, zu_23, zu_24, zu_25, zu_26, zu_27, zu_28, zu_29, zu_30, zu_90, zv_0_9, zv_1_9, zv_2_9, zv_3_9, zv_4_9, zv_5_9, zv_6_9, zv_7_9, zv_8_9, zv_0_330, zv_0_4544, zv_1_4544, zv_2_4544, zv_3_4544, zv_4_4544, zv_5_4544, zv_6_4544, zv_7_4544, zv_8_4544, zv_9_4544, zv_10_4544, zv_11_4544, zv_12_4544, zv_13_4544, zv_14_4544, zv_15_4544, zv_16_4544, zv_17_4544, zv_18_4544, zv_19_4544, zv_20_4544, zv_21_4544, zv_22_4544, zv_23_4544, zv_24_4544, zv_25_4544, zv_26_4544, zv_27_4544, zv_28_4544, zv_29_4544, zv_0_11, zv_1_11, zv_0_160, true_and, and_true, Nat.reduceAdd]
  refine zm_R_eq (gt 2 (by decide) M S rfl hS) ?_
  simp only [bX12_goDown_0, zw_0, zw_1, zs_aloadn0, zs_aloadNn0, zs_iloadn1, zs_iconst, zi_12_304, zi_12_335, zs_istoren2, zs_iloadn2, zi_12_316, zg_12_7, zs_iaload, zs_idiv, zs_sipush, zi_12_293, zi_12_319, zs_icne, zi_12_338, zc_none, zc_int, zc_ref, zc_null, zc_long, zh_0, zh_1, zh_2, zh_3, zh_4, zt_i, zt_l, zt_r, zt_n, zb_0, za_1, za_2, za_3, za_4, za_5, za_6, za_7, za_8, za_9, za_10, za_11, za_12, za_13, za_14, zu_0, zu_1, zu_2, zu_3, zu_4, zu_5, zu_6, zu_7, zu_8, zu_9, zu_10, zu_11, zu_12, zu_13, zu_14, zu_15, zu_16, zu_17, zu_18, zu_19, zu_20, zu_21, zu_22, zu_23, zu_24, zu_25, zu_26, zu_27, zu_28, zu_29, zu_30, zu_90, zv_0_9, zv_1_9, zv_2_9, zv_3_9, zv_4_9, zv_5_9, zv_6_9, zv_7_9, zv_8_9, zv_0_330, zv_0_4544, zv_1_4544, zv_2_4544, zv_3_4544, zv_4_4544, zv_5_4544, zv_6_4544, zv_7_4544, zv_8_4544, zv_9_4544, zv_10_4544, zv_11_4544, zv_12_4544, zv_13_4544, zv_14_4544, zv_15_4544, zv_16_4544, zv_17_4544, zv_18_4544, zv_19_4544, zv_20_4544, zv_21_4544, zv_22_4544, zv_23_4544, zv_24_4544, zv_25_4544, zv_26_4544, zv_27_4544, zv_28_4544, zv_29_4544, zv_0_11, zv_1_11, zv_0_160, true_and, and_true, Nat.reduceAdd]
  refine zm_R_eq (gt 0 (by decide) M S rfl hS) ?_
  rw [ea, ef]
  simp only [bX12_goDown_0, zw_0, zw_1, zs_aloadn0, zs_aloadNn0, zs_iloadn1, zs_iconst, zi_12_304, zi_12_335, zs_istoren2, zs_iloadn2, zi_12_316, zg_12_7, zs_iaload, zs_idiv, zs_sipush, zi_12_293, zi_12_319, zs_icne, zi_12_338, zc_none, zc_int, zc_ref, zc_null, zc_long, zh_0, zh_1, zh_2, zh_3, zh_4, zt_i, zt_l, zt_r, zt_n, zb_0, za_1, za_2, za_3, za_4, za_5, za_6, za_7, za_8, za_9, za_10, za_11, za_12, za_13, za_14, zu_0, zu_1, zu_2, zu_3, zu_4, zu_5, zu_6, zu_7, zu_8, zu_9, zu_10, zu_11, zu_12, zu_13, zu_14, zu_15, zu_16, zu_17, zu_18, zu_19, zu_20, zu_21, zu_22, zu_23, zu_24, zu_25, zu_26, zu_27, zu_28, zu_29, zu_30, zu_90, zv_0_9, zv_1_9, zv_2_9, zv_3_9, zv_4_9, zv_5_9, zv_6_9, zv_7_9, zv_8_9, zv_0_330, zv_0_4544, zv_1_4544, zv_2_4544, zv_3_4544, zv_4_4544, zv_5_4544, zv_6_4544, zv_7_4544, zv_8_4544, zv_9_4544, zv_10_4544, zv_11_4544, zv_12_4544, zv_13_4544, zv_14_4544, zv_15_4544, zv_16_4544, zv_17_4544, zv_18_4544, zv_19_4544, zv_20_4544, zv_21_4544, zv_22_4544, zv_23_4544, zv_24_4544, zv_25_4544, zv_26_4544, zv_27_4544, zv_28_4544, zv_29_4544, zv_0_11, zv_1_11, zv_0_160, true_and, and_true, Nat.reduceAdd]
  refine zm_R_eq (c_downTo hE (d + 4) h9.1 ba bf hab9) ?_
  rw [hdn9]
  simp only [bX12_goDown_0, zw_0, zw_1, zs_aloadn0, zs_aloadNn0, zs_iloadn1, zs_iconst, zi_12_304, zi_12_335, zs_istoren2, zs_iloadn2, zi_12_316, zg_12_7, zs_iaload, zs_idiv, zs_sipush, zi_12_293, zi_12_319, zs_icne, zi_12_338, zc_none, zc_int, zc_ref, zc_null, zc_long, zh_0, zh_1, zh_2, zh_3, zh_4, zt_i, zt_l, zt_r, zt_n, zb_0, za_1, za_2, za_3, za_4, za_5, za_6, za_7, za_8, za_9, za_10, za_11, za_12, za_13, za_14, zu_0, zu_1, zu_2, zu_3, zu_4, zu_5, zu_6, zu_7, zu_8, zu_9, zu_10, zu_11, zu_12, zu_13, zu_14, zu_15, zu_16, zu_17, zu_18, zu_19, zu_20, zu_21, zu_22, zu_23, zu_24, zu_25, zu_26, zu_27, zu_28, zu_29, zu_30, zu_90, zv_0_9, zv_1_9, zv_2_9, zv_3_9, zv_4_9, zv_5_9, zv_6_9, zv_7_9, zv_8_9, zv_0_330, zv_0_4544, zv_1_4544, zv_2_4544, zv_3_4544, zv_4_4544, zv_5_4544, zv_6_4544, zv_7_4544, zv_8_4544, zv_9_4544, zv_10_4544, zv_11_4544, zv_12_4544, zv_13_4544, zv_14_4544, zv_15_4544, zv_16_4544, zv_17_4544, zv_18_4544, zv_19_4544, zv_20_4544, zv_21_4544, zv_22_4544, zv_23_4544, zv_24_4544, zv_25_4544, zv_26_4544, zv_27_4544, zv_28_4544, zv_29_4544, zv_0_11, zv_1_11, zv_0_160, true_and, and_true, Nat.reduceAdd]
  refine c_nameApology hE (d + 2) h9 hs hk hdl hS (fun M1 e1 f1 => ?_)
  have R1 : zR M M1 := zR_f f1 (by simp)
  have a1 : M1.1 1 = M.1 1 := (f1 1 (by decide)).1
  have S1 : zw_m M1 S := zw_m_f hS a1
  have t1 : M1.1 1 2 = tx := by rw [a1]; exact htx
  simp only [bX12_goDown_0, zw_0, zw_1, zs_aloadn0, zs_aloadNn0, zs_iloadn1, zs_iconst, zi_12_304, zi_12_335, zs_istoren2, zs_iloadn2, zi_12_316, zg_12_7, zs_iaload, zs_idiv, zs_sipush, zi_12_293, zi_12_319, zs_icne, zi_12_338, zc_none, zc_int, zc_ref, zc_null, zc_long, zh_0, zh_1, zh_2, zh_3, zh_4, zt_i, zt_l, zt_r, zt_n, zb_0, za_1, za_2, za_3, za_4, za_5, za_6, za_7, za_8, za_9, za_10, za_11, za_12, za_13, za_14, zu_0, zu_1, zu_2, zu_3, zu_4, zu_5, zu_6, zu_7, zu_8, zu_9, zu_10, zu_11, zu_12, zu_13, zu_14, zu_15, zu_16, zu_17, zu_18, zu_19, zu_20, zu_21, zu_22, zu_23, zu_24, zu_25, zu_26, zu_27, zu_28, zu_29, zu_30, zu_90, zv_0_9, zv_1_9, zv_2_9, zv_3_9, zv_4_9, zv_5_9, zv_6_9, zv_7_9, zv_8_9, zv_0_330, zv_0_4544, zv_1_4544, zv_2_4544, zv_3_4544, zv_4_4544, zv_5_4544, zv_6_4544, zv_7_4544, zv_8_4544, zv_9_4544, zv_10_4544, zv_11_4544, zv_12_4544, zv_13_4544, zv_14_4544, zv_15_4544, zv_16_4544, zv_17_4544, zv_18_4544, zv_19_4544, zv_20_4544, zv_21_4544, zv_22_4544, zv_23_4544, zv_24_4544, zv_25_4544, zv_26_4544, zv_27_4544, zv_28_4544, zv_29_4544, zv_0_11, zv_1_11, zv_0_160, true_and, and_true, Nat.reduceAdd, t1, zh_6g]
  refine zm_R_eq (gt 3 (by decide) M1 S rfl S1) ?_
  have h91 := zm_s9_R h9 R1
  have hwo : (zWa S 3 k / 2).toInt = zq_un 2 (fun i => (M1.1 6 i).toInt) := by
    unfold zq_un
    rw [if_neg (by decide), if_neg (by decide)]
    show (zWa S 3 k / 2).toInt = (M1.1 6 1).toInt.tdiv 2
    rw [show M1.1 6 1 = zWa S 3 k from e1 1 (by decide), x3]
    have hb := zx_tdiv (l := (nI s).toInt) (r := 2) (by rw [nI_toInt (by omega)]; exact ⟨by omega, by omega⟩)
    unfold zq_ok at hb
    rw [Int32.toInt_div, show (2 : Int32).toInt = 2 from rfl, Int.bmod_eq_of_le (by omega) (by omega)]
  simp only [bX12_goDown_0, zw_0, zw_1, zs_aloadn0, zs_aloadNn0, zs_iloadn1, zs_iconst, zi_12_304, zi_12_335, zs_istoren2, zs_iloadn2, zi_12_316, zg_12_7, zs_iaload, zs_idiv, zs_sipush, zi_12_293, zi_12_319, zs_icne, zi_12_338, zc_none, zc_int, zc_ref, zc_null, zc_long, zh_0, zh_1, zh_2, zh_3, zh_4, zt_i, zt_l, zt_r, zt_n, zb_0, za_1, za_2, za_3, za_4, za_5, za_6, za_7, za_8, za_9, za_10, za_11, za_12, za_13, za_14, zu_0, zu_1, zu_2, zu_3, zu_4, zu_5, zu_6, zu_7, zu_8, zu_9, zu_10, zu_11, zu_12, zu_13, zu_14, zu_15, zu_16, zu_17, zu_18, zu_19, zu_20, zu_21, zu_22, zu_23, zu_24, zu_25, zu_26, zu_27, zu_28, zu_29, zu_30, zu_90, zv_0_9, zv_1_9, zv_2_9, zv_3_9, zv_4_9, zv_5_9, zv_6_9, zv_7_9, zv_8_9, zv_0_330, zv_0_4544, zv_1_4544, zv_2_4544, zv_3_4544, zv_4_4544, zv_5_4544, zv_6_4544, zv_7_4544, zv_8_4544, zv_9_4544, zv_10_4544, zv_11_4544, zv_12_4544, zv_13_4544, zv_14_4544, zv_15_4544, zv_16_4544, zv_17_4544, zv_18_4544, zv_19_4544, zv_20_4544, zv_21_4544, zv_22_4544, zv_23_4544, zv_24_4544, zv_25_4544, zv_26_4544, zv_27_4544, zv_28_4544, zv_29_4544, zv_0_11, zv_1_11, zv_0_160, true_and, and_true, Nat.reduceAdd]
  refine ⟨by decide, ?_⟩
  refine c_says hE (d + 1) (w := 2) (by decide) h91.1 h91.2.1 (fun i hi9 => by rw [e1 i hi9]; exact nmo i) (zm_T_R (hT 2 (by decide)) R1) hwo rfl (fun x M2 hx f2 => ?_)
  rw [zm_sy h91 (hTo 2 (by decide)) e1] at hx
  have hsy := ze_sy_in n b T 2 (ze_nm b pr S k p)
  have top2 : zq_top 2 = 9999 := rfl
  rw [top2] at hsy
  have ex : x = nI (ze_sy n b T 2 (ze_nm b pr S k p)).toNat := zx_toInt hx (by omega) (by omega)
  have R2 : zR M M2 := zR_trans R1 (zR_f f2 (by simp <;> omega))
  have S2 : zw_m M2 S := zw_m_f S1 (f2 1 (by decide)).1
  rw [ex]
  simp only [bX12_goDown_0, zw_0, zw_1, zs_aloadn0, zs_aloadNn0, zs_iloadn1, zs_iconst, zi_12_304, zi_12_335, zs_istoren2, zs_iloadn2, zi_12_316, zg_12_7, zs_iaload, zs_idiv, zs_sipush, zi_12_293, zi_12_319, zs_icne, zi_12_338, zc_none, zc_int, zc_ref, zc_null, zc_long, zh_0, zh_1, zh_2, zh_3, zh_4, zt_i, zt_l, zt_r, zt_n, zb_0, za_1, za_2, za_3, za_4, za_5, za_6, za_7, za_8, za_9, za_10, za_11, za_12, za_13, za_14, zu_0, zu_1, zu_2, zu_3, zu_4, zu_5, zu_6, zu_7, zu_8, zu_9, zu_10, zu_11, zu_12, zu_13, zu_14, zu_15, zu_16, zu_17, zu_18, zu_19, zu_20, zu_21, zu_22, zu_23, zu_24, zu_25, zu_26, zu_27, zu_28, zu_29, zu_30, zu_90, zv_0_9, zv_1_9, zv_2_9, zv_3_9, zv_4_9, zv_5_9, zv_6_9, zv_7_9, zv_8_9, zv_0_330, zv_0_4544, zv_1_4544, zv_2_4544, zv_3_4544, zv_4_4544, zv_5_4544, zv_6_4544, zv_7_4544, zv_8_4544, zv_9_4544, zv_10_4544, zv_11_4544, zv_12_4544, zv_13_4544, zv_14_4544, zv_15_4544, zv_16_4544, zv_17_4544, zv_18_4544, zv_19_4544, zv_20_4544, zv_21_4544, zv_22_4544, zv_23_4544, zv_24_4544, zv_25_4544, zv_26_4544, zv_27_4544, zv_28_4544, zv_29_4544, zv_0_11, zv_1_11, zv_0_160, true_and, and_true, Nat.reduceAdd]
  refine c_mput hE (d + 4) (k := k) (x := 3) (by omega) (by decide) _ hs S2 (fun M3 _ S3 f3 => ?_)
  simp only [bX12_goDown_0, zw_0, zw_1, zs_aloadn0, zs_aloadNn0, zs_iloadn1, zs_iconst, zi_12_304, zi_12_335, zs_istoren2, zs_iloadn2, zi_12_316, zg_12_7, zs_iaload, zs_idiv, zs_sipush, zi_12_293, zi_12_319, zs_icne, zi_12_338, zc_none, zc_int, zc_ref, zc_null, zc_long, zh_0, zh_1, zh_2, zh_3, zh_4, zt_i, zt_l, zt_r, zt_n, zb_0, za_1, za_2, za_3, za_4, za_5, za_6, za_7, za_8, za_9, za_10, za_11, za_12, za_13, za_14, zu_0, zu_1, zu_2, zu_3, zu_4, zu_5, zu_6, zu_7, zu_8, zu_9, zu_10, zu_11, zu_12, zu_13, zu_14, zu_15, zu_16, zu_17, zu_18, zu_19, zu_20, zu_21, zu_22, zu_23, zu_24, zu_25, zu_26, zu_27, zu_28, zu_29, zu_30, zu_90, zv_0_9, zv_1_9, zv_2_9, zv_3_9, zv_4_9, zv_5_9, zv_6_9, zv_7_9, zv_8_9, zv_0_330, zv_0_4544, zv_1_4544, zv_2_4544, zv_3_4544, zv_4_4544, zv_5_4544, zv_6_4544, zv_7_4544, zv_8_4544, zv_9_4544, zv_10_4544, zv_11_4544, zv_12_4544, zv_13_4544, zv_14_4544, zv_15_4544, zv_16_4544, zv_17_4544, zv_18_4544, zv_19_4544, zv_20_4544, zv_21_4544, zv_22_4544, zv_23_4544, zv_24_4544, zv_25_4544, zv_26_4544, zv_27_4544, zv_28_4544, zv_29_4544, zv_0_11, zv_1_11, zv_0_160, true_and, and_true, Nat.reduceAdd]
  refine c_mput hE (d + 4) (k := k) (x := 2) (by omega) (by decide) (nI p) (S := zw_pt S 3 k (nI (ze_sy n b T 2 (ze_nm b pr S k p)).toNat)) hs S3 (fun M4 _ S4 f4 => ?_)
  have S4 : zw_m M4 (ze_d1 n b pr T S k p) := S4
  have R4 : zR M M4 := zR_trans R2 (zR_trans (zR_h f3) (zR_h f4))
  have c24 : M4.1 0 = M.1 0 := by
    rw [(f4.1 0 (by decide)).1, (f3.1 0 (by decide)).1, (f2 0 (by decide)).1, (f1 0 (by decide)).1]
  simp only [bX12_goDown_0, zw_0, zw_1, zs_aloadn0, zs_aloadNn0, zs_iloadn1, zs_iconst, zi_12_304, zi_12_335, zs_istoren2, zs_iloadn2, zi_12_316, zg_12_7, zs_iaload, zs_idiv, zs_sipush, zi_12_293, zi_12_319, zs_icne, zi_12_338, zc_none, zc_int, zc_ref, zc_null, zc_long, zh_0, zh_1, zh_2, zh_3, zh_4, zt_i, zt_l, zt_r, zt_n, zb_0, za_1, za_2, za_3, za_4, za_5, za_6, za_7, za_8, za_9, za_10, za_11, za_12, za_13, za_14, zu_0, zu_1, zu_2, zu_3, zu_4, zu_5, zu_6, zu_7, zu_8, zu_9, zu_10, zu_11, zu_12, zu_13, zu_14, zu_15, zu_16, zu_17, zu_18, zu_19, zu_20, zu_21, zu_22, zu_23, zu_24, zu_25, zu_26, zu_27, zu_28, zu_29, zu_30, zu_90, zv_0_9, zv_1_9, zv_2_9, zv_3_9, zv_4_9, zv_5_9, zv_6_9, zv_7_9, zv_8_9, zv_0_330, zv_0_4544, zv_1_4544, zv_2_4544, zv_3_4544, zv_4_4544, zv_5_4544, zv_6_4544, zv_7_4544, zv_8_4544, zv_9_4544, zv_10_4544, zv_11_4544, zv_12_4544, zv_13_4544, zv_14_4544, zv_15_4544, zv_16_4544, zv_17_4544, zv_18_4544, zv_19_4544, zv_20_4544, zv_21_4544, zv_22_4544, zv_23_4544, zv_24_4544, zv_25_4544, zv_26_4544, zv_27_4544, zv_28_4544, zv_29_4544, zv_0_11, zv_1_11, zv_0_160, true_and, and_true, Nat.reduceAdd]
  refine zm_R_eq (gt 0 (by decide) M4 (ze_d1 n b pr T S k p) rfl S4) ?_
  rw [show zWa (ze_d1 n b pr T S k p) 0 k = zWa S 0 k from rfl]
  simp only [bX12_goDown_0, zw_0, zw_1, zs_aloadn0, zs_aloadNn0, zs_iloadn1, zs_iconst, zi_12_304, zi_12_335, zs_istoren2, zs_iloadn2, zi_12_316, zg_12_7, zs_iaload, zs_idiv, zs_sipush, zi_12_293, zi_12_319, zs_icne, zi_12_338, zc_none, zc_int, zc_ref, zc_null, zc_long, zh_0, zh_1, zh_2, zh_3, zh_4, zt_i, zt_l, zt_r, zt_n, zb_0, za_1, za_2, za_3, za_4, za_5, za_6, za_7, za_8, za_9, za_10, za_11, za_12, za_13, za_14, zu_0, zu_1, zu_2, zu_3, zu_4, zu_5, zu_6, zu_7, zu_8, zu_9, zu_10, zu_11, zu_12, zu_13, zu_14, zu_15, zu_16, zu_17, zu_18, zu_19, zu_20, zu_21, zu_22, zu_23, zu_24, zu_25, zu_26, zu_27, zu_28, zu_29, zu_30, zu_90, zv_0_9, zv_1_9, zv_2_9, zv_3_9, zv_4_9, zv_5_9, zv_6_9, zv_7_9, zv_8_9, zv_0_330, zv_0_4544, zv_1_4544, zv_2_4544, zv_3_4544, zv_4_4544, zv_5_4544, zv_6_4544, zv_7_4544, zv_8_4544, zv_9_4544, zv_10_4544, zv_11_4544, zv_12_4544, zv_13_4544, zv_14_4544, zv_15_4544, zv_16_4544, zv_17_4544, zv_18_4544, zv_19_4544, zv_20_4544, zv_21_4544, zv_22_4544, zv_23_4544, zv_24_4544, zv_25_4544, zv_26_4544, zv_27_4544, zv_28_4544, zv_29_4544, zv_0_11, zv_1_11, zv_0_160, true_and, and_true, Nat.reduceAdd]
  refine ⟨fun hne => ?_, fun heq => ?_⟩
  · rw [if_neg hne] at q
    refine h74 _ _ _ ?_
    simp only [bX12_goDown_74, zw_0, zw_1, zs_return, zn_int, zn_b0, zn_b1, zb_0, za_1, za_2, za_3, za_4, za_5, za_6, za_7, za_8, za_9, za_10, za_11, za_12, za_13, za_14, true_and, and_true, Nat.reduceAdd]
    exact q M4 S4 (by rw [c24]; exact hc) (by rw [c24]) R4
  · rw [if_pos heq] at q
    refine c_finish hE (d + 2) 2 (wr := wr) (S := ze_d1 n b pr T S k p) hs hk (by rw [c24]; exact hwr) (by rw [c24]; exact hc) S4 (fun M5 S5 g1 g2 R5 => ?_)
    simp only [bX12_goDown_0, zw_0, zw_1, zs_aloadn0, zs_aloadNn0, zs_iloadn1, zs_iconst, zi_12_304, zi_12_335, zs_istoren2, zs_iloadn2, zi_12_316, zg_12_7, zs_iaload, zs_idiv, zs_sipush, zi_12_293, zi_12_319, zs_icne, zi_12_338, zc_none, zc_int, zc_ref, zc_null, zc_long, zh_0, zh_1, zh_2, zh_3, zh_4, zt_i, zt_l, zt_r, zt_n, zb_0, za_1, za_2, za_3, za_4, za_5, za_6, za_7, za_8, za_9, za_10, za_11, za_12, za_13, za_14, zu_0, zu_1, zu_2, zu_3, zu_4, zu_5, zu_6, zu_7, zu_8, zu_9, zu_10, zu_11, zu_12, zu_13, zu_14, zu_15, zu_16, zu_17, zu_18, zu_19, zu_20, zu_21, zu_22, zu_23, zu_24, zu_25, zu_26, zu_27, zu_28, zu_29, zu_30, zu_90, zv_0_9, zv_1_9, zv_2_9, zv_3_9, zv_4_9, zv_5_9, zv_6_9, zv_7_9, zv_8_9, zv_0_330, zv_0_4544, zv_1_4544, zv_2_4544, zv_3_4544, zv_4_4544, zv_5_4544, zv_6_4544, zv_7_4544, zv_8_4544, zv_9_4544, zv_10_4544, zv_11_4544, zv_12_4544, zv_13_4544, zv_14_4544, zv_15_4544, zv_16_4544, zv_17_4544, zv_18_4544, zv_19_4544, zv_20_4544, zv_21_4544, zv_22_4544, zv_23_4544, zv_24_4544, zv_25_4544, zv_26_4544, zv_27_4544, zv_28_4544, zv_29_4544, zv_0_11, zv_1_11, zv_0_160, true_and, and_true, Nat.reduceAdd]
    refine h74 _ _ _ ?_
    simp only [bX12_goDown_74, zw_0, zw_1, zs_return, zn_int, zn_b0, zn_b1, zb_0, za_1, za_2, za_3, za_4, za_5, za_6, za_7, za_8, za_9, za_10, za_11, za_12, za_13, za_14, true_and, and_true, Nat.reduceAdd]
    exact q M5 S5 g1 (by rw [g2, c24]) (zR_trans R4 R5)
theorem c_merge {E : zm_E} (hE : zm_ok E.2.2.1 E.2.2.2.2) (d : Nat) {n k e c : Nat} {wr : Bool} {b : Nat → Int32} {M : zm_M} {S : zW} (hwr : M.1 0 23 = zi_b wr) (hc : M.1 0 24 = nI c) (hi : zw_i n b S) (hke : k < e) (he : e < zWn S) (hS : zw_m M S) {Q : Option Value → zm_M → Prop} (q : ∀ M', zw_m M' (ze_mg wr S k e) → M'.1 0 24 = nI (c + 1) → M'.1 0 25 = M.1 0 25 → zR M M' → Q none M') : zm_R E (d + 4) mX12_merge [.ref 0, .int (nI k), .int (nI e)] M Q := by
  refine zX12_merge hE rfl (fun G h0 h24 h30 => ?_)
  show G 0 [some (.ref 0), some (.int (nI k)), some (.int (nI e)), none, none] [] M
  have hs := hi.1
  have hk10 := hs.1
  obtain ⟨f, t, a, s, hh, g, e0, e1, e2, e3, e4, e5, bf, bt_, ba, bs, bh, bg, ab1, ab2, ab3⟩ := hi.2.2.2.1 k (by omega)
  obtain ⟨f', t', a', s', hh', g', e0', e1', e2', e3', e4', e5', bf', bt', ba', bs', bh', bg', ab1', ab2', ab3'⟩ := hi.2.2.2.1 e he
  have gk : zm_R E (d + 3) mX12_get [.ref 0, .int (nI k), .int 3] M (fun r M' => r = some (.int (nI s)) ∧ M' = M) := by
    have := c_gt hE (d + 2) (k := k) (by omega) 3 (by decide) M
    rw [show zp M 3 k = nI s from (zw_m_ap hS (by decide) (by omega)).trans e3] at this
    exact this
  have ge : zm_R E (d + 3) mX12_get [.ref 0, .int (nI e), .int 3] M (fun r M' => r = some (.int (nI s')) ∧ M' = M) := by
    have := c_gt hE (d + 2) (k := e) (by omega) 3 (by decide) M
    rw [show zp M 3 e = nI s' from (zw_m_ap hS (by decide) he).trans e3'] at this
    exact this
  have lt : (nI s ≤ nI s') = (s ≤ s') := propext (nI_leI (by omega) (by omega))
  have k30 : ∀ m, m = (if s' < s then s else s') → G 30 [some (.ref 0), some (.int (nI k)), some (.int (nI e)), none, none] [.int (nI m)] M := by
    intro m hm
    have hl : nI (s + s') - nI m = nI (s + s' - m) := pk_sub (by split at hm <;> omega)
    have dv : nI (s + s' - m) / 2 = nI ((s + s' - m) / 2) := pk_div (d := 2) (by split at hm <;> omega) (by decide) (by decide)
    have mv : ze_mv S k e = ((m + (s + s' - m) / 2 : Nat) : Int) := by
      have td : ∀ m : Nat, (m : Int).tdiv 2 = ((m / 2 : Nat) : Int) := fun m => rfl
      unfold ze_mv
      rw [e3, e3', nI_toInt (by omega), nI_toInt (by omega), td, td]
      by_cases c : s' < s
      · rw [if_pos c] at hm
        rw [if_pos (by omega), hm]; omega
      · rw [if_neg c] at hm
        rw [if_neg (by omega), hm]; omega
    refine h30 _ _ _ ?_
    simp only [bX12_merge_30, zw_0, zw_1, zs_istoren3, zs_aloadn0, zs_aloadNn0, zs_iloadn1, zs_iconst, zi_12_304, zs_iloadn2, zs_iadd, zs_iloadn3, zs_isub, zs_istore4, zs_iload4, zs_idiv, zs_i2l, zs_sipush, zi_12_289, zi_12_319, zi_12_338, zs_return, zc_none, zc_int, zc_ref, zc_null, zc_long, zh_0, zh_1, zh_2, zh_3, zh_4, zt_i, zt_l, zt_r, zt_n, zn_int, zn_b0, zn_b1, zb_0, za_1, za_2, za_3, za_4, za_5, za_6, za_7, za_8, za_9, za_10, za_11, za_12, za_13, za_14, true_and, and_true, Nat.reduceAdd]
    refine zm_R_eq gk ?_
    simp only [bX12_merge_30, zw_0, zw_1, zs_istoren3, zs_aloadn0, zs_aloadNn0, zs_iloadn1, zs_iconst, zi_12_304, zs_iloadn2, zs_iadd, zs_iloadn3, zs_isub, zs_istore4, zs_iload4, zs_idiv, zs_i2l, zs_sipush, zi_12_289, zi_12_319, zi_12_338, zs_return, zc_none, zc_int, zc_ref, zc_null, zc_long, zh_0, zh_1, zh_2, zh_3, zh_4, zt_i, zt_l, zt_r, zt_n, zn_int, zn_b0, zn_b1, zb_0, za_1, za_2, za_3, za_4, za_5, za_6, za_7, za_8, za_9, za_10, za_11, za_12, za_13, za_14, true_and, and_true, Nat.reduceAdd]
    refine zm_R_eq ge ?_
    simp only [bX12_merge_30, zw_0, zw_1, zs_istoren3, zs_aloadn0, zs_aloadNn0, zs_iloadn1, zs_iconst, zi_12_304, zs_iloadn2, zs_iadd, zs_iloadn3, zs_isub, zs_istore4, zs_iload4, zs_idiv, zs_i2l, zs_sipush, zi_12_289, zi_12_319, zi_12_338, zs_return, zc_none, zc_int, zc_ref, zc_null, zc_long, zh_0, zh_1, zh_2, zh_3, zh_4, zt_i, zt_l, zt_r, zt_n, zn_int, zn_b0, zn_b1, zb_0, za_1, za_2, za_3, za_4, za_5, za_6, za_7, za_8, za_9, za_10, za_11, za_12, za_13, za_14, true_and, and_true, Nat.reduceAdd, hl, dv, nI_add]
    refine ⟨by decide, ?_⟩
    refine zm_R_eq (c_cut hE (d + 2) _ 0 9999 M) ?_
    have hcut : zi_cut (nI (m + (s + s' - m) / 2)).toInt64 0 9999 = ze_mn (ze_mv S k e) := by
      rw [mv]
      exact zx_cutmn (nI_toInt (by split at hm <;> omega)) (by omega)
    rw [hcut]
    simp only [bX12_merge_30, zw_0, zw_1, zs_istoren3, zs_aloadn0, zs_aloadNn0, zs_iloadn1, zs_iconst, zi_12_304, zs_iloadn2, zs_iadd, zs_iloadn3, zs_isub, zs_istore4, zs_iload4, zs_idiv, zs_i2l, zs_sipush, zi_12_289, zi_12_319, zi_12_338, zs_return, zc_none, zc_int, zc_ref, zc_null, zc_long, zh_0, zh_1, zh_2, zh_3, zh_4, zt_i, zt_l, zt_r, zt_n, zn_int, zn_b0, zn_b1, zb_0, za_1, za_2, za_3, za_4, za_5, za_6, za_7, za_8, za_9, za_10, za_11, za_12, za_13, za_14, true_and, and_true, Nat.reduceAdd]
    refine c_mput hE (d + 2) (k := k) (x := 3) (by omega) (by decide) _ hs hS (fun M1 _ S1 f1 => ?_)
    simp only [bX12_merge_30, zw_0, zw_1, zs_istoren3, zs_aloadn0, zs_aloadNn0, zs_iloadn1, zs_iconst, zi_12_304, zs_iloadn2, zs_iadd, zs_iloadn3, zs_isub, zs_istore4, zs_iload4, zs_idiv, zs_i2l, zs_sipush, zi_12_289, zi_12_319, zi_12_338, zs_return, zc_none, zc_int, zc_ref, zc_null, zc_long, zh_0, zh_1, zh_2, zh_3, zh_4, zt_i, zt_l, zt_r, zt_n, zn_int, zn_b0, zn_b1, zb_0, za_1, za_2, za_3, za_4, za_5, za_6, za_7, za_8, za_9, za_10, za_11, za_12, za_13, za_14, true_and, and_true, Nat.reduceAdd]
    refine c_mput hE (d + 2) (k := e) (x := 3) (by omega) (by decide) 0 (S := zw_pt S 3 k (ze_mn (ze_mv S k e))) hs S1 (fun M2 _ S2 f2 => ?_)
    have c2 : M2.1 0 = M.1 0 := by rw [(f2.1 0 (by decide)).1, (f1.1 0 (by decide)).1]
    simp only [bX12_merge_30, zw_0, zw_1, zs_istoren3, zs_aloadn0, zs_aloadNn0, zs_iloadn1, zs_iconst, zi_12_304, zs_iloadn2, zs_iadd, zs_iloadn3, zs_isub, zs_istore4, zs_iload4, zs_idiv, zs_i2l, zs_sipush, zi_12_289, zi_12_319, zi_12_338, zs_return, zc_none, zc_int, zc_ref, zc_null, zc_long, zh_0, zh_1, zh_2, zh_3, zh_4, zt_i, zt_l, zt_r, zt_n, zn_int, zn_b0, zn_b1, zb_0, za_1, za_2, za_3, za_4, za_5, za_6, za_7, za_8, za_9, za_10, za_11, za_12, za_13, za_14, true_and, and_true, Nat.reduceAdd]
    refine c_finish hE d 3 (wr := wr) (S := zw_pt (zw_pt S 3 k (ze_mn (ze_mv S k e))) 3 e 0) hs he (by rw [c2]; exact hwr) (by rw [c2]; exact hc) S2 (fun M3 S3 g1 g2 R3 => ?_)
    simp only [bX12_merge_30, zw_0, zw_1, zs_istoren3, zs_aloadn0, zs_aloadNn0, zs_iloadn1, zs_iconst, zi_12_304, zs_iloadn2, zs_iadd, zs_iloadn3, zs_isub, zs_istore4, zs_iload4, zs_idiv, zs_i2l, zs_sipush, zi_12_289, zi_12_319, zi_12_338, zs_return, zc_none, zc_int, zc_ref, zc_null, zc_long, zh_0, zh_1, zh_2, zh_3, zh_4, zt_i, zt_l, zt_r, zt_n, zn_int, zn_b0, zn_b1, zb_0, za_1, za_2, za_3, za_4, za_5, za_6, za_7, za_8, za_9, za_10, za_11, za_12, za_13, za_14, true_and, and_true, Nat.reduceAdd]
    exact q M3 S3 g1 (by rw [g2, c2]) (zR_trans (zR_trans (zR_h f1) (zR_h f2)) R3)
  refine h0 _ _ _ ?_
  simp only [bX12_merge_0, zw_0, zw_1, zs_aloadn0, zs_aloadNn0, zs_iloadn1, zs_iconst, zi_12_304, zs_iloadn2, zs_icle, zs_goto, zh_0, zh_1, zh_2, zh_3, zh_4, zt_i, zt_l, zt_r, zt_n, zb_0, za_1, za_2, za_3, za_4, za_5, za_6, za_7, za_8, za_9, za_10, za_11, za_12, za_13, za_14, true_and, and_true, Nat.reduceAdd]
  refine zm_R_eq gk ?_
  simp only [bX12_merge_0, zw_0, zw_1, zs_aloadn0, zs_aloadNn0, zs_iloadn1, zs_iconst, zi_12_304, zs_iloadn2, zs_icle, zs_goto, zh_0, zh_1, zh_2, zh_3, zh_4, zt_i, zt_l, zt_r, zt_n, zb_0, za_1, za_2, za_3, za_4, za_5, za_6, za_7, za_8, za_9, za_10, za_11, za_12, za_13, za_14, true_and, and_true, Nat.reduceAdd]
  refine zm_R_eq ge ?_
  simp only [bX12_merge_0, zw_0, zw_1, zs_aloadn0, zs_aloadNn0, zs_iloadn1, zs_iconst, zi_12_304, zs_iloadn2, zs_icle, zs_goto, zh_0, zh_1, zh_2, zh_3, zh_4, zt_i, zt_l, zt_r, zt_n, zb_0, za_1, za_2, za_3, za_4, za_5, za_6, za_7, za_8, za_9, za_10, za_11, za_12, za_13, za_14, true_and, and_true, Nat.reduceAdd, lt]
  refine ⟨fun h => ?_, fun h => ?_⟩
  · refine h24 _ _ _ ?_
    simp only [bX12_merge_24, zw_0, zw_1, zs_aloadn0, zs_aloadNn0, zs_iloadn2, zs_iconst, zi_12_304, zh_0, zh_1, zh_2, zh_3, zh_4, zt_i, zt_l, zt_r, zt_n, zb_0, za_1, za_2, za_3, za_4, za_5, za_6, za_7, za_8, za_9, za_10, za_11, za_12, za_13, za_14, true_and, and_true, Nat.reduceAdd]
    refine zm_R_eq ge ?_
    simp only [bX12_merge_24, zw_0, zw_1, zs_aloadn0, zs_aloadNn0, zs_iloadn2, zs_iconst, zi_12_304, zh_0, zh_1, zh_2, zh_3, zh_4, zt_i, zt_l, zt_r, zt_n, zb_0, za_1, za_2, za_3, za_4, za_5, za_6, za_7, za_8, za_9, za_10, za_11, za_12, za_13, za_14, true_and, and_true, Nat.reduceAdd]
    exact k30 s' (by rw [if_neg (by omega)])
  · refine zm_R_eq gk ?_
    simp only [bX12_merge_0, zw_0, zw_1, zs_aloadn0, zs_aloadNn0, zs_iloadn1, zs_iconst, zi_12_304, zs_iloadn2, zs_icle, zs_goto, zh_0, zh_1, zh_2, zh_3, zh_4, zt_i, zt_l, zt_r, zt_n, zb_0, za_1, za_2, za_3, za_4, za_5, za_6, za_7, za_8, za_9, za_10, za_11, za_12, za_13, za_14, true_and, and_true, Nat.reduceAdd]
    exact k30 s (by rw [if_pos (by omega)])
set_option maxHeartbeats 4000000 in
theorem c_pass {E : zm_E} (hE : zm_ok E.2.2.1 E.2.2.2.2) (d : Nat) {n c P : Nat} {wr : Bool} {b pr : Nat → Int32} {T : Nat → Option zD} {tx : Int32} {M : zm_M} {S : zW} (h9 : zm_s9 n b pr M) (htx : M.1 1 2 = tx) (hwr : M.1 0 23 = zi_b wr) (hc : M.1 0 24 = nI c) (hP : M.1 0 25 = nI P) (hT : ∀ w, w ≤ 2 → zm_T M tx w (T w)) (hTo : ∀ w, w ≤ 2 → zDo w (T w)) (hi : zw_i n b S) (hS : zw_m M S) {Q : Option Value → zm_M → Prop} (q : ∀ M', zw_m M' (ze_ps wr n b pr T S) → M'.1 0 24 = nI (c + ze_pn wr n b pr T S) → M'.1 0 25 = nI (P ||| (ze_p1 wr n b pr T S).2.2) → zR M M' → Q none M') : zm_R E (d + 7) mX12_pass [.ref 0] M Q := by
  refine zX12_pass hE rfl (fun G h0 h2 h67 h84 h89 h95 h97 h112 h177 h183 h189 => ?_)
  show G 0 [some (.ref 0), none, none] [] M
  have hbw : zt_wf n b := zt_wf_c h9.1 h9.2.2.1
  have hn10 := hbw.1
  have hm10 := hi.1.1
  have gt : ∀ (x k : Nat) (hx : x < 7) (M1 : zm_M) (S1 : zW), k < zWn S1 → zWn S1 = zWn S → zw_m M1 S1 → zm_R E (d + 6) mX12_get [.ref 0, .int (nI k), .int (nI x)] M1 (fun r M' => r = some (.int (zWa S1 x k)) ∧ M' = M1) := by
    intro x k hx M1 S1 hk hn hS1
    have := c_gt hE (d + 5) (k := k) (by omega) x hx M1
    rw [show zp M1 x k = zWa S1 x k from zw_m_ap hS1 hx hk] at this
    exact this
  have keep : ∀ {M1 : zm_M}, zR M M1 → M1.1 0 23 = zi_b wr ∧ M1.1 1 2 = tx := fun R1 => ⟨by rw [R1.2.2 23 (by decide) (by decide)]; exact hwr, by rw [R1.2.1 2 (by unfold zh_in; omega)]; exact htx⟩
  -- merging
  have inner : ∀ (f e k c1 : Nat) (S1 : zW) (M1 : zm_M), k < e → e + f = zWn S → zWn S1 = zWn S → zw_i n b S1 → zw_m M1 S1 → M1.1 0 24 = nI c1 → zR M M1 → (∀ M2 l2, zw_m M2 (ze_l3 wr k f e S1).1 → M2.1 0 24 = nI (c1 + (ze_l3 wr k f e S1).2) → M2.1 0 25 = M1.1 0 25 → zR M M2 → G 183 [some (.ref 0), some (.int (nI k)), l2] [] M2) → G 112 [some (.ref 0), some (.int (nI k)), some (.int (nI e))] [] M1 := by
    intro f
    induction f with
    | zero =>
      intro e k c1 S1 M1 hke he hn1 hi1 hS1 hc1 R1 hq
      have s8 : M1.1 1 8 = nI (zWn S) := by rw [← hn1]; exact hS1.2.2.1
      refine h112 _ _ _ ?_
      simp only [bX12_pass_112, zw_0, zw_1, zs_iloadn2, zs_aloadn0, zs_aloadNn0, zg_12_7, zs_bipush, zs_iaload, zs_icge, zs_iloadn1, zs_iconst, zi_12_304, zs_ifne, zs_icne, zi_12_347, zh_0, zh_1, zh_2, zh_3, zh_4, zt_i, zt_l, zt_r, zt_n, zb_0, za_1, za_2, za_3, za_4, za_5, za_6, za_7, za_8, za_9, za_10, za_11, za_12, za_13, za_14, zu_0, zu_1, zu_2, zu_3, zu_4, zu_5, zu_6, zu_7, zu_8, zu_9, zu_10, zu_11, zu_12, zu_13, zu_14, zu_15, zu_16, zu_17, zu_18, zu_19, zu_20, zu_21, zu_22, zu_23, zu_24, zu_25, zu_26, zu_27, zu_28, zu_29, zu_30, zu_90, zv_0_9, zv_1_9, zv_2_9, zv_3_9, zv_4_9, zv_5_9, zv_6_9, zv_7_9, zv_8_9, zv_0_330, zv_0_4544, zv_1_4544, zv_2_4544, zv_3_4544, zv_4_4544, zv_5_4544, zv_6_4544, zv_7_4544, zv_8_4544, zv_9_4544, zv_10_4544, zv_11_4544, zv_12_4544, zv_13_4544, zv_14_4544, zv_15_4544, zv_16_4544, zv_17_4544, zv_18_4544, zv_19_4544, zv_20_4544, zv_21_4544, zv_22_4544, zv_23_4544, zv_24_4544, zv_25_4544, zv_26_4544, zv_27_4544, zv_28_4544, zv_29_4544, zv_0_11, zv_1_11, zv_0_160, true_and, and_true, Nat.reduceAdd, s8]
      exact ⟨fun _ => hq M1 _ hS1 hc1 rfl R1, fun h => absurd (nI_le (by omega) (by omega)) h⟩
    | succ f ih =>
      intro e k c1 S1 M1 hke he hn1 hi1 hS1 hc1 R1 hq
      have s8 : M1.1 1 8 = nI (zWn S) := by rw [← hn1]; exact hS1.2.2.1
      have g := fun x k hx hk => gt x k hx M1 S1 hk hn1 hS1
      have no : ze_mc S1 k e = false → G 177 [some (.ref 0), some (.int (nI k)), some (.int (nI e))] [] M1 := by
        intro hno
        simp only [ze_l3, hno] at hq
        refine h177 _ _ _ ?_
        simp only [bX12_pass_177, zw_0, zw_1, zs_iinc2, zs_goto, zc_none, zc_int, zc_ref, zc_null, zc_long, zb_0, za_1, za_2, za_3, za_4, za_5, za_6, za_7, za_8, za_9, za_10, za_11, za_12, za_13, za_14, true_and, and_true, Nat.reduceAdd, nI_1]
        exact ih (e + 1) k c1 S1 M1 (by omega) (by omega) hn1 hi1 hS1 hc1 R1 hq
      refine h112 _ _ _ ?_
      simp only [bX12_pass_112, zw_0, zw_1, zs_iloadn2, zs_aloadn0, zs_aloadNn0, zg_12_7, zs_bipush, zs_iaload, zs_icge, zs_iloadn1, zs_iconst, zi_12_304, zs_ifne, zs_icne, zi_12_347, zh_0, zh_1, zh_2, zh_3, zh_4, zt_i, zt_l, zt_r, zt_n, zb_0, za_1, za_2, za_3, za_4, za_5, za_6, za_7, za_8, za_9, za_10, za_11, za_12, za_13, za_14, zu_0, zu_1, zu_2, zu_3, zu_4, zu_5, zu_6, zu_7, zu_8, zu_9, zu_10, zu_11, zu_12, zu_13, zu_14, zu_15, zu_16, zu_17, zu_18, zu_19, zu_20, zu_21, zu_22, zu_23, zu_24, zu_25, zu_26, zu_27, zu_28, zu_29, zu_30, zu_90, zv_0_9, zv_1_9, zv_2_9, zv_3_9, zv_4_9, zv_5_9, zv_6_9, zv_7_9, zv_8_9, zv_0_330, zv_0_4544, zv_1_4544, zv_2_4544, zv_3_4544, zv_4_4544, zv_5_4544, zv_6_4544, zv_7_4544, zv_8_4544, zv_9_4544, zv_10_4544, zv_11_4544, zv_12_4544, zv_13_4544, zv_14_4544, zv_15_4544, zv_16_4544, zv_17_4544, zv_18_4544, zv_19_4544, zv_20_4544, zv_21_4544, zv_22_4544, zv_23_4544, zv_24_4544, zv_25_4544, zv_26_4544, zv_27_4544, zv_28_4544, zv_29_4544, zv_0_11, zv_1_11, zv_0_160, true_and, and_true, Nat.reduceAdd, s8]
      refine ⟨fun h => absurd h (nI_ge (by omega) (by omega)), fun _ => ?_⟩
      refine zm_R_eq (g 4 k (by decide) (by omega)) ?_
      simp only [bX12_pass_112, zw_0, zw_1, zs_iloadn2, zs_aloadn0, zs_aloadNn0, zg_12_7, zs_bipush, zs_iaload, zs_icge, zs_iloadn1, zs_iconst, zi_12_304, zs_ifne, zs_icne, zi_12_347, zh_0, zh_1, zh_2, zh_3, zh_4, zt_i, zt_l, zt_r, zt_n, zb_0, za_1, za_2, za_3, za_4, za_5, za_6, za_7, za_8, za_9, za_10, za_11, za_12, za_13, za_14, zu_0, zu_1, zu_2, zu_3, zu_4, zu_5, zu_6, zu_7, zu_8, zu_9, zu_10, zu_11, zu_12, zu_13, zu_14, zu_15, zu_16, zu_17, zu_18, zu_19, zu_20, zu_21, zu_22, zu_23, zu_24, zu_25, zu_26, zu_27, zu_28, zu_29, zu_30, zu_90, zv_0_9, zv_1_9, zv_2_9, zv_3_9, zv_4_9, zv_5_9, zv_6_9, zv_7_9, zv_8_9, zv_0_330, zv_0_4544, zv_1_4544, zv_2_4544, zv_3_4544, zv_4_4544, zv_5_4544, zv_6_4544, zv_7_4544, zv_8_4544, zv_9_4544, zv_10_4544, zv_11_4544, zv_12_4544, zv_13_4544, zv_14_4544, zv_15_4544, zv_16_4544, zv_17_4544, zv_18_4544, zv_19_4544, zv_20_4544, zv_21_4544, zv_22_4544, zv_23_4544, zv_24_4544, zv_25_4544, zv_26_4544, zv_27_4544, zv_28_4544, zv_29_4544, zv_0_11, zv_1_11, zv_0_160, true_and, and_true, Nat.reduceAdd]
      refine ⟨fun h => no (by unfold ze_mc; simp [h]), fun a1 => ?_⟩
      refine zm_R_eq (g 4 e (by decide) (by omega)) ?_
      simp only [bX12_pass_112, zw_0, zw_1, zs_iloadn2, zs_aloadn0, zs_aloadNn0, zg_12_7, zs_bipush, zs_iaload, zs_icge, zs_iloadn1, zs_iconst, zi_12_304, zs_ifne, zs_icne, zi_12_347, zh_0, zh_1, zh_2, zh_3, zh_4, zt_i, zt_l, zt_r, zt_n, zb_0, za_1, za_2, za_3, za_4, za_5, za_6, za_7, za_8, za_9, za_10, za_11, za_12, za_13, za_14, zu_0, zu_1, zu_2, zu_3, zu_4, zu_5, zu_6, zu_7, zu_8, zu_9, zu_10, zu_11, zu_12, zu_13, zu_14, zu_15, zu_16, zu_17, zu_18, zu_19, zu_20, zu_21, zu_22, zu_23, zu_24, zu_25, zu_26, zu_27, zu_28, zu_29, zu_30, zu_90, zv_0_9, zv_1_9, zv_2_9, zv_3_9, zv_4_9, zv_5_9, zv_6_9, zv_7_9, zv_8_9, zv_0_330, zv_0_4544, zv_1_4544, zv_2_4544, zv_3_4544, zv_4_4544, zv_5_4544, zv_6_4544, zv_7_4544, zv_8_4544, zv_9_4544, zv_10_4544, zv_11_4544, zv_12_4544, zv_13_4544, zv_14_4544, zv_15_4544, zv_16_4544, zv_17_4544, zv_18_4544, zv_19_4544, zv_20_4544, zv_21_4544, zv_22_4544, zv_23_4544, zv_24_4544, zv_25_4544, zv_26_4544, zv_27_4544, zv_28_4544, zv_29_4544, zv_0_11, zv_1_11, zv_0_160, true_and, and_true, Nat.reduceAdd]
      refine ⟨fun h => no (by unfold ze_mc; simp [h]), fun a2 => ?_⟩
      refine zm_R_eq (g 1 k (by decide) (by omega)) ?_
      simp only [bX12_pass_112, zw_0, zw_1, zs_iloadn2, zs_aloadn0, zs_aloadNn0, zg_12_7, zs_bipush, zs_iaload, zs_icge, zs_iloadn1, zs_iconst, zi_12_304, zs_ifne, zs_icne, zi_12_347, zh_0, zh_1, zh_2, zh_3, zh_4, zt_i, zt_l, zt_r, zt_n, zb_0, za_1, za_2, za_3, za_4, za_5, za_6, za_7, za_8, za_9, za_10, za_11, za_12, za_13, za_14, zu_0, zu_1, zu_2, zu_3, zu_4, zu_5, zu_6, zu_7, zu_8, zu_9, zu_10, zu_11, zu_12, zu_13, zu_14, zu_15, zu_16, zu_17, zu_18, zu_19, zu_20, zu_21, zu_22, zu_23, zu_24, zu_25, zu_26, zu_27, zu_28, zu_29, zu_30, zu_90, zv_0_9, zv_1_9, zv_2_9, zv_3_9, zv_4_9, zv_5_9, zv_6_9, zv_7_9, zv_8_9, zv_0_330, zv_0_4544, zv_1_4544, zv_2_4544, zv_3_4544, zv_4_4544, zv_5_4544, zv_6_4544, zv_7_4544, zv_8_4544, zv_9_4544, zv_10_4544, zv_11_4544, zv_12_4544, zv_13_4544, zv_14_4544, zv_15_4544, zv_16_4544, zv_17_4544, zv_18_4544, zv_19_4544, zv_20_4544, zv_21_4544, zv_22_4544, zv_23_4544, zv_24_4544, zv_25_4544, zv_26_4544, zv_27_4544, zv_28_4544, zv_29_4544, zv_0_11, zv_1_11, zv_0_160, true_and, and_true, Nat.reduceAdd]
      refine zm_R_eq (g 1 e (by decide) (by omega)) ?_
      simp only [bX12_pass_112, zw_0, zw_1, zs_iloadn2, zs_aloadn0, zs_aloadNn0, zg_12_7, zs_bipush, zs_iaload, zs_icge, zs_iloadn1, zs_iconst, zi_12_304, zs_ifne, zs_icne, zi_12_347, zh_0, zh_1, zh_2, zh_3, zh_4, zt_i, zt_l, zt_r, zt_n, zb_0, za_1, za_2, za_3, za_4, za_5, za_6, za_7, za_8, za_9, za_10, za_11, za_12, za_13, za_14, zu_0, zu_1, zu_2, zu_3, zu_4, zu_5, zu_6, zu_7, zu_8, zu_9, zu_10, zu_11, zu_12, zu_13, zu_14, zu_15, zu_16, zu_17, zu_18, zu_19, zu_20, zu_21, zu_22, zu_23, zu_24, zu_25, zu_26, zu_27, zu_28, zu_29, zu_30, zu_90, zv_0_9, zv_1_9, zv_2_9, zv_3_9, zv_4_9, zv_5_9, zv_6_9, zv_7_9, zv_8_9, zv_0_330, zv_0_4544, zv_1_4544, zv_2_4544, zv_3_4544, zv_4_4544, zv_5_4544, zv_6_4544, zv_7_4544, zv_8_4544, zv_9_4544, zv_10_4544, zv_11_4544, zv_12_4544, zv_13_4544, zv_14_4544, zv_15_4544, zv_16_4544, zv_17_4544, zv_18_4544, zv_19_4544, zv_20_4544, zv_21_4544, zv_22_4544, zv_23_4544, zv_24_4544, zv_25_4544, zv_26_4544, zv_27_4544, zv_28_4544, zv_29_4544, zv_0_11, zv_1_11, zv_0_160, true_and, and_true, Nat.reduceAdd]
      refine ⟨fun h => no (by unfold ze_mc; simp [h]), fun a3 => ?_⟩
      refine zm_R_eq (g 2 k (by decide) (by omega)) ?_
      simp only [bX12_pass_112, zw_0, zw_1, zs_iloadn2, zs_aloadn0, zs_aloadNn0, zg_12_7, zs_bipush, zs_iaload, zs_icge, zs_iloadn1, zs_iconst, zi_12_304, zs_ifne, zs_icne, zi_12_347, zh_0, zh_1, zh_2, zh_3, zh_4, zt_i, zt_l, zt_r, zt_n, zb_0, za_1, za_2, za_3, za_4, za_5, za_6, za_7, za_8, za_9, za_10, za_11, za_12, za_13, za_14, zu_0, zu_1, zu_2, zu_3, zu_4, zu_5, zu_6, zu_7, zu_8, zu_9, zu_10, zu_11, zu_12, zu_13, zu_14, zu_15, zu_16, zu_17, zu_18, zu_19, zu_20, zu_21, zu_22, zu_23, zu_24, zu_25, zu_26, zu_27, zu_28, zu_29, zu_30, zu_90, zv_0_9, zv_1_9, zv_2_9, zv_3_9, zv_4_9, zv_5_9, zv_6_9, zv_7_9, zv_8_9, zv_0_330, zv_0_4544, zv_1_4544, zv_2_4544, zv_3_4544, zv_4_4544, zv_5_4544, zv_6_4544, zv_7_4544, zv_8_4544, zv_9_4544, zv_10_4544, zv_11_4544, zv_12_4544, zv_13_4544, zv_14_4544, zv_15_4544, zv_16_4544, zv_17_4544, zv_18_4544, zv_19_4544, zv_20_4544, zv_21_4544, zv_22_4544, zv_23_4544, zv_24_4544, zv_25_4544, zv_26_4544, zv_27_4544, zv_28_4544, zv_29_4544, zv_0_11, zv_1_11, zv_0_160, true_and, and_true, Nat.reduceAdd]
      refine zm_R_eq (g 2 e (by decide) (by omega)) ?_
      simp only [bX12_pass_112, zw_0, zw_1, zs_iloadn2, zs_aloadn0, zs_aloadNn0, zg_12_7, zs_bipush, zs_iaload, zs_icge, zs_iloadn1, zs_iconst, zi_12_304, zs_ifne, zs_icne, zi_12_347, zh_0, zh_1, zh_2, zh_3, zh_4, zt_i, zt_l, zt_r, zt_n, zb_0, za_1, za_2, za_3, za_4, za_5, za_6, za_7, za_8, za_9, za_10, za_11, za_12, za_13, za_14, zu_0, zu_1, zu_2, zu_3, zu_4, zu_5, zu_6, zu_7, zu_8, zu_9, zu_10, zu_11, zu_12, zu_13, zu_14, zu_15, zu_16, zu_17, zu_18, zu_19, zu_20, zu_21, zu_22, zu_23, zu_24, zu_25, zu_26, zu_27, zu_28, zu_29, zu_30, zu_90, zv_0_9, zv_1_9, zv_2_9, zv_3_9, zv_4_9, zv_5_9, zv_6_9, zv_7_9, zv_8_9, zv_0_330, zv_0_4544, zv_1_4544, zv_2_4544, zv_3_4544, zv_4_4544, zv_5_4544, zv_6_4544, zv_7_4544, zv_8_4544, zv_9_4544, zv_10_4544, zv_11_4544, zv_12_4544, zv_13_4544, zv_14_4544, zv_15_4544, zv_16_4544, zv_17_4544, zv_18_4544, zv_19_4544, zv_20_4544, zv_21_4544, zv_22_4544, zv_23_4544, zv_24_4544, zv_25_4544, zv_26_4544, zv_27_4544, zv_28_4544, zv_29_4544, zv_0_11, zv_1_11, zv_0_160, true_and, and_true, Nat.reduceAdd]
      refine ⟨fun h => no (by unfold ze_mc; simp [h]), fun a4 => ?_⟩
      have yes : ze_mc S1 k e = true := by unfold ze_mc; simp [a1, a2, a3, a4]
      simp only [ze_l3, yes, if_true] at hq
      obtain ⟨g1, g2⟩ := ze_mg_i (wr := wr) hi1 hke (by omega)
      refine c_merge hE (d + 2) (keep R1).1 hc1 hi1 hke (by omega) hS1 (fun M2 S2 b1 b2 R2 => ?_)
      simp only [bX12_pass_112, zw_0, zw_1, zs_iloadn2, zs_aloadn0, zs_aloadNn0, zg_12_7, zs_bipush, zs_iaload, zs_icge, zs_iloadn1, zs_iconst, zi_12_304, zs_ifne, zs_icne, zi_12_347, zh_0, zh_1, zh_2, zh_3, zh_4, zt_i, zt_l, zt_r, zt_n, zb_0, za_1, za_2, za_3, za_4, za_5, za_6, za_7, za_8, za_9, za_10, za_11, za_12, za_13, za_14, zu_0, zu_1, zu_2, zu_3, zu_4, zu_5, zu_6, zu_7, zu_8, zu_9, zu_10, zu_11, zu_12, zu_13, zu_14, zu_15, zu_16, zu_17, zu_18, zu_19, zu_20, zu_21, zu_22, zu_23, zu_24, zu_25, zu_26, zu_27, zu_28, zu_29, zu_30, zu_90, zv_0_9, zv_1_9, zv_2_9, zv_3_9, zv_4_9, zv_5_9, zv_6_9, zv_7_9, zv_8_9, zv_0_330, zv_0_4544, zv_1_4544, zv_2_4544, zv_3_4544, zv_4_4544, zv_5_4544, zv_6_4544, zv_7_4544, zv_8_4544, zv_9_4544, zv_10_4544, zv_11_4544, zv_12_4544, zv_13_4544, zv_14_4544, zv_15_4544, zv_16_4544, zv_17_4544, zv_18_4544, zv_19_4544, zv_20_4544, zv_21_4544, zv_22_4544, zv_23_4544, zv_24_4544, zv_25_4544, zv_26_4544, zv_27_4544, zv_28_4544, zv_29_4544, zv_0_11, zv_1_11, zv_0_160, true_and, and_true, Nat.reduceAdd]
      refine h177 _ _ _ ?_
      simp only [bX12_pass_177, zw_0, zw_1, zs_iinc2, zs_goto, zc_none, zc_int, zc_ref, zc_null, zc_long, zb_0, za_1, za_2, za_3, za_4, za_5, za_6, za_7, za_8, za_9, za_10, za_11, za_12, za_13, za_14, true_and, and_true, Nat.reduceAdd, nI_1]
      refine ih (e + 1) k (c1 + 1) _ M2 (by omega) (by omega) (g2.trans hn1) g1 S2 b1 (zR_trans R1 R2) (fun M3 l2 S3 b3 b4 R3 => ?_)
      refine hq M3 l2 S3 ?_ (b4.trans b2) R3
      rw [b3, Nat.add_assoc]
  have outer : ∀ (f k c1 : Nat) (S1 : zW) (M1 : zm_M) (l2 : Option Value), k + f = zWn S → zWn S1 = zWn S → zw_i n b S1 → zw_m M1 S1 → M1.1 0 24 = nI c1 → zR M M1 → (∀ M2, zw_m M2 (ze_dy (ze_l2 wr (zWn S) f k S1).1) → M2.1 0 24 = nI (c1 + (ze_l2 wr (zWn S) f k S1).2) → M2.1 0 25 = M1.1 0 25 → zR M M2 → Q none M2) → G 97 [some (.ref 0), some (.int (nI k)), l2] [] M1 := by
    intro f
    induction f with
    | zero =>
      intro k c1 S1 M1 l2 hk hn1 hi1 hS1 hc1 R1 hq
      have s8 : M1.1 1 8 = nI (zWn S) := by rw [← hn1]; exact hS1.2.2.1
      have s6 : M1.1 1 6 = zWd S1 := hS1.1
      refine h97 _ _ _ ?_
      simp only [bX12_pass_97, zw_0, zw_1, zs_iloadn1, zs_aloadn0, zs_aloadNn0, zg_12_7, zs_bipush, zs_iaload, zs_icge, zs_iconst, zs_iadd, zs_istoren2, zc_none, zc_int, zc_ref, zc_null, zc_long, zb_0, za_1, za_2, za_3, za_4, za_5, za_6, za_7, za_8, za_9, za_10, za_11, za_12, za_13, za_14, zu_0, zu_1, zu_2, zu_3, zu_4, zu_5, zu_6, zu_7, zu_8, zu_9, zu_10, zu_11, zu_12, zu_13, zu_14, zu_15, zu_16, zu_17, zu_18, zu_19, zu_20, zu_21, zu_22, zu_23, zu_24, zu_25, zu_26, zu_27, zu_28, zu_29, zu_30, zu_90, zv_0_9, zv_1_9, zv_2_9, zv_3_9, zv_4_9, zv_5_9, zv_6_9, zv_7_9, zv_8_9, zv_0_330, zv_0_4544, zv_1_4544, zv_2_4544, zv_3_4544, zv_4_4544, zv_5_4544, zv_6_4544, zv_7_4544, zv_8_4544, zv_9_4544, zv_10_4544, zv_11_4544, zv_12_4544, zv_13_4544, zv_14_4544, zv_15_4544, zv_16_4544, zv_17_4544, zv_18_4544, zv_19_4544, zv_20_4544, zv_21_4544, zv_22_4544, zv_23_4544, zv_24_4544, zv_25_4544, zv_26_4544, zv_27_4544, zv_28_4544, zv_29_4544, zv_0_11, zv_1_11, zv_0_160, true_and, and_true, Nat.reduceAdd, s8]
      refine ⟨fun _ => ?_, fun h => absurd (nI_le (by omega) (by omega)) h⟩
      refine h189 _ _ _ ?_
      simp only [bX12_pass_189, zw_0, zw_1, zs_aloadn0, zs_aloadNn0, zg_12_7, zs_bipush, zs_dup2, zs_iaload, zs_iconst, zs_iadd, zs_iastore, zs_return, zn_int, zn_b0, zn_b1, zb_0, za_1, za_2, za_3, za_4, za_5, za_6, za_7, za_8, za_9, za_10, za_11, za_12, za_13, za_14, zu_0, zu_1, zu_2, zu_3, zu_4, zu_5, zu_6, zu_7, zu_8, zu_9, zu_10, zu_11, zu_12, zu_13, zu_14, zu_15, zu_16, zu_17, zu_18, zu_19, zu_20, zu_21, zu_22, zu_23, zu_24, zu_25, zu_26, zu_27, zu_28, zu_29, zu_30, zu_90, zv_0_9, zv_1_9, zv_2_9, zv_3_9, zv_4_9, zv_5_9, zv_6_9, zv_7_9, zv_8_9, zv_0_330, zv_0_4544, zv_1_4544, zv_2_4544, zv_3_4544, zv_4_4544, zv_5_4544, zv_6_4544, zv_7_4544, zv_8_4544, zv_9_4544, zv_10_4544, zv_11_4544, zv_12_4544, zv_13_4544, zv_14_4544, zv_15_4544, zv_16_4544, zv_17_4544, zv_18_4544, zv_19_4544, zv_20_4544, zv_21_4544, zv_22_4544, zv_23_4544, zv_24_4544, zv_25_4544, zv_26_4544, zv_27_4544, zv_28_4544, zv_29_4544, zv_0_11, zv_1_11, zv_0_160, true_and, and_true, Nat.reduceAdd, s6]
      have ne : ∀ j, j ≠ 6 → (zm_wi M1 1 6 (zWd S1 + 1)).1 1 j = M1.1 1 j := fun j hj => by rw [zm_wi_same, if_neg hj]
      have hh : zh [] M1 (zm_wi M1 1 6 (zWd S1 + 1)) := zh_wi zh_refl (Or.inl (by omega))
      obtain ⟨w1, w2, w3, w4, w5, w6, w7⟩ := hS1
      refine hq _ ⟨?_, (ne _ (by omega)).trans w2, (ne _ (by omega)).trans w3, (ne _ (by omega)).trans w4, fun p hp => (ne _ (by omega)).trans (w5 p hp), fun x j hx hj => (ne _ (by omega)).trans (w6 x j hx hj), fun i hi => ⟨(ne _ (by omega)).trans (w7 i hi).1, (ne _ (by omega)).trans (w7 i hi).2⟩⟩ (by rw [zm_wi_other (by decide)]; exact hc1) (by rw [zm_wi_other (by decide)]) (zR_trans R1 (zR_h hh))
      show (zm_wi M1 1 6 (zWd S1 + 1)).1 1 6 = zWd S1 + 1
      rw [zm_wi_same, if_pos rfl]
    | succ f ih =>
      intro k c1 S1 M1 l2 hk hn1 hi1 hS1 hc1 R1 hq
      have s8 : M1.1 1 8 = nI (zWn S) := by rw [← hn1]; exact hS1.2.2.1
      refine h97 _ _ _ ?_
      simp only [bX12_pass_97, zw_0, zw_1, zs_iloadn1, zs_aloadn0, zs_aloadNn0, zg_12_7, zs_bipush, zs_iaload, zs_icge, zs_iconst, zs_iadd, zs_istoren2, zc_none, zc_int, zc_ref, zc_null, zc_long, zb_0, za_1, za_2, za_3, za_4, za_5, za_6, za_7, za_8, za_9, za_10, za_11, za_12, za_13, za_14, zu_0, zu_1, zu_2, zu_3, zu_4, zu_5, zu_6, zu_7, zu_8, zu_9, zu_10, zu_11, zu_12, zu_13, zu_14, zu_15, zu_16, zu_17, zu_18, zu_19, zu_20, zu_21, zu_22, zu_23, zu_24, zu_25, zu_26, zu_27, zu_28, zu_29, zu_30, zu_90, zv_0_9, zv_1_9, zv_2_9, zv_3_9, zv_4_9, zv_5_9, zv_6_9, zv_7_9, zv_8_9, zv_0_330, zv_0_4544, zv_1_4544, zv_2_4544, zv_3_4544, zv_4_4544, zv_5_4544, zv_6_4544, zv_7_4544, zv_8_4544, zv_9_4544, zv_10_4544, zv_11_4544, zv_12_4544, zv_13_4544, zv_14_4544, zv_15_4544, zv_16_4544, zv_17_4544, zv_18_4544, zv_19_4544, zv_20_4544, zv_21_4544, zv_22_4544, zv_23_4544, zv_24_4544, zv_25_4544, zv_26_4544, zv_27_4544, zv_28_4544, zv_29_4544, zv_0_11, zv_1_11, zv_0_160, true_and, and_true, Nat.reduceAdd, s8, nI_1]
      refine ⟨fun h => absurd h (nI_ge (by omega) (by omega)), fun _ => ?_⟩
      refine inner (zWn S - (k + 1)) (k + 1) k c1 S1 M1 (by omega) (by omega) hn1 hi1 hS1 hc1 R1 (fun M2 l2 S2 b1 b2 R2 => ?_)
      obtain ⟨g1, g2⟩ := ze_l3_i (wr := wr) (k := k) (zWn S - (k + 1)) (k + 1) S1 hi1 (by omega) (by omega)
      refine h183 _ _ _ ?_
      simp only [bX12_pass_183, zw_0, zw_1, zs_iinc1, zs_goto, zc_none, zc_int, zc_ref, zc_null, zc_long, zb_0, za_1, za_2, za_3, za_4, za_5, za_6, za_7, za_8, za_9, za_10, za_11, za_12, za_13, za_14, true_and, and_true, Nat.reduceAdd, nI_1]
      refine ih (k + 1) _ _ M2 _ (by omega) (g2.trans hn1) g1 S2 b1 R2 (fun M3 S3 b3 b4 R3 => ?_)
      refine hq M3 S3 ?_ (b4.trans b2) R3
      rw [b3, Nat.add_assoc]; rfl
  have first : ∀ (f k c1 P1 : Nat) (S1 : zW) (M1 : zm_M), k + f = zWn S → zWn S1 = zWn S → zw_i n b S1 → zw_m M1 S1 → M1.1 0 24 = nI c1 → M1.1 0 25 = nI P1 → zR M M1 → (ze_l1 wr n b pr T f k S1).1 = (ze_p1 wr n b pr T S).1 → c1 + (ze_l1 wr n b pr T f k S1).2.1 = c + (ze_p1 wr n b pr T S).2.1 → P1 ||| (ze_l1 wr n b pr T f k S1).2.2 = P ||| (ze_p1 wr n b pr T S).2.2 → G 2 [some (.ref 0), some (.int (nI k)), none] [] M1 := by
    intro f
    induction f with
    | zero =>
      intro k c1 P1 S1 M1 hk hn1 hi1 hS1 hc1 hP1 R1 e1 e2 e3
      have s8 : M1.1 1 8 = nI (zWn S) := by rw [← hn1]; exact hS1.2.2.1
      refine h2 _ _ _ ?_
      simp only [bX12_pass_2, zw_0, zw_1, zs_iloadn1, zs_aloadn0, zs_aloadNn0, zg_12_7, zs_bipush, zs_iaload, zs_icge, zs_iconst, zi_12_304, zs_iceq, zs_iclt, zs_iadd, zs_goto, zh_0, zh_1, zh_2, zh_3, zh_4, zt_i, zt_l, zt_r, zt_n, zb_0, za_1, za_2, za_3, za_4, za_5, za_6, za_7, za_8, za_9, za_10, za_11, za_12, za_13, za_14, zu_0, zu_1, zu_2, zu_3, zu_4, zu_5, zu_6, zu_7, zu_8, zu_9, zu_10, zu_11, zu_12, zu_13, zu_14, zu_15, zu_16, zu_17, zu_18, zu_19, zu_20, zu_21, zu_22, zu_23, zu_24, zu_25, zu_26, zu_27, zu_28, zu_29, zu_30, zu_90, zv_0_9, zv_1_9, zv_2_9, zv_3_9, zv_4_9, zv_5_9, zv_6_9, zv_7_9, zv_8_9, zv_0_330, zv_0_4544, zv_1_4544, zv_2_4544, zv_3_4544, zv_4_4544, zv_5_4544, zv_6_4544, zv_7_4544, zv_8_4544, zv_9_4544, zv_10_4544, zv_11_4544, zv_12_4544, zv_13_4544, zv_14_4544, zv_15_4544, zv_16_4544, zv_17_4544, zv_18_4544, zv_19_4544, zv_20_4544, zv_21_4544, zv_22_4544, zv_23_4544, zv_24_4544, zv_25_4544, zv_26_4544, zv_27_4544, zv_28_4544, zv_29_4544, zv_0_11, zv_1_11, zv_0_160, true_and, and_true, Nat.reduceAdd, s8]
      refine ⟨fun _ => ?_, fun h => absurd (nI_le (by omega) (by omega)) h⟩
      refine h95 _ _ _ ?_
      simp only [bX12_pass_95, zw_0, zw_1, zs_iconst, zs_istoren1, zc_none, zc_int, zc_ref, zc_null, zc_long, zb_0, za_1, za_2, za_3, za_4, za_5, za_6, za_7, za_8, za_9, za_10, za_11, za_12, za_13, za_14, true_and, and_true, Nat.reduceAdd]
      have e1 : S1 = (ze_p1 wr n b pr T S).1 := e1
      have e2 : c1 = c + (ze_p1 wr n b pr T S).2.1 := e2
      have e3 : P1 = P ||| (ze_p1 wr n b pr T S).2.2 := by rw [← e3]; exact (Nat.or_zero P1).symm
      refine outer (zWn S) 0 c1 S1 M1 none (by omega) hn1 hi1 hS1 hc1 R1 (fun M2 S2 b1 b2 R2 => ?_)
      rw [e1] at S2 b1
      refine q M2 S2 ?_ (by rw [b2, hP1, e3]) R2
      rw [b1, e2]
      unfold ze_pn
      rw [Nat.add_assoc]; rfl
    | succ f ih =>
      intro k c1 P1 S1 M1 hk hn1 hi1 hS1 hc1 hP1 R1 e1 e2 e3
      have s8 : M1.1 1 8 = nI (zWn S) := by rw [← hn1]; exact hS1.2.2.1
      have s6 : M1.1 1 6 = zWd S1 := hS1.1
      have hk1 : k < zWn S1 := by omega
      have g := fun x hx => gt x k hx M1 S1 hk1 hn1 hS1
      have h91 := zm_s9_R h9 R1
      obtain ⟨g1, g2⟩ := ze_st_i (wr := wr) (pr := pr) (T := T) hbw hi1 hk1
      obtain ⟨f', t', a', s', hh', g', x0, x1, x2, x3, x4, x5, bf, bt_, ba, rest⟩ := hi1.2.2.2.1 k hk1
      simp only [ze_l1] at e1 e2 e3
      have go : ∀ (M2 : zm_M) (c2 P2 : Nat), c2 = c1 + (ze_st wr n b pr T S1 k).2.1 → P2 = P1 ||| (if (ze_st wr n b pr T S1 k).2.2 then 2 ^ k else 0) → zw_m M2 (ze_st wr n b pr T S1 k).1 → M2.1 0 24 = nI c2 → M2.1 0 25 = nI P2 → zR M M2 → G 89 [some (.ref 0), some (.int (nI k)), none] [] M2 := by
        intro M2 c2 P2 hc2 hP2 S2 b1 b2 R2
        refine h89 _ _ _ ?_
        simp only [bX12_pass_89, zw_0, zw_1, zs_iinc1, zs_goto, zc_none, zc_int, zc_ref, zc_null, zc_long, zb_0, za_1, za_2, za_3, za_4, za_5, za_6, za_7, za_8, za_9, za_10, za_11, za_12, za_13, za_14, true_and, and_true, Nat.reduceAdd, nI_1]
        exact ih (k + 1) c2 P2 _ M2 (by omega) (g2.trans hn1) g1 S2 b1 b2 R2 e1 (by rw [hc2]; omega) (by rw [hP2, Nat.or_assoc]; exact e3)
      have skip : zw_mv S1 k = false → G 89 [some (.ref 0), some (.int (nI k)), none] [] M1 := by
        intro hmv
        have est : ze_st wr n b pr T S1 k = (S1, 0, false) := by unfold ze_st; rw [if_neg (by rw [hmv]; decide)]
        rw [est] at go
        exact go M1 c1 P1 rfl (Nat.or_zero P1).symm hS1 hc1 hP1 R1
      obtain ⟨va, ca⟩ := zx_ck (k := 10) (p := a') (N := 4544) (by omega) (by decide)
      have aw : M1.1 1 (10 + a') = zWo S1 a' := zw_m_aw hS1 (by omega)
      refine h2 _ _ _ ?_
      simp only [bX12_pass_2, zw_0, zw_1, zs_iloadn1, zs_aloadn0, zs_aloadNn0, zg_12_7, zs_bipush, zs_iaload, zs_icge, zs_iconst, zi_12_304, zs_iceq, zs_iclt, zs_iadd, zs_goto, zh_0, zh_1, zh_2, zh_3, zh_4, zt_i, zt_l, zt_r, zt_n, zb_0, za_1, za_2, za_3, za_4, za_5, za_6, za_7, za_8, za_9, za_10, za_11, za_12, za_13, za_14, zu_0, zu_1, zu_2, zu_3, zu_4, zu_5, zu_6, zu_7, zu_8, zu_9, zu_10, zu_11, zu_12, zu_13, zu_14, zu_15, zu_16, zu_17, zu_18, zu_19, zu_20, zu_21, zu_22, zu_23, zu_24, zu_25, zu_26, zu_27, zu_28, zu_29, zu_30, zu_90, zv_0_9, zv_1_9, zv_2_9, zv_3_9, zv_4_9, zv_5_9, zv_6_9, zv_7_9, zv_8_9, zv_0_330, zv_0_4544, zv_1_4544, zv_2_4544, zv_3_4544, zv_4_4544, zv_5_4544, zv_6_4544, zv_7_4544, zv_8_4544, zv_9_4544, zv_10_4544, zv_11_4544, zv_12_4544, zv_13_4544, zv_14_4544, zv_15_4544, zv_16_4544, zv_17_4544, zv_18_4544, zv_19_4544, zv_20_4544, zv_21_4544, zv_22_4544, zv_23_4544, zv_24_4544, zv_25_4544, zv_26_4544, zv_27_4544, zv_28_4544, zv_29_4544, zv_0_11, zv_1_11, zv_0_160, true_and, and_true, Nat.reduceAdd, s8]
      refine ⟨fun h => absurd h (nI_ge (by omega) (by omega)), fun _ => ?_⟩
      refine zm_R_eq (g 4 (by decide)) ?_
      simp only [bX12_pass_2, zw_0, zw_1, zs_iloadn1, zs_aloadn0, zs_aloadNn0, zg_12_7, zs_bipush, zs_iaload, zs_icge, zs_iconst, zi_12_304, zs_iceq, zs_iclt, zs_iadd, zs_goto, zh_0, zh_1, zh_2, zh_3, zh_4, zt_i, zt_l, zt_r, zt_n, zb_0, za_1, za_2, za_3, za_4, za_5, za_6, za_7, za_8, za_9, za_10, za_11, za_12, za_13, za_14, zu_0, zu_1, zu_2, zu_3, zu_4, zu_5, zu_6, zu_7, zu_8, zu_9, zu_10, zu_11, zu_12, zu_13, zu_14, zu_15, zu_16, zu_17, zu_18, zu_19, zu_20, zu_21, zu_22, zu_23, zu_24, zu_25, zu_26, zu_27, zu_28, zu_29, zu_30, zu_90, zv_0_9, zv_1_9, zv_2_9, zv_3_9, zv_4_9, zv_5_9, zv_6_9, zv_7_9, zv_8_9, zv_0_330, zv_0_4544, zv_1_4544, zv_2_4544, zv_3_4544, zv_4_4544, zv_5_4544, zv_6_4544, zv_7_4544, zv_8_4544, zv_9_4544, zv_10_4544, zv_11_4544, zv_12_4544, zv_13_4544, zv_14_4544, zv_15_4544, zv_16_4544, zv_17_4544, zv_18_4544, zv_19_4544, zv_20_4544, zv_21_4544, zv_22_4544, zv_23_4544, zv_24_4544, zv_25_4544, zv_26_4544, zv_27_4544, zv_28_4544, zv_29_4544, zv_0_11, zv_1_11, zv_0_160, true_and, and_true, Nat.reduceAdd, s6]
      refine ⟨fun h => skip (by unfold zw_mv; simp [h]), fun m1 => ?_⟩
      refine zm_R_eq (g 6 (by decide)) ?_
      simp only [bX12_pass_2, zw_0, zw_1, zs_iloadn1, zs_aloadn0, zs_aloadNn0, zg_12_7, zs_bipush, zs_iaload, zs_icge, zs_iconst, zi_12_304, zs_iceq, zs_iclt, zs_iadd, zs_goto, zh_0, zh_1, zh_2, zh_3, zh_4, zt_i, zt_l, zt_r, zt_n, zb_0, za_1, za_2, za_3, za_4, za_5, za_6, za_7, za_8, za_9, za_10, za_11, za_12, za_13, za_14, zu_0, zu_1, zu_2, zu_3, zu_4, zu_5, zu_6, zu_7, zu_8, zu_9, zu_10, zu_11, zu_12, zu_13, zu_14, zu_15, zu_16, zu_17, zu_18, zu_19, zu_20, zu_21, zu_22, zu_23, zu_24, zu_25, zu_26, zu_27, zu_28, zu_29, zu_30, zu_90, zv_0_9, zv_1_9, zv_2_9, zv_3_9, zv_4_9, zv_5_9, zv_6_9, zv_7_9, zv_8_9, zv_0_330, zv_0_4544, zv_1_4544, zv_2_4544, zv_3_4544, zv_4_4544, zv_5_4544, zv_6_4544, zv_7_4544, zv_8_4544, zv_9_4544, zv_10_4544, zv_11_4544, zv_12_4544, zv_13_4544, zv_14_4544, zv_15_4544, zv_16_4544, zv_17_4544, zv_18_4544, zv_19_4544, zv_20_4544, zv_21_4544, zv_22_4544, zv_23_4544, zv_24_4544, zv_25_4544, zv_26_4544, zv_27_4544, zv_28_4544, zv_29_4544, zv_0_11, zv_1_11, zv_0_160, true_and, and_true, Nat.reduceAdd, s6]
      refine ⟨fun h => skip (by unfold zw_mv; simp [h]), fun m2 => ?_⟩
      refine zm_R_eq (g 2 (by decide)) ?_
      rw [x2]
      simp only [bX12_pass_2, zw_0, zw_1, zs_iloadn1, zs_aloadn0, zs_aloadNn0, zg_12_7, zs_bipush, zs_iaload, zs_icge, zs_iconst, zi_12_304, zs_iceq, zs_iclt, zs_iadd, zs_goto, zh_0, zh_1, zh_2, zh_3, zh_4, zt_i, zt_l, zt_r, zt_n, zb_0, za_1, za_2, za_3, za_4, za_5, za_6, za_7, za_8, za_9, za_10, za_11, za_12, za_13, za_14, zu_0, zu_1, zu_2, zu_3, zu_4, zu_5, zu_6, zu_7, zu_8, zu_9, zu_10, zu_11, zu_12, zu_13, zu_14, zu_15, zu_16, zu_17, zu_18, zu_19, zu_20, zu_21, zu_22, zu_23, zu_24, zu_25, zu_26, zu_27, zu_28, zu_29, zu_30, zu_90, zv_0_9, zv_1_9, zv_2_9, zv_3_9, zv_4_9, zv_5_9, zv_6_9, zv_7_9, zv_8_9, zv_0_330, zv_0_4544, zv_1_4544, zv_2_4544, zv_3_4544, zv_4_4544, zv_5_4544, zv_6_4544, zv_7_4544, zv_8_4544, zv_9_4544, zv_10_4544, zv_11_4544, zv_12_4544, zv_13_4544, zv_14_4544, zv_15_4544, zv_16_4544, zv_17_4544, zv_18_4544, zv_19_4544, zv_20_4544, zv_21_4544, zv_22_4544, zv_23_4544, zv_24_4544, zv_25_4544, zv_26_4544, zv_27_4544, zv_28_4544, zv_29_4544, zv_0_11, zv_1_11, zv_0_160, true_and, and_true, Nat.reduceAdd, zx_10, va, ca, aw]
      refine ⟨fun m3 => ?_, fun m3 => skip (by unfold zw_mv; rw [x2, nI_clamp (by omega)]; simp [Int32.not_le.mp m3])⟩
      have hmv : zw_mv S1 k = true := by
        unfold zw_mv
        rw [x2, nI_clamp (by omega), decide_eq_true m1, decide_eq_true m2, decide_eq_true (Int32.not_lt.mpr m3)]; rfl
      refine h67 _ _ _ ?_
      simp only [bX12_pass_67, zw_0, zw_1, zs_aloadn0, zs_aloadNn0, zs_iloadn1, zs_iconst, zi_12_304, zs_ifne, zi_12_341, zs_goto, zh_0, zh_1, zh_2, zh_3, zh_4, zt_i, zt_l, zt_r, zt_n, zb_0, za_1, za_2, za_3, za_4, za_5, za_6, za_7, za_8, za_9, za_10, za_11, za_12, za_13, za_14, true_and, and_true, Nat.reduceAdd]
      refine zm_R_eq (g 4 (by decide)) ?_
      simp only [bX12_pass_67, zw_0, zw_1, zs_aloadn0, zs_aloadNn0, zs_iloadn1, zs_iconst, zi_12_304, zs_ifne, zi_12_341, zs_goto, zh_0, zh_1, zh_2, zh_3, zh_4, zt_i, zt_l, zt_r, zt_n, zb_0, za_1, za_2, za_3, za_4, za_5, za_6, za_7, za_8, za_9, za_10, za_11, za_12, za_13, za_14, true_and, and_true, Nat.reduceAdd]
      refine ⟨fun n0 => ?_, fun z0 => ?_⟩
      · have h1 := zw_mv_h hi1 hk1 hmv n0
        have est : ze_st wr n b pr T S1 k = ((ze_dn wr n b pr T S1 k).1, (ze_dn wr n b pr T S1 k).2, false) := by unfold ze_st; rw [if_pos hmv, if_neg n0]
        rw [est] at go
        refine h84 _ _ _ ?_
        simp only [bX12_pass_84, zw_0, zw_1, zs_aloadn0, zs_aloadNn0, zs_iloadn1, zi_12_344, zh_0, zh_1, zh_2, zh_3, zh_4, zt_i, zt_l, zt_r, zt_n, zb_0, za_1, za_2, za_3, za_4, za_5, za_6, za_7, za_8, za_9, za_10, za_11, za_12, za_13, za_14, true_and, and_true, Nat.reduceAdd]
        refine c_goDown hE d h91 (keep R1).2 (keep R1).1 hc1 (fun w hw => zm_T_R (hT w hw) R1) hTo hi1 hk1 h1 hS1 (fun M2 S2 b1 b2 R2 => ?_)
        simp only [bX12_pass_84, zw_0, zw_1, zs_aloadn0, zs_aloadNn0, zs_iloadn1, zi_12_344, zh_0, zh_1, zh_2, zh_3, zh_4, zt_i, zt_l, zt_r, zt_n, zb_0, za_1, za_2, za_3, za_4, za_5, za_6, za_7, za_8, za_9, za_10, za_11, za_12, za_13, za_14, true_and, and_true, Nat.reduceAdd]
        exact go M2 _ P1 rfl (Nat.or_zero P1).symm S2 b1 (b2.trans hP1) (zR_trans R1 R2)
      · have est : ze_st wr n b pr T S1 k = ((ze_up wr n b pr T S1 k).1, 0, (ze_up wr n b pr T S1 k).2) := by unfold ze_st; rw [if_pos hmv, if_pos z0]
        rw [est] at go
        refine c_goUp hE d h91 (keep R1).2 (keep R1).1 (fun w hw => zm_T_R (hT w hw) R1) hTo hi1 hk1 z0 hS1 (fun M2 S2 b1 b2 R2 => ?_)
        simp only [bX12_pass_67, zw_0, zw_1, zs_aloadn0, zs_aloadNn0, zs_iloadn1, zs_iconst, zi_12_304, zs_ifne, zi_12_341, zs_goto, zh_0, zh_1, zh_2, zh_3, zh_4, zt_i, zt_l, zt_r, zt_n, zb_0, za_1, za_2, za_3, za_4, za_5, za_6, za_7, za_8, za_9, za_10, za_11, za_12, za_13, za_14, true_and, and_true, Nat.reduceAdd]
        refine go M2 c1 _ rfl rfl S2 (b1.trans hc1) ?_ (zR_trans R1 R2)
        rw [b2, hP1]
        cases (ze_up wr n b pr T S1 k).2 with
        | true => exact nx_or P1 (2 ^ k)
        | false => show nI P1 = nI (P1 ||| 0); rw [Nat.or_zero]
  refine h0 _ _ _ ?_
  simp only [bX12_pass_0, zw_0, zw_1, zs_iconst, zs_istoren1, zc_none, zc_int, zc_ref, zc_null, zc_long, zb_0, za_1, za_2, za_3, za_4, za_5, za_6, za_7, za_8, za_9, za_10, za_11, za_12, za_13, za_14, true_and, and_true, Nat.reduceAdd]
  exact first (zWn S) 0 c P S M (by omega) rfl hi hS hc hP zR_refl rfl rfl rfl
