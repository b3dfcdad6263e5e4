/-! ===== the reference: what one adds; of an officer; whose law ===== -/
theorem c_addsOf {E : zm_E} (hE : zm_ok E.2.2.1 E.2.2.2.2) (d : Nat) {n p dd : Nat} {tx : Int32} {b pr : Nat → Int32} {D : Option zD} {M : zm_M} (h9 : zm_s9 n b pr M) (hp : p < n) (hdd : dd ≤ 9999) (hd : M.1 1 6 = nI dd) (hT : zm_T M tx 0 D) (hD : zDo 0 D) {Q : Option Value → zm_M → Prop} (q : ∀ M', zf [6, 7, 8] M M' → Q (some (.int (zo_ai n b pr D (nI dd) p))) M') : zm_R E (d + 6) mX12_addsOf [.ref 0, .int tx, .int (nI p)] M Q := by
  refine zX12_addsOf hE rfl (fun G h0 => ?_)
  show G 0 [some (.ref 0), some (.int tx), some (.int (nI p))] [] M
  have hbw : zt_wf n b := zt_wf_c h9.1 h9.2.2.1
  have hn := hbw.1
  have nmo := zn_l_ok (pr := pr) hbw hdd hp h9.2.2.2.2 p 0 (by omega) (by omega) 10 (by omega)
  refine h0 _ _ _ ?_
  simp only [bX12_addsOf_0, zw_0, zw_1, zs_aloadn0, zs_aloadNn0, zs_iloadn2, zs_bipush, zs_iconst, zi_12_297, zs_iloadn1, zi_12_301, zs_ireturn, zh_0, zh_1, zh_2, zh_3, zh_4, zt_i, zt_l, zt_r, zt_n, zn_int, zn_b0, zn_b1, zb_0, za_1, za_2, za_3, za_4, za_5, za_6, za_7, za_8, za_9, za_10, za_11, za_12, za_13, za_14, true_and, and_true, Nat.reduceAdd]
  refine c_name hE (d + 3) hp 10 (nI p) 0 h9.1 (fun M1 e1 f1 => ?_)
  have R1 : zR M M1 := zR_f f1 (by simp)
  have h91 := zm_s9_R h9 R1
  have e2 : ∀ i, i < 9 → M1.1 6 i = zn_l (nI dd) 10 (nI p) (pr p) (nI (zt_rk b p)) (nI p) 0 0 0 i := by
    intro i hi
    rw [e1 i hi, hd, h9.2.2.2.1 p hp, zt_rk_c h9.1 h9.2.2.1 p hp]
  simp only [bX12_addsOf_0, zw_0, zw_1, zs_aloadn0, zs_aloadNn0, zs_iloadn2, zs_bipush, zs_iconst, zi_12_297, zs_iloadn1, zi_12_301, zs_ireturn, zh_0, zh_1, zh_2, zh_3, zh_4, zt_i, zt_l, zt_r, zt_n, zn_int, zn_b0, zn_b1, zb_0, za_1, za_2, za_3, za_4, za_5, za_6, za_7, za_8, za_9, za_10, za_11, za_12, za_13, za_14, true_and, and_true, Nat.reduceAdd]
  refine c_addsBy hE d h91.1 h91.2.1 (fun i hi => by rw [e2 i hi]; exact nmo i) (zm_T_R hT R1) (fun y M2 hy f2 => ?_)
  simp only [bX12_addsOf_0, zw_0, zw_1, zs_aloadn0, zs_aloadNn0, zs_iloadn2, zs_bipush, zs_iconst, zi_12_297, zs_iloadn1, zi_12_301, zs_ireturn, zh_0, zh_1, zh_2, zh_3, zh_4, zt_i, zt_l, zt_r, zt_n, zn_int, zn_b0, zn_b1, zb_0, za_1, za_2, za_3, za_4, za_5, za_6, za_7, za_8, za_9, za_10, za_11, za_12, za_13, za_14, true_and, and_true, Nat.reduceAdd]
  have hy2 : y.toInt = zo_ad n b pr D (nI dd) p := by
    rw [hy]
    unfold zo_ad
    rw [zq_rk_e h91.1 h91.2.2.1]
    exact zq_said_c hD (fun i hi => by rw [e2 i (by have : zn_k 0 = 9 := rfl; omega)])
  have hin := zo_ad_in n b pr D (nI dd) p
  rw [zx_toInt hy2 (by omega) (by omega)]
  exact q M2 (zf_trans (zf_sub f1 (by simp)) (zf_sub f2 (by simp)))
theorem c_of {E : zm_E} (hE : zm_ok E.2.2.1 E.2.2.2.2) (d : Nat) {n : Nat} {b pr cs : Nat → Int32} {T : Nat → Option zD} (o w : Int32) {M : zm_M} {S : zW} (h9 : zm_s9 n b pr M) (hcs : ∀ i, i < n → M.1 1 (110 + i) = cs i) (hT : zm_T M (M.1 1 2) 0 (T 0)) (hTo : zDo 0 (T 0)) (hi : zw_i n b S) (hS : zw_m M S) {Q : Option Value → zm_M → Prop} (q1 : zo_is n o = false → Q (some (.int (-2))) M) (q2 : ∀ p M', p < n → o = nI p → zf [6, 7, 8] M M' → Q (some (.int (zo_qo n b pr cs (T 0) S p w))) M') : zm_R E (d + 7) mX12_of [.ref 0, .int o, .int w] M Q := by
  refine zX12_of hE rfl (fun G h0 h11 h60 h70 h80 h86 h96 h108 h115 h125 h131 => ?_)
  show G 0 [some (.ref 0), some (.int o), some (.int w)] [] M
  have hbw : zt_wf n b := zt_wf_c h9.1 h9.2.2.1
  have hn := hbw.1
  refine h0 _ _ _ ?_
  simp only [bX12_of_0, zw_0, zw_1, zs_aloadn0, zs_aloadNn0, zs_iloadn1, zi_12_73, zs_ifne, zs_bipush, zs_ireturn, zh_0, zh_1, zh_2, zh_3, zh_4, zt_i, zt_l, zt_r, zt_n, zn_int, zn_b0, zn_b1, zb_0, za_1, za_2, za_3, za_4, za_5, za_6, za_7, za_8, za_9, za_10, za_11, za_12, za_13, za_14, true_and, and_true, Nat.reduceAdd]
  refine zm_R_eq (c_isOfficer hE (d + 4) o M) ?_
  rw [h9.2.1, zo_in (by omega)]
  simp only [bX12_of_0, zw_0, zw_1, zs_aloadn0, zs_aloadNn0, zs_iloadn1, zi_12_73, zs_ifne, zs_bipush, zs_ireturn, zh_0, zh_1, zh_2, zh_3, zh_4, zt_i, zt_l, zt_r, zt_n, zn_int, zn_b0, zn_b1, zb_0, za_1, za_2, za_3, za_4, za_5, za_6, za_7, za_8, za_9, za_10, za_11, za_12, za_13, za_14, true_and, and_true, Nat.reduceAdd, zi_b1, zi_b0]
  refine ⟨fun h => ?_, fun h => q1 h⟩
  have h : zo_is n o = true := by simpa using h
  obtain ⟨p, hp, rfl⟩ := zo_of h (by omega)
  have q2 := fun M' => q2 p M' hp rfl
  obtain ⟨v1, v2⟩ := zx_ck (k := 90) (p := p) (N := 4544) (by omega) (by decide)
  obtain ⟨v3, v4⟩ := zx_ck (k := 100) (p := p) (N := 4544) (by omega) (by decide)
  obtain ⟨v5, v6⟩ := zx_ck (k := 10) (p := p) (N := 4544) (by omega) (by decide)
  obtain ⟨v7, v8⟩ := zx_ck (k := 110) (p := p) (N := 4544) (by omega) (by decide)
  have m90 : M.1 1 (90 + p) = b p := h9.2.2.1 p hp
  have m100 : M.1 1 (100 + p) = pr p := h9.2.2.2.1 p hp
  have m10 : M.1 1 (10 + p) = zWo S p := zw_m_aw hS (by omega)
  have m110 : M.1 1 (110 + p) = cs p := hcs p hp
  refine h11 _ _ _ ?_
  simp only [bX12_of_11, zw_0, zw_1, zs_iloadn2, zs_tsw, zm_sw, zb_0, za_1, za_2, za_3, za_4, za_5, za_6, za_7, za_8, za_9, za_10, za_11, za_12, za_13, za_14, true_and, and_true, Nat.reduceAdd]
  refine ⟨fun h => ?_, fun n0 => ⟨fun h => ?_, fun n1 => ⟨fun h => ?_, fun n2 => ⟨fun h => ?_, fun n3 => ⟨fun h => ?_, fun n4 => ⟨fun h => ?_, fun n5 => ⟨fun h => ?_, fun n6 => ⟨fun h => ?_, fun n7 => ?_⟩⟩⟩⟩⟩⟩⟩⟩
  · refine h60 _ _ _ ?_
    simp only [bX12_of_60, zw_0, zw_1, zs_aloadn0, zs_aloadNn0, zg_12_7, zs_bipush, zs_iloadn1, zs_iadd, zs_iaload, zs_ireturn, zn_int, zn_b0, zn_b1, zb_0, za_1, za_2, za_3, za_4, za_5, za_6, za_7, za_8, za_9, za_10, za_11, za_12, za_13, za_14, zu_0, zu_1, zu_2, zu_3, zu_4, zu_5, zu_6, zu_7, zu_8, zu_9, zu_10, zu_11, zu_12, zu_13, zu_14, zu_15, zu_16, zu_17, zu_18, zu_19, zu_20, zu_21, zu_22, zu_23, zu_24, zu_25, zu_26, zu_27, zu_28, zu_29, zu_30, zu_90, zv_0_9, zv_1_9, zv_2_9, zv_3_9, zv_4_9, zv_5_9, zv_6_9, zv_7_9, zv_8_9, zv_0_330, zv_0_4544, zv_1_4544, zv_2_4544, zv_3_4544, zv_4_4544, zv_5_4544, zv_6_4544, zv_7_4544, zv_8_4544, zv_9_4544, zv_10_4544, zv_11_4544, zv_12_4544, zv_13_4544, zv_14_4544, zv_15_4544, zv_16_4544, zv_17_4544, zv_18_4544, zv_19_4544, zv_20_4544, zv_21_4544, zv_22_4544, zv_23_4544, zv_24_4544, zv_25_4544, zv_26_4544, zv_27_4544, zv_28_4544, zv_29_4544, zv_0_11, zv_1_11, zv_0_160, true_and, and_true, Nat.reduceAdd, zx_boss, v1, v2, m90]
    have := q2 M zf_refl
    rw [show zo_qo n b pr cs (T 0) S p w = b p by unfold zo_qo; rw [if_pos h]] at this
    exact this
  · refine h70 _ _ _ ?_
    simp only [bX12_of_70, zw_0, zw_1, zs_aloadn0, zs_aloadNn0, zg_12_7, zs_bipush, zs_iloadn1, zs_iadd, zs_iaload, zs_ireturn, zn_int, zn_b0, zn_b1, zb_0, za_1, za_2, za_3, za_4, za_5, za_6, za_7, za_8, za_9, za_10, za_11, za_12, za_13, za_14, zu_0, zu_1, zu_2, zu_3, zu_4, zu_5, zu_6, zu_7, zu_8, zu_9, zu_10, zu_11, zu_12, zu_13, zu_14, zu_15, zu_16, zu_17, zu_18, zu_19, zu_20, zu_21, zu_22, zu_23, zu_24, zu_25, zu_26, zu_27, zu_28, zu_29, zu_30, zu_90, zv_0_9, zv_1_9, zv_2_9, zv_3_9, zv_4_9, zv_5_9, zv_6_9, zv_7_9, zv_8_9, zv_0_330, zv_0_4544, zv_1_4544, zv_2_4544, zv_3_4544, zv_4_4544, zv_5_4544, zv_6_4544, zv_7_4544, zv_8_4544, zv_9_4544, zv_10_4544, zv_11_4544, zv_12_4544, zv_13_4544, zv_14_4544, zv_15_4544, zv_16_4544, zv_17_4544, zv_18_4544, zv_19_4544, zv_20_4544, zv_21_4544, zv_22_4544, zv_23_4544, zv_24_4544, zv_25_4544, zv_26_4544, zv_27_4544, zv_28_4544, zv_29_4544, zv_0_11, zv_1_11, zv_0_160, true_and, and_true, Nat.reduceAdd, zx_100, v3, v4, m100]
    have := q2 M zf_refl
    rw [show zo_qo n b pr cs (T 0) S p w = pr p by unfold zo_qo; rw [if_neg n0, if_pos h]] at this
    exact this
  · refine h80 _ _ _ ?_
    simp only [bX12_of_80, zw_0, zw_1, zs_aloadn0, zs_aloadNn0, zs_iloadn1, zi_12_262, zs_ireturn, zh_0, zh_1, zh_2, zh_3, zh_4, zt_i, zt_l, zt_r, zt_n, zn_int, zn_b0, zn_b1, zb_0, za_1, za_2, za_3, za_4, za_5, za_6, za_7, za_8, za_9, za_10, za_11, za_12, za_13, za_14, true_and, and_true, Nat.reduceAdd]
    refine zm_R_eq (c_rankOf hE (d + 5) h9.1 hp) ?_
    simp only [bX12_of_80, zw_0, zw_1, zs_aloadn0, zs_aloadNn0, zs_iloadn1, zi_12_262, zs_ireturn, zh_0, zh_1, zh_2, zh_3, zh_4, zt_i, zt_l, zt_r, zt_n, zn_int, zn_b0, zn_b1, zb_0, za_1, za_2, za_3, za_4, za_5, za_6, za_7, za_8, za_9, za_10, za_11, za_12, za_13, za_14, true_and, and_true, Nat.reduceAdd]
    have := q2 M zf_refl
    rw [show zo_qo n b pr cs (T 0) S p w = nI (zt_rk b p) by unfold zo_qo; rw [if_neg n0, if_neg n1, if_pos h], ← zt_rk_c h9.1 h9.2.2.1 p hp] at this
    exact this
  · refine h86 _ _ _ ?_
    simp only [bX12_of_86, zw_0, zw_1, zs_aloadn0, zs_aloadNn0, zg_12_7, zs_bipush, zs_iloadn1, zs_iadd, zs_iaload, zs_ireturn, zn_int, zn_b0, zn_b1, zb_0, za_1, za_2, za_3, za_4, za_5, za_6, za_7, za_8, za_9, za_10, za_11, za_12, za_13, za_14, zu_0, zu_1, zu_2, zu_3, zu_4, zu_5, zu_6, zu_7, zu_8, zu_9, zu_10, zu_11, zu_12, zu_13, zu_14, zu_15, zu_16, zu_17, zu_18, zu_19, zu_20, zu_21, zu_22, zu_23, zu_24, zu_25, zu_26, zu_27, zu_28, zu_29, zu_30, zu_90, zv_0_9, zv_1_9, zv_2_9, zv_3_9, zv_4_9, zv_5_9, zv_6_9, zv_7_9, zv_8_9, zv_0_330, zv_0_4544, zv_1_4544, zv_2_4544, zv_3_4544, zv_4_4544, zv_5_4544, zv_6_4544, zv_7_4544, zv_8_4544, zv_9_4544, zv_10_4544, zv_11_4544, zv_12_4544, zv_13_4544, zv_14_4544, zv_15_4544, zv_16_4544, zv_17_4544, zv_18_4544, zv_19_4544, zv_20_4544, zv_21_4544, zv_22_4544, zv_23_4544, zv_24_4544, zv_25_4544, zv_26_4544, zv_27_4544, zv_28_4544, zv_29_4544, zv_0_11, zv_1_11, zv_0_160, true_and, and_true, Nat.reduceAdd, zx_10, v5, v6, m10]
    have := q2 M zf_refl
    rw [show zo_qo n b pr cs (T 0) S p w = zWo S p by unfold zo_qo; rw [if_neg n0, if_neg n1, if_neg n2, if_pos h]] at this
    exact this
  · obtain ⟨dd, hdd, ed⟩ := hi.2.1
    refine h96 _ _ _ ?_
    simp only [bX12_of_96, zw_0, zw_1, zs_aloadn0, zs_aloadNn0, zg_12_7, zs_iconst, zs_iaload, zs_iloadn1, zi_12_395, zs_ireturn, zh_0, zh_1, zh_2, zh_3, zh_4, zt_i, zt_l, zt_r, zt_n, zn_int, zn_b0, zn_b1, zb_0, za_1, za_2, za_3, za_4, za_5, za_6, za_7, za_8, za_9, za_10, za_11, za_12, za_13, za_14, zu_0, zu_1, zu_2, zu_3, zu_4, zu_5, zu_6, zu_7, zu_8, zu_9, zu_10, zu_11, zu_12, zu_13, zu_14, zu_15, zu_16, zu_17, zu_18, zu_19, zu_20, zu_21, zu_22, zu_23, zu_24, zu_25, zu_26, zu_27, zu_28, zu_29, zu_30, zu_90, zv_0_9, zv_1_9, zv_2_9, zv_3_9, zv_4_9, zv_5_9, zv_6_9, zv_7_9, zv_8_9, zv_0_330, zv_0_4544, zv_1_4544, zv_2_4544, zv_3_4544, zv_4_4544, zv_5_4544, zv_6_4544, zv_7_4544, zv_8_4544, zv_9_4544, zv_10_4544, zv_11_4544, zv_12_4544, zv_13_4544, zv_14_4544, zv_15_4544, zv_16_4544, zv_17_4544, zv_18_4544, zv_19_4544, zv_20_4544, zv_21_4544, zv_22_4544, zv_23_4544, zv_24_4544, zv_25_4544, zv_26_4544, zv_27_4544, zv_28_4544, zv_29_4544, zv_0_11, zv_1_11, zv_0_160, true_and, and_true, Nat.reduceAdd]
    refine c_addsOf hE d (D := T 0) h9 hp hdd (by rw [← ed]; exact hS.1) hT hTo (fun M1 f1 => ?_)
    simp only [bX12_of_96, zw_0, zw_1, zs_aloadn0, zs_aloadNn0, zg_12_7, zs_iconst, zs_iaload, zs_iloadn1, zi_12_395, zs_ireturn, zh_0, zh_1, zh_2, zh_3, zh_4, zt_i, zt_l, zt_r, zt_n, zn_int, zn_b0, zn_b1, zb_0, za_1, za_2, za_3, za_4, za_5, za_6, za_7, za_8, za_9, za_10, za_11, za_12, za_13, za_14, zu_0, zu_1, zu_2, zu_3, zu_4, zu_5, zu_6, zu_7, zu_8, zu_9, zu_10, zu_11, zu_12, zu_13, zu_14, zu_15, zu_16, zu_17, zu_18, zu_19, zu_20, zu_21, zu_22, zu_23, zu_24, zu_25, zu_26, zu_27, zu_28, zu_29, zu_30, zu_90, zv_0_9, zv_1_9, zv_2_9, zv_3_9, zv_4_9, zv_5_9, zv_6_9, zv_7_9, zv_8_9, zv_0_330, zv_0_4544, zv_1_4544, zv_2_4544, zv_3_4544, zv_4_4544, zv_5_4544, zv_6_4544, zv_7_4544, zv_8_4544, zv_9_4544, zv_10_4544, zv_11_4544, zv_12_4544, zv_13_4544, zv_14_4544, zv_15_4544, zv_16_4544, zv_17_4544, zv_18_4544, zv_19_4544, zv_20_4544, zv_21_4544, zv_22_4544, zv_23_4544, zv_24_4544, zv_25_4544, zv_26_4544, zv_27_4544, zv_28_4544, zv_29_4544, zv_0_11, zv_1_11, zv_0_160, true_and, and_true, Nat.reduceAdd]
    have := q2 M1 f1
    rw [show zo_qo n b pr cs (T 0) S p w = zo_ai n b pr (T 0) (zWd S) p by unfold zo_qo; rw [if_neg n0, if_neg n1, if_neg n2, if_neg n3, if_pos h], ed] at this
    exact this
  · refine h108 _ _ _ ?_
    simp only [bX12_of_108, zw_0, zw_1, zs_aloadn0, zs_aloadNn0, zs_iloadn1, zs_iconst, zi_12_307, zs_ireturn, zh_0, zh_1, zh_2, zh_3, zh_4, zt_i, zt_l, zt_r, zt_n, zn_int, zn_b0, zn_b1, zb_0, za_1, za_2, za_3, za_4, za_5, za_6, za_7, za_8, za_9, za_10, za_11, za_12, za_13, za_14, true_and, and_true, Nat.reduceAdd]
    refine zm_R_eq (c_deskOf hE (d + 4) (m := zWn S) hi.1.1 (nI p) (-1) hS.2.2.1) ?_
    simp only [bX12_of_108, zw_0, zw_1, zs_aloadn0, zs_aloadNn0, zs_iloadn1, zs_iconst, zi_12_307, zs_ireturn, zh_0, zh_1, zh_2, zh_3, zh_4, zt_i, zt_l, zt_r, zt_n, zn_int, zn_b0, zn_b1, zb_0, za_1, za_2, za_3, za_4, za_5, za_6, za_7, za_8, za_9, za_10, za_11, za_12, za_13, za_14, true_and, and_true, Nat.reduceAdd]
    have hk10 := hi.1.1
    have := q2 M zf_refl
    rw [show zo_qo n b pr cs (T 0) S p w = nI (zc_n (zc_desk (zWa S 2) (zWa S 4) (nI p)) (zWn S)) by unfold zo_qo; rw [if_neg n0, if_neg n1, if_neg n2, if_neg n3, if_neg n4, if_pos h]] at this
    have e : zc_n (fun k => decide (¬ nI k = -1) && zc_desk (zp M 2) (zp M 4) (nI p) k) (zWn S) = zc_n (zc_desk (zWa S 2) (zWa S 4) (nI p)) (zWn S) := zc_n_c _ (fun j hj => by
      have ne : ¬ nI j = -1 := zt_ne (by omega)
      unfold zc_desk
      rw [show zp M 2 j = zWa S 2 j from zw_m_ap hS (by decide) hj, show zp M 4 j = zWa S 4 j from zw_m_ap hS (by decide) hj]
      simp [ne])
    rw [← e] at this
    exact this
  · refine h115 _ _ _ ?_
    simp only [bX12_of_115, zw_0, zw_1, zs_aloadn0, zs_aloadNn0, zg_12_7, zs_bipush, zs_iloadn1, zs_iadd, zs_iaload, zs_ireturn, zn_int, zn_b0, zn_b1, zb_0, za_1, za_2, za_3, za_4, za_5, za_6, za_7, za_8, za_9, za_10, za_11, za_12, za_13, za_14, zu_0, zu_1, zu_2, zu_3, zu_4, zu_5, zu_6, zu_7, zu_8, zu_9, zu_10, zu_11, zu_12, zu_13, zu_14, zu_15, zu_16, zu_17, zu_18, zu_19, zu_20, zu_21, zu_22, zu_23, zu_24, zu_25, zu_26, zu_27, zu_28, zu_29, zu_30, zu_90, zv_0_9, zv_1_9, zv_2_9, zv_3_9, zv_4_9, zv_5_9, zv_6_9, zv_7_9, zv_8_9, zv_0_330, zv_0_4544, zv_1_4544, zv_2_4544, zv_3_4544, zv_4_4544, zv_5_4544, zv_6_4544, zv_7_4544, zv_8_4544, zv_9_4544, zv_10_4544, zv_11_4544, zv_12_4544, zv_13_4544, zv_14_4544, zv_15_4544, zv_16_4544, zv_17_4544, zv_18_4544, zv_19_4544, zv_20_4544, zv_21_4544, zv_22_4544, zv_23_4544, zv_24_4544, zv_25_4544, zv_26_4544, zv_27_4544, zv_28_4544, zv_29_4544, zv_0_11, zv_1_11, zv_0_160, true_and, and_true, Nat.reduceAdd, zx_110, v7, v8, m110]
    have := q2 M zf_refl
    rw [show zo_qo n b pr cs (T 0) S p w = cs p by unfold zo_qo; rw [if_neg n0, if_neg n1, if_neg n2, if_neg n3, if_neg n4, if_neg n5, if_pos h]] at this
    exact this
  · refine h125 _ _ _ ?_
    simp only [bX12_of_125, zw_0, zw_1, zs_aloadn0, zs_aloadNn0, zs_iloadn1, zi_12_398, zs_ireturn, zh_0, zh_1, zh_2, zh_3, zh_4, zt_i, zt_l, zt_r, zt_n, zn_int, zn_b0, zn_b1, zb_0, za_1, za_2, za_3, za_4, za_5, za_6, za_7, za_8, za_9, za_10, za_11, za_12, za_13, za_14, true_and, and_true, Nat.reduceAdd]
    refine zm_R_eq (c_belowOf hE (d + 4) h9.1 h9.2.1 hp) ?_
    simp only [bX12_of_125, zw_0, zw_1, zs_aloadn0, zs_aloadNn0, zs_iloadn1, zi_12_398, zs_ireturn, zh_0, zh_1, zh_2, zh_3, zh_4, zt_i, zt_l, zt_r, zt_n, zn_int, zn_b0, zn_b1, zb_0, za_1, za_2, za_3, za_4, za_5, za_6, za_7, za_8, za_9, za_10, za_11, za_12, za_13, za_14, true_and, and_true, Nat.reduceAdd]
    have := q2 M zf_refl
    rw [show zo_qo n b pr cs (T 0) S p w = nI (zb_set (zt_ae b p) n) by unfold zo_qo; rw [if_neg n0, if_neg n1, if_neg n2, if_neg n3, if_neg n4, if_neg n5, if_neg n6, if_pos h], ← zb_set_e h9.1 h9.2.2.1 hp] at this
    exact this
  · refine h131 _ _ _ ?_
    simp only [bX12_of_131, zw_0, zw_1, zs_bipush, zs_ireturn, zn_int, zn_b0, zn_b1, zb_0, za_1, za_2, za_3, za_4, za_5, za_6, za_7, za_8, za_9, za_10, za_11, za_12, za_13, za_14, true_and, and_true, Nat.reduceAdd]
    have := q2 M zf_refl
    rw [show zo_qo n b pr cs (T 0) S p w = -2 by unfold zo_qo; rw [if_neg n0, if_neg n1, if_neg n2, if_neg n3, if_neg n4, if_neg n5, if_neg n6, if_neg n7]] at this
    exact this
theorem zo_ex_F {n : Nat} {b pr : Nat → Int32} {D : Option zD} {dy : Int32} {ao : Nat → Nat} {ab : Nat → Int32} {k : Nat} (h : zo_ex n b pr D dy ao ab k = false) : zo_ex n b pr D dy ao ab (k + 1) = false := by
  simp only [zo_ex, h]; rfl
theorem c_whose {E : zm_E} (hE : zm_ok E.2.2.1 E.2.2.2.2) (d : Nat) {n dd m tn : Nat} {b pr : Nat → Int32} {TT : Nat → Nat → Option zD} {M : zm_M} {ao : Nat → Nat} {ab : Nat → Int32} (h9 : zm_s9 n b pr M) (hdd : dd ≤ 9999) (hd : M.1 1 6 = nI dd) (htn : tn ≤ 4) (h1 : M.1 1 1 = nI tn) (hl : ∀ t, t < tn → zl_m M t 0 (TT t 0)) (hD : ∀ t, t < tn → zDo 0 (TT t 0)) (hm : m ≤ 8) (h5 : M.1 1 5 = nI m) (ho : ∀ i, i < m → M.1 1 (148 + 2 * i) = nI (ao i) ∧ ao i < n ∧ M.1 1 (148 + 2 * i + 1) = ab i) {Q : Option Value → zm_M → Prop} (q : ∀ M', zf [6, 7, 8] M M' → Q (some (.int (nI (zb_set (fun t => zo_ex n b pr (TT t 0) (nI dd) ao ab m) tn)))) M') : zm_R E (d + 7) mX12_whose [.ref 0] M Q := by
  refine zX12_whose hE rfl (fun G h0 h4 h19 h74 h75 h82 h93 h94 h102 => ?_)
  show G 0 [some (.ref 0), none, none, none, none] [] M
  have a1 : ∀ {M1 : zm_M}, zf [6, 7, 8] M M1 → M1.1 1 = M.1 1 := fun f => (f 1 (by decide)).1
  have inner : ∀ (f k t x : Nat) (M1 : zm_M), k + f = m → t < tn → zf [6, 7, 8] M M1 → (∀ M2 l4, zf [6, 7, 8] M M2 → G 82 [some (.ref 0), some (.int (nI x)), some (.int (nI t)), some (.int (zi_b (zo_ex n b pr (TT t 0) (nI dd) ao ab m))), l4] [] M2) → G 19 [some (.ref 0), some (.int (nI x)), some (.int (nI t)), some (.int (zi_b (zo_ex n b pr (TT t 0) (nI dd) ao ab k))), some (.int (nI k))] [] M1 := by
    intro f
    induction f with
    | zero =>
      intro k t x M1 hk ht f1 hq
      obtain rfl : k = m := by omega
      have m5 : M1.1 1 5 = nI k := by rw [a1 f1]; exact h5
      refine h19 _ _ _ ?_
      simp only [bX12_whose_19, zw_0, zw_1, zs_iload4, zs_aloadn0, zs_aloadNn0, zg_12_7, zs_iconst, zs_iaload, zs_icge, zs_iloadn3, zs_ifeq, zs_iloadn2, zs_sipush, zs_imul, zs_iadd, zi_12_395, zs_icne, zs_goto, zh_0, zh_1, zh_2, zh_3, zh_4, zt_i, zt_l, zt_r, zt_n, zb_0, za_1, za_2, za_3, za_4, za_5, za_6, za_7, za_8, za_9, za_10, za_11, za_12, za_13, za_14, zu_0, zu_1, zu_2, zu_3, zu_4, zu_5, zu_6, zu_7, zu_8, zu_9, zu_10, zu_11, zu_12, zu_13, zu_14, zu_15, zu_16, zu_17, zu_18, zu_19, zu_20, zu_21, zu_22, zu_23, zu_24, zu_25, zu_26, zu_27, zu_28, zu_29, zu_30, zu_90, zv_0_9, zv_1_9, zv_2_9, zv_3_9, zv_4_9, zv_5_9, zv_6_9, zv_7_9, zv_8_9, zv_0_330, zv_0_4544, zv_1_4544, zv_2_4544, zv_3_4544, zv_4_4544, zv_5_4544, zv_6_4544, zv_7_4544, zv_8_4544, zv_9_4544, zv_10_4544, zv_11_4544, zv_12_4544, zv_13_4544, zv_14_4544, zv_15_4544, zv_16_4544, zv_17_4544, zv_18_4544, zv_19_4544, zv_20_4544, zv_21_4544, zv_22_4544, zv_23_4544, zv_24_4544, zv_25_4544, zv_26_4544, zv_27_4544, zv_28_4544, zv_29_4544, zv_0_11, zv_1_11, zv_0_160, true_and, and_true, Nat.reduceAdd, m5]
      exact ⟨fun _ => hq M1 _ f1, fun h => absurd (nI_le (Nat.le_refl _) (by omega)) h⟩
    | succ f ih =>
      intro k t x M1 hk ht f1 hq
      have m5 : M1.1 1 5 = nI m := by rw [a1 f1]; exact h5
      obtain ⟨o1, o2, o3⟩ := ho k (by omega)
      have go : ∀ (M2 : zm_M) (z : Bool), z = zo_ex n b pr (TT t 0) (nI dd) ao ab (k + 1) → zf [6, 7, 8] M M2 → G 75 [some (.ref 0), some (.int (nI x)), some (.int (nI t)), some (.int (zi_b (zo_ex n b pr (TT t 0) (nI dd) ao ab k))), some (.int (nI k))] [.int (zi_b z)] M2 := by
        intro M2 z hz f2
        refine h75 _ _ _ ?_
        simp only [bX12_whose_75, zw_0, zw_1, zs_istoren3, zs_iinc4, zs_goto, zc_none, zc_int, zc_ref, zc_null, zc_long, zb_0, za_1, za_2, za_3, za_4, za_5, za_6, za_7, za_8, za_9, za_10, za_11, za_12, za_13, za_14, true_and, and_true, Nat.reduceAdd, nI_1]
        rw [hz]
        exact ih (k + 1) t x M2 (by omega) ht f2 hq
      have no : ∀ (M2 : zm_M), zo_ex n b pr (TT t 0) (nI dd) ao ab (k + 1) = false → zf [6, 7, 8] M M2 → G 74 [some (.ref 0), some (.int (nI x)), some (.int (nI t)), some (.int (zi_b (zo_ex n b pr (TT t 0) (nI dd) ao ab k))), some (.int (nI k))] [] M2 := by
        intro M2 hz f2
        refine h74 _ _ _ ?_
        simp only [bX12_whose_74, zw_0, zw_1, zs_iconst, zb_0, za_1, za_2, za_3, za_4, za_5, za_6, za_7, za_8, za_9, za_10, za_11, za_12, za_13, za_14, true_and, and_true, Nat.reduceAdd]
        exact go M2 false hz.symm f2
      have e148 := zx_148 k
      obtain ⟨v1, v2⟩ := zx_ck (k := 148) (p := 2 * k) (N := 4544) (by omega) (by decide)
      obtain ⟨v3, v4⟩ := zx_ck (k := 148 + 2 * k) (p := 1) (N := 4544) (by omega) (by decide)
      have m148 : M1.1 1 (148 + 2 * k) = nI (ao k) := by rw [a1 f1]; exact o1
      refine h19 _ _ _ ?_
      simp only [bX12_whose_19, zw_0, zw_1, zs_iload4, zs_aloadn0, zs_aloadNn0, zg_12_7, zs_iconst, zs_iaload, zs_icge, zs_iloadn3, zs_ifeq, zs_iloadn2, zs_sipush, zs_imul, zs_iadd, zi_12_395, zs_icne, zs_goto, zh_0, zh_1, zh_2, zh_3, zh_4, zt_i, zt_l, zt_r, zt_n, zb_0, za_1, za_2, za_3, za_4, za_5, za_6, za_7, za_8, za_9, za_10, za_11, za_12, za_13, za_14, zu_0, zu_1, zu_2, zu_3, zu_4, zu_5, zu_6, zu_7, zu_8, zu_9, zu_10, zu_11, zu_12, zu_13, zu_14, zu_15, zu_16, zu_17, zu_18, zu_19, zu_20, zu_21, zu_22, zu_23, zu_24, zu_25, zu_26, zu_27, zu_28, zu_29, zu_30, zu_90, zv_0_9, zv_1_9, zv_2_9, zv_3_9, zv_4_9, zv_5_9, zv_6_9, zv_7_9, zv_8_9, zv_0_330, zv_0_4544, zv_1_4544, zv_2_4544, zv_3_4544, zv_4_4544, zv_5_4544, zv_6_4544, zv_7_4544, zv_8_4544, zv_9_4544, zv_10_4544, zv_11_4544, zv_12_4544, zv_13_4544, zv_14_4544, zv_15_4544, zv_16_4544, zv_17_4544, zv_18_4544, zv_19_4544, zv_20_4544, zv_21_4544, zv_22_4544, zv_23_4544, zv_24_4544, zv_25_4544, zv_26_4544, zv_27_4544, zv_28_4544, zv_29_4544, zv_0_11, zv_1_11, zv_0_160, true_and, and_true, Nat.reduceAdd, m5, zi_b0, e148, v1, v2, m148]
      refine ⟨fun h => absurd h (nI_ge (by omega) (by omega)), fun _ => ⟨fun h => no M1 (zo_ex_F h) f1, fun h => ?_⟩⟩
      have h : zo_ex n b pr (TT t 0) (nI dd) ao ab k = true := by simpa using h
      have R1 : zR M M1 := zR_f f1 (by simp)
      have h91 := zm_s9_R h9 R1
      refine c_addsOf hE d (D := TT t 0) h91 o2 hdd (by rw [a1 f1]; exact hd) (zm_T_R (Or.inr ⟨t, by omega, rfl, hl t ht⟩) R1) (hD t ht) (fun M2 f2 => ?_)
      have f12 := zf_trans f1 f2
      have m149 : M2.1 1 (148 + 2 * k + 1) = ab k := by rw [a1 f12]; exact o3
      simp only [bX12_whose_19, zw_0, zw_1, zs_iload4, zs_aloadn0, zs_aloadNn0, zg_12_7, zs_iconst, zs_iaload, zs_icge, zs_iloadn3, zs_ifeq, zs_iloadn2, zs_sipush, zs_imul, zs_iadd, zi_12_395, zs_icne, zs_goto, zh_0, zh_1, zh_2, zh_3, zh_4, zt_i, zt_l, zt_r, zt_n, zb_0, za_1, za_2, za_3, za_4, za_5, za_6, za_7, za_8, za_9, za_10, za_11, za_12, za_13, za_14, zu_0, zu_1, zu_2, zu_3, zu_4, zu_5, zu_6, zu_7, zu_8, zu_9, zu_10, zu_11, zu_12, zu_13, zu_14, zu_15, zu_16, zu_17, zu_18, zu_19, zu_20, zu_21, zu_22, zu_23, zu_24, zu_25, zu_26, zu_27, zu_28, zu_29, zu_30, zu_90, zv_0_9, zv_1_9, zv_2_9, zv_3_9, zv_4_9, zv_5_9, zv_6_9, zv_7_9, zv_8_9, zv_0_330, zv_0_4544, zv_1_4544, zv_2_4544, zv_3_4544, zv_4_4544, zv_5_4544, zv_6_4544, zv_7_4544, zv_8_4544, zv_9_4544, zv_10_4544, zv_11_4544, zv_12_4544, zv_13_4544, zv_14_4544, zv_15_4544, zv_16_4544, zv_17_4544, zv_18_4544, zv_19_4544, zv_20_4544, zv_21_4544, zv_22_4544, zv_23_4544, zv_24_4544, zv_25_4544, zv_26_4544, zv_27_4544, zv_28_4544, zv_29_4544, zv_0_11, zv_1_11, zv_0_160, true_and, and_true, Nat.reduceAdd, e148, nI_1, v3, v4, m149]
      refine ⟨fun hne => no M2 (zo_ex_no hne (k + 1) (by omega)) f12, fun heq => go M2 true ?_ f12⟩
      simp only [zo_ex, h, heq]; rfl
  have loop : ∀ (f k : Nat) (M1 : zm_M) (l3 l4 : Option Value), k + f = tn → zf [6, 7, 8] M M1 → G 4 [some (.ref 0), some (.int (nI (zb_set (fun t => zo_ex n b pr (TT t 0) (nI dd) ao ab m) k))), some (.int (nI k)), l3, l4] [] M1 := by
    intro f
    induction f with
    | zero =>
      intro k M1 l3 l4 hk f1
      obtain rfl : k = tn := by omega
      have m1 : M1.1 1 1 = nI k := by rw [a1 f1]; exact h1
      refine h4 _ _ _ ?_
      simp only [bX12_whose_4, zw_0, zw_1, zs_iloadn2, zs_aloadn0, zs_aloadNn0, zg_12_7, zs_iconst, zs_iaload, zs_icge, zs_istoren3, zs_istore4, zc_none, zc_int, zc_ref, zc_null, zc_long, zb_0, za_1, za_2, za_3, za_4, za_5, za_6, za_7, za_8, za_9, za_10, za_11, za_12, za_13, za_14, zu_0, zu_1, zu_2, zu_3, zu_4, zu_5, zu_6, zu_7, zu_8, zu_9, zu_10, zu_11, zu_12, zu_13, zu_14, zu_15, zu_16, zu_17, zu_18, zu_19, zu_20, zu_21, zu_22, zu_23, zu_24, zu_25, zu_26, zu_27, zu_28, zu_29, zu_30, zu_90, zv_0_9, zv_1_9, zv_2_9, zv_3_9, zv_4_9, zv_5_9, zv_6_9, zv_7_9, zv_8_9, zv_0_330, zv_0_4544, zv_1_4544, zv_2_4544, zv_3_4544, zv_4_4544, zv_5_4544, zv_6_4544, zv_7_4544, zv_8_4544, zv_9_4544, zv_10_4544, zv_11_4544, zv_12_4544, zv_13_4544, zv_14_4544, zv_15_4544, zv_16_4544, zv_17_4544, zv_18_4544, zv_19_4544, zv_20_4544, zv_21_4544, zv_22_4544, zv_23_4544, zv_24_4544, zv_25_4544, zv_26_4544, zv_27_4544, zv_28_4544, zv_29_4544, zv_0_11, zv_1_11, zv_0_160, true_and, and_true, Nat.reduceAdd, m1]
      refine ⟨fun _ => ?_, fun h => absurd (nI_le (Nat.le_refl _) (by omega)) h⟩
      refine h102 _ _ _ ?_
      simp only [bX12_whose_102, zw_0, zw_1, zs_iloadn1, zs_ireturn, zn_int, zn_b0, zn_b1, zb_0, za_1, za_2, za_3, za_4, za_5, za_6, za_7, za_8, za_9, za_10, za_11, za_12, za_13, za_14, true_and, and_true, Nat.reduceAdd]
      exact q M1 f1
    | succ f ih =>
      intro k M1 l3 l4 hk f1
      have m1 : M1.1 1 1 = nI tn := by rw [a1 f1]; exact h1
      refine h4 _ _ _ ?_
      simp only [bX12_whose_4, zw_0, zw_1, zs_iloadn2, zs_aloadn0, zs_aloadNn0, zg_12_7, zs_iconst, zs_iaload, zs_icge, zs_istoren3, zs_istore4, zc_none, zc_int, zc_ref, zc_null, zc_long, zb_0, za_1, za_2, za_3, za_4, za_5, za_6, za_7, za_8, za_9, za_10, za_11, za_12, za_13, za_14, zu_0, zu_1, zu_2, zu_3, zu_4, zu_5, zu_6, zu_7, zu_8, zu_9, zu_10, zu_11, zu_12, zu_13, zu_14, zu_15, zu_16, zu_17, zu_18, zu_19, zu_20, zu_21, zu_22, zu_23, zu_24, zu_25, zu_26, zu_27, zu_28, zu_29, zu_30, zu_90, zv_0_9, zv_1_9, zv_2_9, zv_3_9, zv_4_9, zv_5_9, zv_6_9, zv_7_9, zv_8_9, zv_0_330, zv_0_4544, zv_1_4544, zv_2_4544, zv_3_4544, zv_4_4544, zv_5_4544, zv_6_4544, zv_7_4544, zv_8_4544, zv_9_4544, zv_10_4544, zv_11_4544, zv_12_4544, zv_13_4544, zv_14_4544, zv_15_4544, zv_16_4544, zv_17_4544, zv_18_4544, zv_19_4544, zv_20_4544, zv_21_4544, zv_22_4544, zv_23_4544, zv_24_4544, zv_25_4544, zv_26_4544, zv_27_4544, zv_28_4544, zv_29_4544, zv_0_11, zv_1_11, zv_0_160, true_and, and_true, Nat.reduceAdd, m1]
      refine ⟨fun h => absurd h (nI_ge (by omega) (by omega)), fun _ => ?_⟩
      refine inner m 0 k _ M1 (by omega) (by omega) f1 (fun M2 l4 f2 => ?_)
      have go : ∀ (v : Nat), v = (if zo_ex n b pr (TT k 0) (nI dd) ao ab m then 2 ^ k else 0) → G 94 [some (.ref 0), some (.int (nI (zb_set (fun t => zo_ex n b pr (TT t 0) (nI dd) ao ab m) k))), some (.int (nI k)), some (.int (zi_b (zo_ex n b pr (TT k 0) (nI dd) ao ab m))), l4] [.int (nI v), .int (nI (zb_set (fun t => zo_ex n b pr (TT t 0) (nI dd) ao ab m) k))] M2 := by
        intro v hv
        refine h94 _ _ _ ?_
        simp only [bX12_whose_94, zw_0, zw_1, zs_ior, zs_istoren1, zs_iinc2, zs_goto, zc_none, zc_int, zc_ref, zc_null, zc_long, zb_0, za_1, za_2, za_3, za_4, za_5, za_6, za_7, za_8, za_9, za_10, za_11, za_12, za_13, za_14, true_and, and_true, Nat.reduceAdd, nI_1, nx_or]
        rw [hv]
        exact ih (k + 1) M2 _ _ (by omega) f2
      have sh := zx_1s k (by omega)
      refine h82 _ _ _ ?_
      simp only [bX12_whose_82, zw_0, zw_1, zs_iloadn1, zs_iloadn3, zs_ifeq, zs_iconst, zs_iloadn2, zs_ishl, zs_goto, zb_0, za_1, za_2, za_3, za_4, za_5, za_6, za_7, za_8, za_9, za_10, za_11, za_12, za_13, za_14, true_and, and_true, Nat.reduceAdd, zi_b0, sh]
      refine ⟨fun h => ?_, fun h => go _ ?_⟩
      · refine h93 _ _ _ ?_
        simp only [bX12_whose_93, zw_0, zw_1, zs_iconst, zb_0, za_1, za_2, za_3, za_4, za_5, za_6, za_7, za_8, za_9, za_10, za_11, za_12, za_13, za_14, true_and, and_true, Nat.reduceAdd]
        exact go 0 (by rw [h]; rfl)
      · have h : zo_ex n b pr (TT k 0) (nI dd) ao ab m = true := by simpa using h
        rw [h]; rfl
  refine h0 _ _ _ ?_
  simp only [bX12_whose_0, zw_0, zw_1, zs_iconst, zs_istoren1, zs_istoren2, zc_none, zc_int, zc_ref, zc_null, zc_long, zb_0, za_1, za_2, za_3, za_4, za_5, za_6, za_7, za_8, za_9, za_10, za_11, za_12, za_13, za_14, true_and, and_true, Nat.reduceAdd]
  exact loop tn 0 M none none (by omega) zf_refl
