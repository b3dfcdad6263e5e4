/-! ===== the route: the reference's walk ===== -/
theorem c_sizeBehind {E : zm_E} (hE : zm_ok E.2.2.1 E.2.2.2.2) (d : Nat) {n p e sz fr to dd : Nat} {b pr cs : Nat → Int32} {D : Option zD} {M : zm_M} (hF : zM_f n b pr cs M) (hT : zm_T M (M.1 1 2) 0 D) (hD : zDo 0 D) (hp : p < n) (he : e < n) (hsz : sz ≤ 9999) (hfr : fr < n) (hto : to < n) (hdd : dd ≤ 9999) (hd : M.1 1 6 = nI dd) {Q : Option Value → zm_M → Prop} (q : ∀ M', zf [6, 7, 8] M M' → Q (some (.int (nI (zr_gr n b pr D (nI dd) fr to p e sz)))) M') : zm_R E (d + 6) mX12_sizeBehind [.ref 0, .int (nI sz), .int (nI p), .int (nI e), .int (nI fr), .int (nI to)] M Q := by
  refine zX12_sizeBehind hE rfl (fun G h0 h15 => ?_)
  show G 0 [some (.ref 0), some (.int (nI sz)), some (.int (nI p)), some (.int (nI e)), some (.int (nI fr)), some (.int (nI to))] [] M
  have h9 := hF.1
  have hw : zt_wf n b := zt_wf_c h9.1 h9.2.2.1
  have hn := hw.1
  obtain ⟨v1, v2⟩ := zx_ck (k := 90) (p := p) (N := 4544) (by omega) (by decide)
  have m90 : M.1 1 (90 + p) = b p := h9.2.2.1 p hp
  unfold zr_gr at q
  refine h0 _ _ _ ?_
  simp only [bX12_sizeBehind_0, zw_0, zw_1, zs_aloadn0, zs_aloadNn0, zg_12_7, zs_bipush, zs_iloadn2, zs_iadd, zs_iaload, zs_iloadn3, zs_iceq, zs_iloadn1, zs_ireturn, zn_int, zn_b0, zn_b1, zb_0, za_1, za_2, za_3, za_4, za_5, za_6, za_7, za_8, za_9, za_10, za_11, za_12, za_13, za_14, zu_0, zu_1, zu_2, zu_3, zu_4, zu_5, zu_6, zu_7, zu_8, zu_9, zu_10, zu_11, zu_12, zu_13, zu_14, zu_15, zu_16, zu_17, zu_18, zu_19, zu_20, zu_21, zu_22, zu_23, zu_24, zu_25, zu_26, zu_27, zu_28, zu_29, zu_30, zu_90, zv_0_9, zv_1_9, zv_2_9, zv_3_9, zv_4_9, zv_5_9, zv_6_9, zv_7_9, zv_8_9, zv_0_330, zv_0_4544, zv_1_4544, zv_2_4544, zv_3_4544, zv_4_4544, zv_5_4544, zv_6_4544, zv_7_4544, zv_8_4544, zv_9_4544, zv_10_4544, zv_11_4544, zv_12_4544, zv_13_4544, zv_14_4544, zv_15_4544, zv_16_4544, zv_17_4544, zv_18_4544, zv_19_4544, zv_20_4544, zv_21_4544, zv_22_4544, zv_23_4544, zv_24_4544, zv_25_4544, zv_26_4544, zv_27_4544, zv_28_4544, zv_29_4544, zv_0_11, zv_1_11, zv_0_160, true_and, and_true, Nat.reduceAdd, zx_boss, v1, v2, m90]
  refine ⟨fun heq => ?_, fun hne => ?_⟩
  · rw [if_pos heq] at q
    have nmo := zn_l_ok (pr := pr) hw hdd he h9.2.2.2.2 fr to (by omega) (by omega) sz hsz
    refine h15 _ _ _ ?_
    simp only [bX12_sizeBehind_15, zw_0, zw_1, zs_aloadn0, zs_aloadNn0, zs_iloadn3, zs_iloadn1, zs_iload4, zs_iload5, zi_12_297, zg_12_7, zs_iconst, zs_iaload, zi_12_301, zs_iadd, zs_i2l, zs_sipush, zi_12_289, zs_ireturn, zh_0, zh_1, zh_2, zh_3, zh_4, zt_i, zt_l, zt_r, zt_n, zn_int, zn_b0, zn_b1, zb_0, za_1, za_2, za_3, za_4, za_5, za_6, za_7, za_8, za_9, za_10, za_11, za_12, za_13, za_14, zu_0, zu_1, zu_2, zu_3, zu_4, zu_5, zu_6, zu_7, zu_8, zu_9, zu_10, zu_11, zu_12, zu_13, zu_14, zu_15, zu_16, zu_17, zu_18, zu_19, zu_20, zu_21, zu_22, zu_23, zu_24, zu_25, zu_26, zu_27, zu_28, zu_29, zu_30, zu_90, zv_0_9, zv_1_9, zv_2_9, zv_3_9, zv_4_9, zv_5_9, zv_6_9, zv_7_9, zv_8_9, zv_0_330, zv_0_4544, zv_1_4544, zv_2_4544, zv_3_4544, zv_4_4544, zv_5_4544, zv_6_4544, zv_7_4544, zv_8_4544, zv_9_4544, zv_10_4544, zv_11_4544, zv_12_4544, zv_13_4544, zv_14_4544, zv_15_4544, zv_16_4544, zv_17_4544, zv_18_4544, zv_19_4544, zv_20_4544, zv_21_4544, zv_22_4544, zv_23_4544, zv_24_4544, zv_25_4544, zv_26_4544, zv_27_4544, zv_28_4544, zv_29_4544, zv_0_11, zv_1_11, zv_0_160, true_and, and_true, Nat.reduceAdd]
    refine c_name hE (d + 3) he (nI sz) (nI fr) (nI to) h9.1 (fun M1 e1 f1 => ?_)
    have R1 : zR M M1 := zR_f f1 (by simp)
    have h91 := zm_s9_R h9 R1
    have e2 : ∀ i, i < 9 → M1.1 6 i = zr_nm b pr (nI dd) fr to e sz i := by
      intro i hi
      rw [e1 i hi, hd, h9.2.2.2.1 e he, zt_rk_c h9.1 h9.2.2.1 e he]
      rfl
    have t1 : M1.1 1 2 = M.1 1 2 := by rw [(f1 1 (by decide)).1]
    simp only [bX12_sizeBehind_15, zw_0, zw_1, zs_aloadn0, zs_aloadNn0, zs_iloadn3, zs_iloadn1, zs_iload4, zs_iload5, zi_12_297, zg_12_7, zs_iconst, zs_iaload, zi_12_301, zs_iadd, zs_i2l, zs_sipush, zi_12_289, zs_ireturn, zh_0, zh_1, zh_2, zh_3, zh_4, zt_i, zt_l, zt_r, zt_n, zn_int, zn_b0, zn_b1, zb_0, za_1, za_2, za_3, za_4, za_5, za_6, za_7, za_8, za_9, za_10, za_11, za_12, za_13, za_14, zu_0, zu_1, zu_2, zu_3, zu_4, zu_5, zu_6, zu_7, zu_8, zu_9, zu_10, zu_11, zu_12, zu_13, zu_14, zu_15, zu_16, zu_17, zu_18, zu_19, zu_20, zu_21, zu_22, zu_23, zu_24, zu_25, zu_26, zu_27, zu_28, zu_29, zu_30, zu_90, zv_0_9, zv_1_9, zv_2_9, zv_3_9, zv_4_9, zv_5_9, zv_6_9, zv_7_9, zv_8_9, zv_0_330, zv_0_4544, zv_1_4544, zv_2_4544, zv_3_4544, zv_4_4544, zv_5_4544, zv_6_4544, zv_7_4544, zv_8_4544, zv_9_4544, zv_10_4544, zv_11_4544, zv_12_4544, zv_13_4544, zv_14_4544, zv_15_4544, zv_16_4544, zv_17_4544, zv_18_4544, zv_19_4544, zv_20_4544, zv_21_4544, zv_22_4544, zv_23_4544, zv_24_4544, zv_25_4544, zv_26_4544, zv_27_4544, zv_28_4544, zv_29_4544, zv_0_11, zv_1_11, zv_0_160, true_and, and_true, Nat.reduceAdd, t1]
    refine c_addsBy hE d h91.1 h91.2.1 (fun i hi => by rw [e2 i hi]; exact nmo i) (zm_T_R hT R1) (fun y M2 hy f2 => ?_)
    simp only [bX12_sizeBehind_15, zw_0, zw_1, zs_aloadn0, zs_aloadNn0, zs_iloadn3, zs_iloadn1, zs_iload4, zs_iload5, zi_12_297, zg_12_7, zs_iconst, zs_iaload, zi_12_301, zs_iadd, zs_i2l, zs_sipush, zi_12_289, zs_ireturn, zh_0, zh_1, zh_2, zh_3, zh_4, zt_i, zt_l, zt_r, zt_n, zn_int, zn_b0, zn_b1, zb_0, za_1, za_2, za_3, za_4, za_5, za_6, za_7, za_8, za_9, za_10, za_11, za_12, za_13, za_14, zu_0, zu_1, zu_2, zu_3, zu_4, zu_5, zu_6, zu_7, zu_8, zu_9, zu_10, zu_11, zu_12, zu_13, zu_14, zu_15, zu_16, zu_17, zu_18, zu_19, zu_20, zu_21, zu_22, zu_23, zu_24, zu_25, zu_26, zu_27, zu_28, zu_29, zu_30, zu_90, zv_0_9, zv_1_9, zv_2_9, zv_3_9, zv_4_9, zv_5_9, zv_6_9, zv_7_9, zv_8_9, zv_0_330, zv_0_4544, zv_1_4544, zv_2_4544, zv_3_4544, zv_4_4544, zv_5_4544, zv_6_4544, zv_7_4544, zv_8_4544, zv_9_4544, zv_10_4544, zv_11_4544, zv_12_4544, zv_13_4544, zv_14_4544, zv_15_4544, zv_16_4544, zv_17_4544, zv_18_4544, zv_19_4544, zv_20_4544, zv_21_4544, zv_22_4544, zv_23_4544, zv_24_4544, zv_25_4544, zv_26_4544, zv_27_4544, zv_28_4544, zv_29_4544, zv_0_11, zv_1_11, zv_0_160, true_and, and_true, Nat.reduceAdd]
    refine zm_R_eq (c_cut hE (d + 4) _ 0 9999 M2) ?_
    have hy2 : y.toInt = zq_said D 0 (fun i => (zr_nm b pr (nI dd) fr to e sz i).toInt) (zq_rk n b) := by
      rw [hy, zq_rk_e h91.1 h91.2.2.1]
      exact zq_said_c hD (fun i hi => by rw [e2 i (by have : zn_k 0 = 9 := rfl; omega)])
    have hin : 0 ≤ zq_said D 0 (fun i => (zr_nm b pr (nI dd) fr to e sz i).toInt) (zq_rk n b) ∧ zq_said D 0 (fun i => (zr_nm b pr (nI dd) fr to e sz i).toInt) (zq_rk n b) ≤ 999 := zq_bd_in 0 _
    have hcut : zi_cut (nI sz + y).toInt64 0 9999 = nI (zr_sz n b pr D (nI dd) fr to e sz) := by
      have := zx_cutmn (x := nI sz + y) (v := (sz : Int) + zq_said D 0 (fun i => (zr_nm b pr (nI dd) fr to e sz i).toInt) (zq_rk n b)) (zx_addI (nI_toInt (by omega)) hy2 (by omega) (by omega)) (by omega)
      exact this
    rw [hcut]
    simp only [bX12_sizeBehind_15, zw_0, zw_1, zs_aloadn0, zs_aloadNn0, zs_iloadn3, zs_iloadn1, zs_iload4, zs_iload5, zi_12_297, zg_12_7, zs_iconst, zs_iaload, zi_12_301, zs_iadd, zs_i2l, zs_sipush, zi_12_289, zs_ireturn, zh_0, zh_1, zh_2, zh_3, zh_4, zt_i, zt_l, zt_r, zt_n, zn_int, zn_b0, zn_b1, zb_0, za_1, za_2, za_3, za_4, za_5, za_6, za_7, za_8, za_9, za_10, za_11, za_12, za_13, za_14, zu_0, zu_1, zu_2, zu_3, zu_4, zu_5, zu_6, zu_7, zu_8, zu_9, zu_10, zu_11, zu_12, zu_13, zu_14, zu_15, zu_16, zu_17, zu_18, zu_19, zu_20, zu_21, zu_22, zu_23, zu_24, zu_25, zu_26, zu_27, zu_28, zu_29, zu_30, zu_90, zv_0_9, zv_1_9, zv_2_9, zv_3_9, zv_4_9, zv_5_9, zv_6_9, zv_7_9, zv_8_9, zv_0_330, zv_0_4544, zv_1_4544, zv_2_4544, zv_3_4544, zv_4_4544, zv_5_4544, zv_6_4544, zv_7_4544, zv_8_4544, zv_9_4544, zv_10_4544, zv_11_4544, zv_12_4544, zv_13_4544, zv_14_4544, zv_15_4544, zv_16_4544, zv_17_4544, zv_18_4544, zv_19_4544, zv_20_4544, zv_21_4544, zv_22_4544, zv_23_4544, zv_24_4544, zv_25_4544, zv_26_4544, zv_27_4544, zv_28_4544, zv_29_4544, zv_0_11, zv_1_11, zv_0_160, true_and, and_true, Nat.reduceAdd]
    exact q M2 (zf_trans (zf_sub f1 (by simp)) (zf_sub f2 (by simp)))
  · rw [if_neg hne] at q
    exact q M zf_refl
def zM_b (best : Nat × List Nat) (M : zm_M) : Prop := M.1 0 31 = nI best.1 ∧ best.1 ≤ 1000000000 ∧ best.2.length ≤ 9 ∧ (best.1 = 1000000000 ∨ M.1 0 32 = nI best.2.length ∧ ∀ i, i < best.2.length → M.1 13 (i + 1) = nI (best.2.getD i 0))
def zM_p (fr : Nat) (path : List Nat) (M : zm_M) : Prop := M.1 11 0 = nI fr ∧ ∀ i, i < path.length → M.1 11 (i + 1) = nI (path.getD i 0)
theorem c_takeWay {E : zm_E} (hE : zm_ok E.2.2.1 E.2.2.2.2) (d : Nat) {fr sz : Nat} {path : List Nat} {best : Nat × List Nat} {M : zm_M} (hpl : path.length ≤ 9) (hsz : sz ≤ 9999) (hs : M.1 12 path.length = nI sz) (hpp : zM_p fr path M) (hb : zM_b best M) {Q : Option Value → zm_M → Prop} (q : ∀ M', zM_b (zr_tk sz path best) M' → zf [0, 13] M M' → zg 0 [31, 32] M M' → Q none M') : zm_R E (d + 1) mX12_takeWay [.ref 0, .int (nI path.length)] M Q := by
  refine zX12_takeWay hE rfl (fun G h0 h14 h31 h54 => ?_)
  show G 0 [some (.ref 0), some (.int (nI path.length)), none] [] M
  obtain ⟨b1, b2, b3, b4⟩ := hb
  have v1 : vp_in (nI path.length) 11 := vp_in_nI (by omega) (by decide)
  have v2 : (nI path.length).toNatClampNeg = path.length := nI_clamp (by omega)
  have es : (nI sz < nI best.1) = (sz < best.1) := propext (nI_ltI (by omega) (by omega))
  refine h0 _ _ _ ?_
  simp only [bX12_takeWay_0, zw_0, zw_1, zs_aloadn0, zs_aloadNn0, zg_12_56, zs_iloadn1, zs_iaload, zg_12_421, zs_iclt, zs_return, zn_int, zn_b0, zn_b1, zb_0, za_1, za_2, za_3, za_4, za_5, za_6, za_7, za_8, za_9, za_10, za_11, za_12, za_13, za_14, zu_0, zu_1, zu_2, zu_3, zu_4, zu_5, zu_6, zu_7, zu_8, zu_9, zu_10, zu_11, zu_12, zu_13, zu_14, zu_15, zu_16, zu_17, zu_18, zu_19, zu_20, zu_21, zu_22, zu_23, zu_24, zu_25, zu_26, zu_27, zu_28, zu_29, zu_30, zu_90, zv_0_9, zv_1_9, zv_2_9, zv_3_9, zv_4_9, zv_5_9, zv_6_9, zv_7_9, zv_8_9, zv_0_330, zv_0_4544, zv_1_4544, zv_2_4544, zv_3_4544, zv_4_4544, zv_5_4544, zv_6_4544, zv_7_4544, zv_8_4544, zv_9_4544, zv_10_4544, zv_11_4544, zv_12_4544, zv_13_4544, zv_14_4544, zv_15_4544, zv_16_4544, zv_17_4544, zv_18_4544, zv_19_4544, zv_20_4544, zv_21_4544, zv_22_4544, zv_23_4544, zv_24_4544, zv_25_4544, zv_26_4544, zv_27_4544, zv_28_4544, zv_29_4544, zv_0_11, zv_1_11, zv_0_160, true_and, and_true, Nat.reduceAdd, v1, v2, hs, b1, es]
  unfold zr_tk at q
  refine ⟨fun hlt => ?_, fun hge => ?_⟩
  · rw [if_pos hlt] at q
    refine h14 _ _ _ ?_
    simp only [bX12_takeWay_14, zw_0, zw_1, zs_aloadn0, zs_aloadNn0, zg_12_56, zs_iloadn1, zs_iaload, zq_12_421, zq_12_424, zs_iconst, zs_istoren2, zc_none, zc_int, zc_ref, zc_null, zc_long, zb_0, za_1, za_2, za_3, za_4, za_5, za_6, za_7, za_8, za_9, za_10, za_11, za_12, za_13, za_14, zu_0, zu_1, zu_2, zu_3, zu_4, zu_5, zu_6, zu_7, zu_8, zu_9, zu_10, zu_11, zu_12, zu_13, zu_14, zu_15, zu_16, zu_17, zu_18, zu_19, zu_20, zu_21, zu_22, zu_23, zu_24, zu_25, zu_26, zu_27, zu_28, zu_29, zu_30, zu_90, zv_0_9, zv_1_9, zv_2_9, zv_3_9, zv_4_9, zv_5_9, zv_6_9, zv_7_9, zv_8_9, zv_0_330, zv_0_4544, zv_1_4544, zv_2_4544, zv_3_4544, zv_4_4544, zv_5_4544, zv_6_4544, zv_7_4544, zv_8_4544, zv_9_4544, zv_10_4544, zv_11_4544, zv_12_4544, zv_13_4544, zv_14_4544, zv_15_4544, zv_16_4544, zv_17_4544, zv_18_4544, zv_19_4544, zv_20_4544, zv_21_4544, zv_22_4544, zv_23_4544, zv_24_4544, zv_25_4544, zv_26_4544, zv_27_4544, zv_28_4544, zv_29_4544, zv_0_11, zv_1_11, zv_0_160, true_and, and_true, Nat.reduceAdd, v1, v2, hs]
    generalize hM1 : zm_wi (zm_wi M 0 31 (nI sz)) 0 32 (nI path.length) = M1
    have f1 : zf [0] M M1 := by rw [← hM1]; exact zf_wi (zf_wi zf_refl (by decide)) (by decide)
    have g1 : zg 0 [31, 32] M M1 := by rw [← hM1]; exact zg_wi (zg_wi zg_refl (by decide)) (by decide)
    have s31 : M1.1 0 31 = nI sz := by rw [← hM1, zm_wi_same, if_neg (by decide), zm_wi_same, if_pos rfl]
    have s32 : M1.1 0 32 = nI path.length := by rw [← hM1, zm_wi_same, if_pos rfl]
    have loop : ∀ (g i : Nat) (M2 : zm_M), i + g = path.length + 1 → (∀ j, j < i → M2.1 13 j = M.1 11 j) → zf [13] M1 M2 → G 31 [some (.ref 0), some (.int (nI path.length)), some (.int (nI i))] [] M2 := by
      intro g
      induction g with
      | zero =>
        intro i M2 hi e f2
        refine h31 _ _ _ ?_
        simp only [bX12_takeWay_31, zw_0, zw_1, zs_iloadn2, zs_iloadn1, zs_icgt, zs_aloadn0, zs_aloadNn0, zg_12_59, zg_12_53, zs_iaload, zs_iastore, zs_iinc2, zs_goto, zc_none, zc_int, zc_ref, zc_null, zc_long, zb_0, za_1, za_2, za_3, za_4, za_5, za_6, za_7, za_8, za_9, za_10, za_11, za_12, za_13, za_14, zu_0, zu_1, zu_2, zu_3, zu_4, zu_5, zu_6, zu_7, zu_8, zu_9, zu_10, zu_11, zu_12, zu_13, zu_14, zu_15, zu_16, zu_17, zu_18, zu_19, zu_20, zu_21, zu_22, zu_23, zu_24, zu_25, zu_26, zu_27, zu_28, zu_29, zu_30, zu_90, zv_0_9, zv_1_9, zv_2_9, zv_3_9, zv_4_9, zv_5_9, zv_6_9, zv_7_9, zv_8_9, zv_0_330, zv_0_4544, zv_1_4544, zv_2_4544, zv_3_4544, zv_4_4544, zv_5_4544, zv_6_4544, zv_7_4544, zv_8_4544, zv_9_4544, zv_10_4544, zv_11_4544, zv_12_4544, zv_13_4544, zv_14_4544, zv_15_4544, zv_16_4544, zv_17_4544, zv_18_4544, zv_19_4544, zv_20_4544, zv_21_4544, zv_22_4544, zv_23_4544, zv_24_4544, zv_25_4544, zv_26_4544, zv_27_4544, zv_28_4544, zv_29_4544, zv_0_11, zv_1_11, zv_0_160, true_and, and_true, Nat.reduceAdd]
        refine ⟨fun _ => ?_, fun h => absurd (nI_lt (by omega) (by omega)) h⟩
        refine h54 _ _ _ ?_
        simp only [bX12_takeWay_54, zw_0, zw_1, zs_return, zn_int, zn_b0, zn_b1, zb_0, za_1, za_2, za_3, za_4, za_5, za_6, za_7, za_8, za_9, za_10, za_11, za_12, za_13, za_14, true_and, and_true, Nat.reduceAdd]
        have e0 : M2.1 0 = M1.1 0 := (f2 0 (by decide)).1
        refine q M2 ⟨by rw [e0]; exact s31, by show sz ≤ 1000000000; omega, hpl, Or.inr ⟨by rw [e0]; exact s32, fun j hj => ?_⟩⟩ (zf_trans (zf_sub f1 (by simp)) (zf_sub f2 (by simp))) (fun j hj => by rw [e0]; exact g1 j hj)
        have hj : j < path.length := hj
        rw [e (j + 1) (by omega)]
        exact hpp.2 j hj
      | succ g ih =>
        intro i M2 hi e f2
        have w1 : vp_in (nI i) 11 := vp_in_nI (by omega) (by decide)
        have w2 : (nI i).toNatClampNeg = i := nI_clamp (by omega)
        have m11 : M2.1 11 i = M.1 11 i := by rw [(f2 11 (by decide)).1, (f1 11 (by decide)).1]
        refine h31 _ _ _ ?_
        simp only [bX12_takeWay_31, zw_0, zw_1, zs_iloadn2, zs_iloadn1, zs_icgt, zs_aloadn0, zs_aloadNn0, zg_12_59, zg_12_53, zs_iaload, zs_iastore, zs_iinc2, zs_goto, zc_none, zc_int, zc_ref, zc_null, zc_long, zb_0, za_1, za_2, za_3, za_4, za_5, za_6, za_7, za_8, za_9, za_10, za_11, za_12, za_13, za_14, zu_0, zu_1, zu_2, zu_3, zu_4, zu_5, zu_6, zu_7, zu_8, zu_9, zu_10, zu_11, zu_12, zu_13, zu_14, zu_15, zu_16, zu_17, zu_18, zu_19, zu_20, zu_21, zu_22, zu_23, zu_24, zu_25, zu_26, zu_27, zu_28, zu_29, zu_30, zu_90, zv_0_9, zv_1_9, zv_2_9, zv_3_9, zv_4_9, zv_5_9, zv_6_9, zv_7_9, zv_8_9, zv_0_330, zv_0_4544, zv_1_4544, zv_2_4544, zv_3_4544, zv_4_4544, zv_5_4544, zv_6_4544, zv_7_4544, zv_8_4544, zv_9_4544, zv_10_4544, zv_11_4544, zv_12_4544, zv_13_4544, zv_14_4544, zv_15_4544, zv_16_4544, zv_17_4544, zv_18_4544, zv_19_4544, zv_20_4544, zv_21_4544, zv_22_4544, zv_23_4544, zv_24_4544, zv_25_4544, zv_26_4544, zv_27_4544, zv_28_4544, zv_29_4544, zv_0_11, zv_1_11, zv_0_160, true_and, and_true, Nat.reduceAdd, w1, w2, m11, nI_1]
        refine ⟨fun h => absurd ((nI_ltI (by omega) (by omega)).mp h) (by omega), fun _ => ?_⟩
        refine ih (i + 1) _ (by omega) (fun j hj => ?_) (zf_wi f2 (by decide))
        rw [zm_wi_same]
        by_cases c : j = i
        · rw [if_pos c, c]
        · rw [if_neg c]; exact e j (by omega)
    exact loop (path.length + 1) 0 M1 (by omega) (fun j hj => absurd hj (by omega)) zf_refl
  · rw [if_neg hge] at q
    exact q M ⟨b1, b2, b3, b4⟩ zf_refl zg_refl
theorem zr_lp_sk {α : Type} {g : Nat → α → α} : ∀ (s k f : Nat) (x : α), (∀ j, k ≤ j → j < k + s → g j x = x) → zr_lp g (s + f) k x = zr_lp g f (k + s) x := by
  intro s
  induction s with
  | zero => intro k f x h; rw [Nat.zero_add]; rfl
  | succ s ih =>
    intro k f x h
    rw [show s + 1 + f = (s + f) + 1 by omega]
    simp only [zr_lp]
    rw [h k (by omega) (by omega), ih (k + 1) f x (fun j a c => h j (by omega) (by omega)), show k + 1 + s = k + (s + 1) by omega]
theorem zr_c_to {n to p e : Nat} {b cs : Nat → Int32} (hw : zt_wf n b) (hto : to < n) (hp : p < n) (he : e < n) (h : 0 < zr_c b cs to p e) : e = to ∨ zt_ab b to e = true := by
  have hn := hw.1
  unfold zr_c at h
  split at h
  · next hab =>
    split at h
    · next hb =>
      rcases hw.at hp with z | ⟨j, j1, j2, j3⟩
      · rw [zt_ab_none z] at hab; cases hab
      · have : e = j := by
          rw [j3] at hb
          exact ((nI_eq (by omega) (by omega)).mp hb).symm
        subst this
        rw [zt_ab_boss hw hp j1 j3 hto] at hab
        rcases Bool.or_eq_true _ _ |>.mp hab with z | z
        · exact Or.inl (of_decide_eq_true z)
        · exact Or.inr z
    · split at h
      · next h2 => exact Or.inr h2.2
      · omega
  · omega
/-- what stays while the reference walks -/
def zM_F (n : Nat) (b pr cs : Nat → Int32) (to dd : Nat) (D : Option zD) (M : zm_M) : Prop := zM_f n b pr cs M ∧ zM_dy n (zr_ds n b cs to) M ∧ zm_T M (M.1 1 2) 0 D ∧ M.1 1 6 = nI dd
theorem zM_F_f {n to dd : Nat} {b pr cs : Nat → Int32} {D : Option zD} {M M' : zm_M} {L : List Nat} (h : zM_F n b pr cs to dd D M) (f : zf L M M') (h1 : 1 ∉ L) (h3 : 3 ∉ L) (h10 : 10 ∉ L) : zM_F n b pr cs to dd D M' := by
  have e : M'.1 1 = M.1 1 := (f 1 h1).1
  refine ⟨zM_f_f h.1 f h1, fun i hi => by rw [(f 10 h10).1]; exact h.2.1 i hi, by rw [e]; exact zm_T_c h.2.2.1 (f 3 h3).1, by rw [e]; exact h.2.2.2⟩
theorem zM_p_at {fr : Nat} {path : List Nat} {M M' : zm_M} (h : zM_p fr path M) (e : ∀ i, i ≤ path.length → M'.1 11 i = M.1 11 i) : zM_p fr path M' :=
  ⟨by rw [e 0 (by omega)]; exact h.1, fun i hi => by rw [e (i + 1) (by omega)]; exact h.2 i hi⟩
theorem zM_b_at {best : Nat × List Nat} {M M' : zm_M} (h : zM_b best M) (e0 : M'.1 0 = M.1 0) (e13 : M'.1 13 = M.1 13) : zM_b best M' := by
  unfold zM_b
  rw [e0, e13]; exact h
/-- where the walk may write, and what of its stack it leaves -/
def zM_w (l : Nat) (M M' : zm_M) : Prop := zf [0, 6, 7, 8, 11, 12, 13] M M' ∧ zg 0 [31, 32] M M' ∧ ∀ i, i ≤ l → M'.1 11 i = M.1 11 i ∧ M'.1 12 i = M.1 12 i
theorem zM_w_refl {l : Nat} {M : zm_M} : zM_w l M M := ⟨zf_refl, zg_refl, fun i hi => ⟨rfl, rfl⟩⟩
theorem zM_w_trans {l : Nat} {M M' M'' : zm_M} (h : zM_w l M M') (h2 : zM_w l M' M'') : zM_w l M M'' := ⟨zf_trans h.1 h2.1, zg_trans h.2.1 h2.2.1, fun i hi => ⟨(h2.2.2 i hi).1.trans (h.2.2 i hi).1, (h2.2.2 i hi).2.trans (h.2.2 i hi).2⟩⟩
theorem zM_w_le {l m : Nat} {M M' : zm_M} (h : zM_w m M M') (hl : l ≤ m) : zM_w l M M' := ⟨h.1, h.2.1, fun i hi => h.2.2 i (by omega)⟩
theorem zr_m1 {l : Nat} (hl : l ≤ 100) : nI (l + 1) + -1 = nI l := by
  rw [← nI_1]
  rw [Int32.add_assoc]
  exact Int32.add_zero _
