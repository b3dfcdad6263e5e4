/-! ===== the route: the reference lays it ===== -/
set_option maxHeartbeats 4000000 in
theorem c_layRoute {E : zm_E} (hE : zm_ok E.2.2.1 E.2.2.2.2) (d : Nat) {n fr to dd : Nat} {b pr cs : Nat → Int32} {D : Option zD} {M : zm_M} (hF : zM_f n b pr cs M) (hT : zm_T M (M.1 1 2) 0 D) (hD : zDo 0 D) (hfr : fr < n) (hto : to < n) (hdd : dd ≤ 9999) (hd : M.1 1 6 = nI dd) (hab : zt_ab b to fr = true) {Q : Option Value → zm_M → Prop} (q : ∀ M', zM_dy n (zr_ds n b cs to) M' → zM_b (zr_all n b pr cs D (nI dd) fr to 1000000000) M' → zf [0, 6, 7, 8, 10, 11, 12, 13] M M' → zg 0 [31, 32] M M' → Q none M') : zm_R E (d + 7) mX12_layRoute [.ref 0, .int (nI fr), .int (nI to)] M Q := by
  refine zX12_layRoute hE rfl (fun G h0 h32 h50 h63 h86 h100 h142 h145 => ?_)
  show G 0 [some (.ref 0), some (.int (nI fr)), some (.int (nI to)), none, none, none] [] M
  have hw : zt_wf n b := zt_wf_c hF.1.1 hF.1.2.2.1
  have hn := hw.1
  have leave : ∀ (l p : Nat) (M1 : zm_M) (l4 l5 : Option Value), l ≤ 9 → M1.1 11 l = nI p → (∀ l5, G 32 [some (.ref 0), some (.int (nI fr)), some (.int (nI to)), some (.int (nI l + -1)), some (.int (nI p)), l5] [] M1) → G 86 [some (.ref 0), some (.int (nI fr)), some (.int (nI to)), some (.int (nI l)), l4, l5] [] M1 := by
    intro l p M1 l4 l5 hl hm K
    have v1 : vp_in (nI l) 11 := vp_in_nI (by omega) (by decide)
    have v2 : (nI l).toNatClampNeg = l := nI_clamp (by omega)
    refine h86 _ _ _ ?_
    simp only [bX12_layRoute_86, zw_0, zw_1, zs_aloadn0, zs_aloadNn0, zg_12_53, zs_iloadn3, zs_iaload, zs_istore4, zs_iinc3, zs_goto, zc_none, zc_int, zc_ref, zc_null, zc_long, zb_0, za_1, za_2, za_3, za_4, za_5, za_6, za_7, za_8, za_9, za_10, za_11, za_12, za_13, za_14, zu_0, zu_1, zu_2, zu_3, zu_4, zu_5, zu_6, zu_7, zu_8, zu_9, zu_10, zu_11, zu_12, zu_13, zu_14, zu_15, zu_16, zu_17, zu_18, zu_19, zu_20, zu_21, zu_22, zu_23, zu_24, zu_25, zu_26, zu_27, zu_28, zu_29, zu_30, zu_90, zv_0_9, zv_1_9, zv_2_9, zv_3_9, zv_4_9, zv_5_9, zv_6_9, zv_7_9, zv_8_9, zv_0_330, zv_0_4544, zv_1_4544, zv_2_4544, zv_3_4544, zv_4_4544, zv_5_4544, zv_6_4544, zv_7_4544, zv_8_4544, zv_9_4544, zv_10_4544, zv_11_4544, zv_12_4544, zv_13_4544, zv_14_4544, zv_15_4544, zv_16_4544, zv_17_4544, zv_18_4544, zv_19_4544, zv_20_4544, zv_21_4544, zv_22_4544, zv_23_4544, zv_24_4544, zv_25_4544, zv_26_4544, zv_27_4544, zv_28_4544, zv_29_4544, zv_0_11, zv_1_11, zv_0_160, true_and, and_true, Nat.reduceAdd, v1, v2, hm]
    refine h142 _ _ _ ?_
    simp only [bX12_layRoute_142, zw_0, zw_1, zs_goto, zb_0, za_1, za_2, za_3, za_4, za_5, za_6, za_7, za_8, za_9, za_10, za_11, za_12, za_13, za_14, true_and, and_true, Nat.reduceAdd]
    exact K _
  have arr : ∀ (p sz : Nat) (path : List Nat) (best : Nat × List Nat) (M1 : zm_M) (l5 : Option Value), zM_F n b pr cs to dd D M1 → p = to → sz ≤ 9999 → path.length ≤ 9 → zM_p fr path M1 → M1.1 11 path.length = nI p → M1.1 12 path.length = nI sz → zM_b best M1 → (∀ M2 l5, zM_F n b pr cs to dd D M2 → zM_b (zr_tk sz path best) M2 → zM_w path.length M1 M2 → G 32 [some (.ref 0), some (.int (nI fr)), some (.int (nI to)), some (.int (nI path.length + -1)), some (.int (nI p)), l5] [] M2) → G 32 [some (.ref 0), some (.int (nI fr)), some (.int (nI to)), some (.int (nI path.length)), some (.int (-1)), l5] [] M1 := by
    intro p sz path best M1 l5 F1 hpt hsz hl hpp hm hs hb K
    subst hpt
    have v1 : vp_in (nI path.length) 11 := vp_in_nI (by omega) (by decide)
    have v2 : (nI path.length).toNatClampNeg = path.length := nI_clamp (by omega)
    refine h32 _ _ _ ?_
    simp only [bX12_layRoute_32, zw_0, zw_1, zs_iloadn3, zs_iflt, zs_aloadn0, zs_aloadNn0, zg_12_53, zs_iaload, zs_iloadn2, zs_icne, zs_iconst, zs_goto, zb_0, za_1, za_2, za_3, za_4, za_5, za_6, za_7, za_8, za_9, za_10, za_11, za_12, za_13, za_14, zu_0, zu_1, zu_2, zu_3, zu_4, zu_5, zu_6, zu_7, zu_8, zu_9, zu_10, zu_11, zu_12, zu_13, zu_14, zu_15, zu_16, zu_17, zu_18, zu_19, zu_20, zu_21, zu_22, zu_23, zu_24, zu_25, zu_26, zu_27, zu_28, zu_29, zu_30, zu_90, zv_0_9, zv_1_9, zv_2_9, zv_3_9, zv_4_9, zv_5_9, zv_6_9, zv_7_9, zv_8_9, zv_0_330, zv_0_4544, zv_1_4544, zv_2_4544, zv_3_4544, zv_4_4544, zv_5_4544, zv_6_4544, zv_7_4544, zv_8_4544, zv_9_4544, zv_10_4544, zv_11_4544, zv_12_4544, zv_13_4544, zv_14_4544, zv_15_4544, zv_16_4544, zv_17_4544, zv_18_4544, zv_19_4544, zv_20_4544, zv_21_4544, zv_22_4544, zv_23_4544, zv_24_4544, zv_25_4544, zv_26_4544, zv_27_4544, zv_28_4544, zv_29_4544, zv_0_11, zv_1_11, zv_0_160, true_and, and_true, Nat.reduceAdd, v1, v2, hm]
    refine ⟨fun h => absurd h (nI_pos (n := path.length) (by omega)), fun _ => ⟨fun h => absurd trivial h, fun _ => ?_⟩⟩
    refine h63 _ _ _ ?_
    simp only [bX12_layRoute_63, zw_0, zw_1, zs_istore5, zs_iload5, zs_iconst, zs_icne, zs_aloadn0, zs_aloadNn0, zg_12_53, zs_iloadn3, zs_iaload, zs_iloadn2, zi_12_433, zc_none, zc_int, zc_ref, zc_null, zc_long, zh_0, zh_1, zh_2, zh_3, zh_4, zt_i, zt_l, zt_r, zt_n, zb_0, za_1, za_2, za_3, za_4, za_5, za_6, za_7, za_8, za_9, za_10, za_11, za_12, za_13, za_14, zu_0, zu_1, zu_2, zu_3, zu_4, zu_5, zu_6, zu_7, zu_8, zu_9, zu_10, zu_11, zu_12, zu_13, zu_14, zu_15, zu_16, zu_17, zu_18, zu_19, zu_20, zu_21, zu_22, zu_23, zu_24, zu_25, zu_26, zu_27, zu_28, zu_29, zu_30, zu_90, zv_0_9, zv_1_9, zv_2_9, zv_3_9, zv_4_9, zv_5_9, zv_6_9, zv_7_9, zv_8_9, zv_0_330, zv_0_4544, zv_1_4544, zv_2_4544, zv_3_4544, zv_4_4544, zv_5_4544, zv_6_4544, zv_7_4544, zv_8_4544, zv_9_4544, zv_10_4544, zv_11_4544, zv_12_4544, zv_13_4544, zv_14_4544, zv_15_4544, zv_16_4544, zv_17_4544, zv_18_4544, zv_19_4544, zv_20_4544, zv_21_4544, zv_22_4544, zv_23_4544, zv_24_4544, zv_25_4544, zv_26_4544, zv_27_4544, zv_28_4544, zv_29_4544, zv_0_11, zv_1_11, zv_0_160, true_and, and_true, Nat.reduceAdd, v1, v2, hm]
    refine ⟨fun h => absurd trivial h, fun _ => ⟨fun h => absurd trivial h, fun _ => ?_⟩⟩
    refine c_takeWay hE (d + 5) hl hsz hs hpp hb (fun M2 b2 f2 g2 => ?_)
    simp only [bX12_layRoute_63, zw_0, zw_1, zs_istore5, zs_iload5, zs_iconst, zs_icne, zs_aloadn0, zs_aloadNn0, zg_12_53, zs_iloadn3, zs_iaload, zs_iloadn2, zi_12_433, zc_none, zc_int, zc_ref, zc_null, zc_long, zh_0, zh_1, zh_2, zh_3, zh_4, zt_i, zt_l, zt_r, zt_n, zb_0, za_1, za_2, za_3, za_4, za_5, za_6, za_7, za_8, za_9, za_10, za_11, za_12, za_13, za_14, zu_0, zu_1, zu_2, zu_3, zu_4, zu_5, zu_6, zu_7, zu_8, zu_9, zu_10, zu_11, zu_12, zu_13, zu_14, zu_15, zu_16, zu_17, zu_18, zu_19, zu_20, zu_21, zu_22, zu_23, zu_24, zu_25, zu_26, zu_27, zu_28, zu_29, zu_30, zu_90, zv_0_9, zv_1_9, zv_2_9, zv_3_9, zv_4_9, zv_5_9, zv_6_9, zv_7_9, zv_8_9, zv_0_330, zv_0_4544, zv_1_4544, zv_2_4544, zv_3_4544, zv_4_4544, zv_5_4544, zv_6_4544, zv_7_4544, zv_8_4544, zv_9_4544, zv_10_4544, zv_11_4544, zv_12_4544, zv_13_4544, zv_14_4544, zv_15_4544, zv_16_4544, zv_17_4544, zv_18_4544, zv_19_4544, zv_20_4544, zv_21_4544, zv_22_4544, zv_23_4544, zv_24_4544, zv_25_4544, zv_26_4544, zv_27_4544, zv_28_4544, zv_29_4544, zv_0_11, zv_1_11, zv_0_160, true_and, and_true, Nat.reduceAdd]
    have e11 : M2.1 11 = M1.1 11 := (f2 11 (by decide)).1
    refine leave path.length p M2 _ _ hl (by rw [e11]; exact hm) (fun l5 => K M2 l5 (zM_F_f F1 f2 (by decide) (by decide) (by decide)) b2 ⟨zf_sub f2 (by simp), g2, fun i hi => ⟨by rw [e11], by rw [(f2 12 (by decide)).1]⟩⟩)
  have step : ∀ (p k : Nat) (a : Int32) (l : Nat) (M1 : zm_M) (l5 : Option Value), zM_F n b pr cs to dd D M1 → p < n → p ≠ to → zt_ab b to p = true → k ≤ n → a + 1 = nI k → l ≤ 9 → M1.1 11 l = nI p → (∀ l5, (∀ j, k ≤ j → j < n → zr_ok (zr_c b cs to) (zr_ds n b cs to) p j = false) → G 32 [some (.ref 0), some (.int (nI fr)), some (.int (nI to)), some (.int (nI l + -1)), some (.int (nI p)), l5] [] M1) → (∀ e, k ≤ e → e < n → zr_ok (zr_c b cs to) (zr_ds n b cs to) p e = true → (∀ j, k ≤ j → j < e → zr_ok (zr_c b cs to) (zr_ds n b cs to) p j = false) → G 100 [some (.ref 0), some (.int (nI fr)), some (.int (nI to)), some (.int (nI l)), some (.int a), some (.int (nI e))] [] M1) → G 32 [some (.ref 0), some (.int (nI fr)), some (.int (nI to)), some (.int (nI l)), some (.int a), l5] [] M1 := by
    intro p k a l M1 l5 F1 hp hpt hab hk ha hl hm K1 K2
    have v1 : vp_in (nI l) 11 := vp_in_nI (by omega) (by decide)
    have v2 : (nI l).toNatClampNeg = l := nI_clamp (by omega)
    have ep : (nI p = nI to) = (p = to) := propext (nI_eq (by omega) (by omega))
    refine h32 _ _ _ ?_
    simp only [bX12_layRoute_32, zw_0, zw_1, zs_iloadn3, zs_iflt, zs_aloadn0, zs_aloadNn0, zg_12_53, zs_iaload, zs_iloadn2, zs_icne, zs_iconst, zs_goto, zb_0, za_1, za_2, za_3, za_4, za_5, za_6, za_7, za_8, za_9, za_10, za_11, za_12, za_13, za_14, zu_0, zu_1, zu_2, zu_3, zu_4, zu_5, zu_6, zu_7, zu_8, zu_9, zu_10, zu_11, zu_12, zu_13, zu_14, zu_15, zu_16, zu_17, zu_18, zu_19, zu_20, zu_21, zu_22, zu_23, zu_24, zu_25, zu_26, zu_27, zu_28, zu_29, zu_30, zu_90, zv_0_9, zv_1_9, zv_2_9, zv_3_9, zv_4_9, zv_5_9, zv_6_9, zv_7_9, zv_8_9, zv_0_330, zv_0_4544, zv_1_4544, zv_2_4544, zv_3_4544, zv_4_4544, zv_5_4544, zv_6_4544, zv_7_4544, zv_8_4544, zv_9_4544, zv_10_4544, zv_11_4544, zv_12_4544, zv_13_4544, zv_14_4544, zv_15_4544, zv_16_4544, zv_17_4544, zv_18_4544, zv_19_4544, zv_20_4544, zv_21_4544, zv_22_4544, zv_23_4544, zv_24_4544, zv_25_4544, zv_26_4544, zv_27_4544, zv_28_4544, zv_29_4544, zv_0_11, zv_1_11, zv_0_160, true_and, and_true, Nat.reduceAdd, v1, v2, hm, ep]
    refine ⟨fun h => absurd h (nI_pos (n := l) (by omega)), fun _ => ⟨fun _ => ?_, fun h => absurd h hpt⟩⟩
    refine h50 _ _ _ ?_
    simp only [bX12_layRoute_50, zw_0, zw_1, zs_aloadn0, zs_aloadNn0, zg_12_53, zs_iloadn3, zs_iaload, zs_iload4, zs_iloadn2, zi_12_430, zh_0, zh_1, zh_2, zh_3, zh_4, zt_i, zt_l, zt_r, zt_n, zb_0, za_1, za_2, za_3, za_4, za_5, za_6, za_7, za_8, za_9, za_10, za_11, za_12, za_13, za_14, zu_0, zu_1, zu_2, zu_3, zu_4, zu_5, zu_6, zu_7, zu_8, zu_9, zu_10, zu_11, zu_12, zu_13, zu_14, zu_15, zu_16, zu_17, zu_18, zu_19, zu_20, zu_21, zu_22, zu_23, zu_24, zu_25, zu_26, zu_27, zu_28, zu_29, zu_30, zu_90, zv_0_9, zv_1_9, zv_2_9, zv_3_9, zv_4_9, zv_5_9, zv_6_9, zv_7_9, zv_8_9, zv_0_330, zv_0_4544, zv_1_4544, zv_2_4544, zv_3_4544, zv_4_4544, zv_5_4544, zv_6_4544, zv_7_4544, zv_8_4544, zv_9_4544, zv_10_4544, zv_11_4544, zv_12_4544, zv_13_4544, zv_14_4544, zv_15_4544, zv_16_4544, zv_17_4544, zv_18_4544, zv_19_4544, zv_20_4544, zv_21_4544, zv_22_4544, zv_23_4544, zv_24_4544, zv_25_4544, zv_26_4544, zv_27_4544, zv_28_4544, zv_29_4544, zv_0_11, zv_1_11, zv_0_160, true_and, and_true, Nat.reduceAdd, v1, v2, hm]
    refine zm_R_eq (c_nextOf hE (d + 3) F1.1 F1.2.1 hto hp hab hk ha) ?_
    simp only [bX12_layRoute_50, zw_0, zw_1, zs_aloadn0, zs_aloadNn0, zg_12_53, zs_iloadn3, zs_iaload, zs_iload4, zs_iloadn2, zi_12_430, zh_0, zh_1, zh_2, zh_3, zh_4, zt_i, zt_l, zt_r, zt_n, zb_0, za_1, za_2, za_3, za_4, za_5, za_6, za_7, za_8, za_9, za_10, za_11, za_12, za_13, za_14, zu_0, zu_1, zu_2, zu_3, zu_4, zu_5, zu_6, zu_7, zu_8, zu_9, zu_10, zu_11, zu_12, zu_13, zu_14, zu_15, zu_16, zu_17, zu_18, zu_19, zu_20, zu_21, zu_22, zu_23, zu_24, zu_25, zu_26, zu_27, zu_28, zu_29, zu_30, zu_90, zv_0_9, zv_1_9, zv_2_9, zv_3_9, zv_4_9, zv_5_9, zv_6_9, zv_7_9, zv_8_9, zv_0_330, zv_0_4544, zv_1_4544, zv_2_4544, zv_3_4544, zv_4_4544, zv_5_4544, zv_6_4544, zv_7_4544, zv_8_4544, zv_9_4544, zv_10_4544, zv_11_4544, zv_12_4544, zv_13_4544, zv_14_4544, zv_15_4544, zv_16_4544, zv_17_4544, zv_18_4544, zv_19_4544, zv_20_4544, zv_21_4544, zv_22_4544, zv_23_4544, zv_24_4544, zv_25_4544, zv_26_4544, zv_27_4544, zv_28_4544, zv_29_4544, zv_0_11, zv_1_11, zv_0_160, true_and, and_true, Nat.reduceAdd]
    refine h63 _ _ _ ?_
    rcases zr_nx_sp (ok := zr_ok (zr_c b cs to) (zr_ds n b cs to) p) (n - k) k with ⟨e1, e2⟩ | ⟨e, e1, e2, e3, e4, e5⟩
    · rw [e1]
      simp only [bX12_layRoute_63, zw_0, zw_1, zs_istore5, zs_iload5, zs_iconst, zs_icne, zs_aloadn0, zs_aloadNn0, zg_12_53, zs_iloadn3, zs_iaload, zs_iloadn2, zi_12_433, zc_none, zc_int, zc_ref, zc_null, zc_long, zh_0, zh_1, zh_2, zh_3, zh_4, zt_i, zt_l, zt_r, zt_n, zb_0, za_1, za_2, za_3, za_4, za_5, za_6, za_7, za_8, za_9, za_10, za_11, za_12, za_13, za_14, zu_0, zu_1, zu_2, zu_3, zu_4, zu_5, zu_6, zu_7, zu_8, zu_9, zu_10, zu_11, zu_12, zu_13, zu_14, zu_15, zu_16, zu_17, zu_18, zu_19, zu_20, zu_21, zu_22, zu_23, zu_24, zu_25, zu_26, zu_27, zu_28, zu_29, zu_30, zu_90, zv_0_9, zv_1_9, zv_2_9, zv_3_9, zv_4_9, zv_5_9, zv_6_9, zv_7_9, zv_8_9, zv_0_330, zv_0_4544, zv_1_4544, zv_2_4544, zv_3_4544, zv_4_4544, zv_5_4544, zv_6_4544, zv_7_4544, zv_8_4544, zv_9_4544, zv_10_4544, zv_11_4544, zv_12_4544, zv_13_4544, zv_14_4544, zv_15_4544, zv_16_4544, zv_17_4544, zv_18_4544, zv_19_4544, zv_20_4544, zv_21_4544, zv_22_4544, zv_23_4544, zv_24_4544, zv_25_4544, zv_26_4544, zv_27_4544, zv_28_4544, zv_29_4544, zv_0_11, zv_1_11, zv_0_160, true_and, and_true, Nat.reduceAdd, v1, v2, hm, ep]
      refine ⟨fun h => absurd trivial h, fun _ => ⟨fun _ => ?_, fun h => absurd h hpt⟩⟩
      exact leave l p M1 _ _ hl hm (fun l5 => K1 l5 (fun j x y => e2 j x (by omega)))
    · rw [e4]
      have n1 : ¬ nI e = -1 := fun z => by
        have := nI_pos (n := e) (by omega)
        rw [z] at this
        exact absurd (by decide) this
      simp only [bX12_layRoute_63, zw_0, zw_1, zs_istore5, zs_iload5, zs_iconst, zs_icne, zs_aloadn0, zs_aloadNn0, zg_12_53, zs_iloadn3, zs_iaload, zs_iloadn2, zi_12_433, zc_none, zc_int, zc_ref, zc_null, zc_long, zh_0, zh_1, zh_2, zh_3, zh_4, zt_i, zt_l, zt_r, zt_n, zb_0, za_1, za_2, za_3, za_4, za_5, za_6, za_7, za_8, za_9, za_10, za_11, za_12, za_13, za_14, zu_0, zu_1, zu_2, zu_3, zu_4, zu_5, zu_6, zu_7, zu_8, zu_9, zu_10, zu_11, zu_12, zu_13, zu_14, zu_15, zu_16, zu_17, zu_18, zu_19, zu_20, zu_21, zu_22, zu_23, zu_24, zu_25, zu_26, zu_27, zu_28, zu_29, zu_30, zu_90, zv_0_9, zv_1_9, zv_2_9, zv_3_9, zv_4_9, zv_5_9, zv_6_9, zv_7_9, zv_8_9, zv_0_330, zv_0_4544, zv_1_4544, zv_2_4544, zv_3_4544, zv_4_4544, zv_5_4544, zv_6_4544, zv_7_4544, zv_8_4544, zv_9_4544, zv_10_4544, zv_11_4544, zv_12_4544, zv_13_4544, zv_14_4544, zv_15_4544, zv_16_4544, zv_17_4544, zv_18_4544, zv_19_4544, zv_20_4544, zv_21_4544, zv_22_4544, zv_23_4544, zv_24_4544, zv_25_4544, zv_26_4544, zv_27_4544, zv_28_4544, zv_29_4544, zv_0_11, zv_1_11, zv_0_160, true_and, and_true, Nat.reduceAdd, n1]
      exact ⟨fun _ => K2 e e1 (by omega) e3 e5, fun h => absurd h (fun z => z)⟩
  have walk : ∀ (f p sz : Nat) (path : List Nat) (best : Nat × List Nat) (M1 : zm_M) (l5 : Option Value), zM_F n b pr cs to dd D M1 → p < n → (p = to ∨ zt_ab b to p = true) → sz ≤ 9999 → zr_rk (zr_ds n b cs to) n p ≤ f → path.length + f ≤ 9 → zM_p fr path M1 → M1.1 11 path.length = nI p → M1.1 12 path.length = nI sz → zM_b best M1 → (∀ M2 l5, zM_F n b pr cs to dd D M2 → zM_b (zr_dfs n to (zr_ok (zr_c b cs to) (zr_ds n b cs to)) (zr_gr n b pr D (nI dd) fr to) f p sz path best) M2 → zM_w path.length M1 M2 → G 32 [some (.ref 0), some (.int (nI fr)), some (.int (nI to)), some (.int (nI path.length + -1)), some (.int (nI p)), l5] [] M2) → G 32 [some (.ref 0), some (.int (nI fr)), some (.int (nI to)), some (.int (nI path.length)), some (.int (-1)), l5] [] M1 := by
    intro f
    induction f with
    | zero =>
      intro p sz path best M1 l5 F1 hp hpt hsz hrk hl hpp hm hs hb K
      simp only [zr_dfs] at K
      by_cases c : p = to
      · rw [if_pos c] at K
        exact arr p sz path best M1 l5 F1 c hsz (by omega) hpp hm hs hb K
      · rw [if_neg c] at K
        refine step p 0 (-1) path.length M1 l5 F1 hp c (hpt.resolve_left c) (by omega) rfl (by omega) hm (fun l5 _ => K M1 l5 F1 hb zM_w_refl) (fun e _ he hok _ => ?_)
        have := (zr_ok_of (n := n) he hok).2.2
        omega
    | succ f ih =>
      intro p sz path best M1 l5 F1 hp hpt hsz hrk hl hpp hm hs hb K
      simp only [zr_dfs] at K
      by_cases c : p = to
      · rw [if_pos c] at K
        exact arr p sz path best M1 l5 F1 c hsz (by omega) hpp hm hs hb K
      · rw [if_neg c] at K
        have habp := hpt.resolve_left c
        have inner : ∀ (N k : Nat) (a : Int32) (bst : Nat × List Nat) (M2 : zm_M) (l5 : Option Value), n - k ≤ N → k ≤ n → a + 1 = nI k → zM_F n b pr cs to dd D M2 → zM_b bst M2 → zM_w path.length M1 M2 → zr_lp (fun e bst => if zr_ok (zr_c b cs to) (zr_ds n b cs to) p e then zr_dfs n to (zr_ok (zr_c b cs to) (zr_ds n b cs to)) (zr_gr n b pr D (nI dd) fr to) f e (zr_gr n b pr D (nI dd) fr to p e sz) (path ++ [e]) bst else bst) (n - k) k bst = zr_lp (fun e bst => if zr_ok (zr_c b cs to) (zr_ds n b cs to) p e then zr_dfs n to (zr_ok (zr_c b cs to) (zr_ds n b cs to)) (zr_gr n b pr D (nI dd) fr to) f e (zr_gr n b pr D (nI dd) fr to p e sz) (path ++ [e]) bst else bst) n 0 best → G 32 [some (.ref 0), some (.int (nI fr)), some (.int (nI to)), some (.int (nI path.length)), some (.int a), l5] [] M2 := by
          intro N
          induction N with
          | zero =>
            intro k a bst M2 l5 hN hk ha F2 b2 w2 e
            refine step p k a path.length M2 l5 F2 hp c habp hk ha (by omega) (by rw [(w2.2.2 _ (by omega)).1]; exact hm) (fun l5 _ => ?_) (fun e h1 h2 _ _ => by omega)
            refine K M2 l5 F2 ?_ w2
            rw [show n - k = 0 by omega] at e
            rw [← e]; exact b2
          | succ N ihN =>
            intro k a bst M2 l5 hN hk ha F2 b2 w2 e
            have hm2 : M2.1 11 path.length = nI p := by rw [(w2.2.2 _ (by omega)).1]; exact hm
            have hs2 : M2.1 12 path.length = nI sz := by rw [(w2.2.2 _ (by omega)).2]; exact hs
            have hpp2 : zM_p fr path M2 := zM_p_at hpp (fun i hi => (w2.2.2 i hi).1)
            refine step p k a path.length M2 l5 F2 hp c habp hk ha (by omega) hm2 (fun l5 hno => ?_) (fun x h1 h2 hok hno => ?_)
            · refine K M2 l5 F2 ?_ w2
              have sk := zr_lp_sk (g := fun e bst => if zr_ok (zr_c b cs to) (zr_ds n b cs to) p e then zr_dfs n to (zr_ok (zr_c b cs to) (zr_ds n b cs to)) (zr_gr n b pr D (nI dd) fr to) f e (zr_gr n b pr D (nI dd) fr to p e sz) (path ++ [e]) bst else bst) (n - k) k 0 bst (fun j a1 a2 => by show (if _ then _ else _) = _; rw [if_neg (by rw [hno j a1 (by omega)]; decide)])
              rw [Nat.add_zero, e] at sk
              rw [sk]
              exact b2
            · have sk := zr_lp_sk (g := fun e bst => if zr_ok (zr_c b cs to) (zr_ds n b cs to) p e then zr_dfs n to (zr_ok (zr_c b cs to) (zr_ds n b cs to)) (zr_gr n b pr D (nI dd) fr to) f e (zr_gr n b pr D (nI dd) fr to p e sz) (path ++ [e]) bst else bst) (x - k) k (n - x) bst (fun j a1 a2 => by show (if _ then _ else _) = _; rw [if_neg (by rw [hno j a1 (by omega)]; decide)])
              rw [show x - k + (n - x) = n - k by omega, e, show k + (x - k) = x by omega, show n - x = (n - (x + 1)) + 1 by omega] at sk
              simp only [zr_lp] at sk
              rw [if_pos hok] at sk
              have hrk' := (zr_ok_of (n := n) h2 hok).2.2
              have hc0 := (zr_ok_of (n := n) h2 hok).1
              have hto' := zr_c_to hw hto hp h2 hc0
              have v1 : vp_in (nI path.length) 11 := vp_in_nI (by omega) (by decide)
              have v2 : (nI path.length).toNatClampNeg = path.length := nI_clamp (by omega)
              have v3 : vp_in (nI (path.length + 1)) 11 := vp_in_nI (by omega) (by decide)
              have v4 : (nI (path.length + 1)).toNatClampNeg = path.length + 1 := nI_clamp (by omega)
              refine h100 _ _ _ ?_
              simp only [bX12_layRoute_100, zw_0, zw_1, zs_aloadn0, zs_aloadNn0, zg_12_56, zs_iloadn3, zs_iconst, zs_iadd, zs_iaload, zg_12_53, zs_iload5, zs_iloadn1, zs_iloadn2, zi_12_436, zs_iastore, zs_iinc3, zs_istore4, zc_none, zc_int, zc_ref, zc_null, zc_long, zh_0, zh_1, zh_2, zh_3, zh_4, zt_i, zt_l, zt_r, zt_n, zb_0, za_1, za_2, za_3, za_4, za_5, za_6, za_7, za_8, za_9, za_10, za_11, za_12, za_13, za_14, zu_0, zu_1, zu_2, zu_3, zu_4, zu_5, zu_6, zu_7, zu_8, zu_9, zu_10, zu_11, zu_12, zu_13, zu_14, zu_15, zu_16, zu_17, zu_18, zu_19, zu_20, zu_21, zu_22, zu_23, zu_24, zu_25, zu_26, zu_27, zu_28, zu_29, zu_30, zu_90, zv_0_9, zv_1_9, zv_2_9, zv_3_9, zv_4_9, zv_5_9, zv_6_9, zv_7_9, zv_8_9, zv_0_330, zv_0_4544, zv_1_4544, zv_2_4544, zv_3_4544, zv_4_4544, zv_5_4544, zv_6_4544, zv_7_4544, zv_8_4544, zv_9_4544, zv_10_4544, zv_11_4544, zv_12_4544, zv_13_4544, zv_14_4544, zv_15_4544, zv_16_4544, zv_17_4544, zv_18_4544, zv_19_4544, zv_20_4544, zv_21_4544, zv_22_4544, zv_23_4544, zv_24_4544, zv_25_4544, zv_26_4544, zv_27_4544, zv_28_4544, zv_29_4544, zv_0_11, zv_1_11, zv_0_160, true_and, and_true, Nat.reduceAdd, v1, v2, hs2, hm2, nI_1]
              refine c_sizeBehind hE d F2.1 F2.2.2.1 hD hp h2 hsz hfr hto hdd F2.2.2.2 (fun M3 f3 => ?_)
              simp only [bX12_layRoute_100, zw_0, zw_1, zs_aloadn0, zs_aloadNn0, zg_12_56, zs_iloadn3, zs_iconst, zs_iadd, zs_iaload, zg_12_53, zs_iload5, zs_iloadn1, zs_iloadn2, zi_12_436, zs_iastore, zs_iinc3, zs_istore4, zc_none, zc_int, zc_ref, zc_null, zc_long, zh_0, zh_1, zh_2, zh_3, zh_4, zt_i, zt_l, zt_r, zt_n, zb_0, za_1, za_2, za_3, za_4, za_5, za_6, za_7, za_8, za_9, za_10, za_11, za_12, za_13, za_14, zu_0, zu_1, zu_2, zu_3, zu_4, zu_5, zu_6, zu_7, zu_8, zu_9, zu_10, zu_11, zu_12, zu_13, zu_14, zu_15, zu_16, zu_17, zu_18, zu_19, zu_20, zu_21, zu_22, zu_23, zu_24, zu_25, zu_26, zu_27, zu_28, zu_29, zu_30, zu_90, zv_0_9, zv_1_9, zv_2_9, zv_3_9, zv_4_9, zv_5_9, zv_6_9, zv_7_9, zv_8_9, zv_0_330, zv_0_4544, zv_1_4544, zv_2_4544, zv_3_4544, zv_4_4544, zv_5_4544, zv_6_4544, zv_7_4544, zv_8_4544, zv_9_4544, zv_10_4544, zv_11_4544, zv_12_4544, zv_13_4544, zv_14_4544, zv_15_4544, zv_16_4544, zv_17_4544, zv_18_4544, zv_19_4544, zv_20_4544, zv_21_4544, zv_22_4544, zv_23_4544, zv_24_4544, zv_25_4544, zv_26_4544, zv_27_4544, zv_28_4544, zv_29_4544, zv_0_11, zv_1_11, zv_0_160, true_and, and_true, Nat.reduceAdd, v3, v4, nI_1]
              generalize hM4 : zm_wi (zm_wi M3 12 (path.length + 1) (nI (zr_gr n b pr D (nI dd) fr to p x sz))) 11 (path.length + 1) (nI x) = M4
              have f4 : zf [6, 7, 8, 11, 12] M2 M4 := by rw [← hM4]; exact zf_wi (zf_wi (zf_sub f3 (by simp)) (by decide)) (by decide)
              have F4 := zM_F_f F2 f4 (by decide) (by decide) (by decide)
              have e11 : ∀ i, M4.1 11 i = if i = path.length + 1 then nI x else M2.1 11 i := by
                intro i
                rw [← hM4, zm_wi_same, zm_wi_other (by decide), (f3 11 (by decide)).1]
              have e12 : ∀ i, M4.1 12 i = if i = path.length + 1 then nI (zr_gr n b pr D (nI dd) fr to p x sz) else M2.1 12 i := by
                intro i
                rw [← hM4, zm_wi_other (by decide), zm_wi_same, (f3 12 (by decide)).1]
              have w4 : zM_w path.length M2 M4 := ⟨zf_sub f4 (by simp), zg_of f4 (by decide), fun i hi => ⟨by rw [e11, if_neg (by omega)], by rw [e12, if_neg (by omega)]⟩⟩
              have ll : (path ++ [x]).length = path.length + 1 := by simp
              have pp4 : zM_p fr (path ++ [x]) M4 := by
                refine ⟨by rw [e11, if_neg (by omega)]; exact hpp2.1, fun i hi => ?_⟩
                rw [ll] at hi
                rw [e11]
                by_cases z : i = path.length
                · subst z
                  rw [if_pos rfl]
                  simp
                · rw [if_neg (by omega), hpp2.2 i (by omega)]
                  congr 1
                  rw [List.getD_eq_getElem?_getD, List.getD_eq_getElem?_getD, List.getElem?_append_left (by omega)]
              refine h142 _ _ _ ?_
              simp only [bX12_layRoute_142, zw_0, zw_1, zs_goto, zb_0, za_1, za_2, za_3, za_4, za_5, za_6, za_7, za_8, za_9, za_10, za_11, za_12, za_13, za_14, true_and, and_true, Nat.reduceAdd]
              rw [← ll]
              refine ih x (zr_gr n b pr D (nI dd) fr to p x sz) (path ++ [x]) bst M4 _ F4 h2 hto' (zr_gr_in hsz) (by omega) (by rw [ll]; omega) pp4 (by rw [ll, e11, if_pos rfl]) (by rw [ll, e12, if_pos rfl]) (zM_b_at b2 (f4 0 (by decide)).1 (f4 13 (by decide)).1) (fun M5 l5 F5 b5 w5 => ?_)
              rw [ll, zr_m1 (by omega)]
              rw [ll] at w5
              exact ihN (x + 1) (nI x) _ M5 l5 (by omega) (by omega) (nI_1 x) F5 b5 (zM_w_trans w2 (zM_w_trans w4 (zM_w_le w5 (by omega)))) sk.symm
        exact inner n 0 (-1) best M1 l5 (by omega) (by omega) rfl F1 hb zM_w_refl rfl
  refine h0 _ _ _ ?_
  simp only [bX12_layRoute_0, zw_0, zw_1, zs_aloadn0, zs_aloadNn0, zs_iloadn2, zi_12_427, zdw_12_417, zq_12_421, zg_12_53, zs_iconst, zs_iloadn1, zs_iastore, zg_12_56, zs_bipush, zs_istoren3, zs_istore4, zc_none, zc_int, zc_ref, zc_null, zc_long, zh_0, zh_1, zh_2, zh_3, zh_4, zt_i, zt_l, zt_r, zt_n, zb_0, za_1, za_2, za_3, za_4, za_5, za_6, za_7, za_8, za_9, za_10, za_11, za_12, za_13, za_14, zu_0, zu_1, zu_2, zu_3, zu_4, zu_5, zu_6, zu_7, zu_8, zu_9, zu_10, zu_11, zu_12, zu_13, zu_14, zu_15, zu_16, zu_17, zu_18, zu_19, zu_20, zu_21, zu_22, zu_23, zu_24, zu_25, zu_26, zu_27, zu_28, zu_29, zu_30, zu_90, zv_0_9, zv_1_9, zv_2_9, zv_3_9, zv_4_9, zv_5_9, zv_6_9, zv_7_9, zv_8_9, zv_0_330, zv_0_4544, zv_1_4544, zv_2_4544, zv_3_4544, zv_4_4544, zv_5_4544, zv_6_4544, zv_7_4544, zv_8_4544, zv_9_4544, zv_10_4544, zv_11_4544, zv_12_4544, zv_13_4544, zv_14_4544, zv_15_4544, zv_16_4544, zv_17_4544, zv_18_4544, zv_19_4544, zv_20_4544, zv_21_4544, zv_22_4544, zv_23_4544, zv_24_4544, zv_25_4544, zv_26_4544, zv_27_4544, zv_28_4544, zv_29_4544, zv_0_11, zv_1_11, zv_0_160, true_and, and_true, Nat.reduceAdd]
  refine c_layDays hE (d + 3) hF hto (fun M1 d1 f1 => ?_)
  simp only [bX12_layRoute_0, zw_0, zw_1, zs_aloadn0, zs_aloadNn0, zs_iloadn2, zi_12_427, zdw_12_417, zq_12_421, zg_12_53, zs_iconst, zs_iloadn1, zs_iastore, zg_12_56, zs_bipush, zs_istoren3, zs_istore4, zc_none, zc_int, zc_ref, zc_null, zc_long, zh_0, zh_1, zh_2, zh_3, zh_4, zt_i, zt_l, zt_r, zt_n, zb_0, za_1, za_2, za_3, za_4, za_5, za_6, za_7, za_8, za_9, za_10, za_11, za_12, za_13, za_14, zu_0, zu_1, zu_2, zu_3, zu_4, zu_5, zu_6, zu_7, zu_8, zu_9, zu_10, zu_11, zu_12, zu_13, zu_14, zu_15, zu_16, zu_17, zu_18, zu_19, zu_20, zu_21, zu_22, zu_23, zu_24, zu_25, zu_26, zu_27, zu_28, zu_29, zu_30, zu_90, zv_0_9, zv_1_9, zv_2_9, zv_3_9, zv_4_9, zv_5_9, zv_6_9, zv_7_9, zv_8_9, zv_0_330, zv_0_4544, zv_1_4544, zv_2_4544, zv_3_4544, zv_4_4544, zv_5_4544, zv_6_4544, zv_7_4544, zv_8_4544, zv_9_4544, zv_10_4544, zv_11_4544, zv_12_4544, zv_13_4544, zv_14_4544, zv_15_4544, zv_16_4544, zv_17_4544, zv_18_4544, zv_19_4544, zv_20_4544, zv_21_4544, zv_22_4544, zv_23_4544, zv_24_4544, zv_25_4544, zv_26_4544, zv_27_4544, zv_28_4544, zv_29_4544, zv_0_11, zv_1_11, zv_0_160, true_and, and_true, Nat.reduceAdd]
  generalize hM2 : zm_wi (zm_wi (zm_wi M1 0 31 1000000000) 11 0 (nI fr)) 12 0 10 = M2
  have f2 : zf [0, 11, 12] M1 M2 := by rw [← hM2]; exact zf_wi (zf_wi (zf_wi zf_refl (by decide)) (by decide)) (by decide)
  have f2' : zf [0, 10, 11, 12] M M2 := zf_trans (zf_sub f1 (by simp)) (zf_sub f2 (by simp))
  have g2 : zg 0 [31, 32] M M2 := by
    intro j hj
    rw [← hM2, zm_wi_other (by decide), zm_wi_other (by decide), zm_wi_same, if_neg (by rintro rfl; exact hj (by decide)), (f1 0 (by decide)).1]
  have F2 : zM_F n b pr cs to dd D M2 := by
    have e1 : M2.1 1 = M.1 1 := (f2' 1 (by decide)).1
    exact ⟨zM_f_f hF f2' (by decide), fun i hi => by rw [(f2 10 (by decide)).1]; exact d1 i hi, by rw [e1]; exact zm_T_c hT (f2' 3 (by decide)).1, by rw [e1]; exact hd⟩
  have s31 : M2.1 0 31 = 1000000000 := by rw [← hM2, zm_wi_other (by decide), zm_wi_other (by decide), zm_wi_same, if_pos rfl]
  have s11 : M2.1 11 0 = nI fr := by rw [← hM2, zm_wi_other (by decide), zm_wi_same, if_pos rfl]
  have s12 : M2.1 12 0 = 10 := by rw [← hM2, zm_wi_same, if_pos rfl]
  refine walk 9 fr 10 [] (1000000000, []) M2 none F2 hfr (Or.inr hab) (by decide) (zr_rk_9 hfr hn) (by decide) ⟨s11, fun i hi => absurd hi (by simp)⟩ s11 s12 ⟨s31, by decide, by decide, Or.inl rfl⟩ (fun M3 l5 F3 b3 w3 => ?_)
  refine h32 _ _ _ ?_
  simp only [bX12_layRoute_32, zw_0, zw_1, zs_iloadn3, zs_iflt, zs_aloadn0, zs_aloadNn0, zg_12_53, zs_iaload, zs_iloadn2, zs_icne, zs_iconst, zs_goto, zb_0, za_1, za_2, za_3, za_4, za_5, za_6, za_7, za_8, za_9, za_10, za_11, za_12, za_13, za_14, zu_0, zu_1, zu_2, zu_3, zu_4, zu_5, zu_6, zu_7, zu_8, zu_9, zu_10, zu_11, zu_12, zu_13, zu_14, zu_15, zu_16, zu_17, zu_18, zu_19, zu_20, zu_21, zu_22, zu_23, zu_24, zu_25, zu_26, zu_27, zu_28, zu_29, zu_30, zu_90, zv_0_9, zv_1_9, zv_2_9, zv_3_9, zv_4_9, zv_5_9, zv_6_9, zv_7_9, zv_8_9, zv_0_330, zv_0_4544, zv_1_4544, zv_2_4544, zv_3_4544, zv_4_4544, zv_5_4544, zv_6_4544, zv_7_4544, zv_8_4544, zv_9_4544, zv_10_4544, zv_11_4544, zv_12_4544, zv_13_4544, zv_14_4544, zv_15_4544, zv_16_4544, zv_17_4544, zv_18_4544, zv_19_4544, zv_20_4544, zv_21_4544, zv_22_4544, zv_23_4544, zv_24_4544, zv_25_4544, zv_26_4544, zv_27_4544, zv_28_4544, zv_29_4544, zv_0_11, zv_1_11, zv_0_160, true_and, and_true, Nat.reduceAdd]
  refine ⟨fun _ => ?_, fun h => absurd (by decide) h⟩
  refine h145 _ _ _ ?_
  simp only [bX12_layRoute_145, zw_0, zw_1, zs_return, zn_int, zn_b0, zn_b1, zb_0, za_1, za_2, za_3, za_4, za_5, za_6, za_7, za_8, za_9, za_10, za_11, za_12, za_13, za_14, true_and, and_true, Nat.reduceAdd]
  exact q M3 F3.2.1 b3 (zf_trans (zf_sub f2' (by simp)) (zf_sub w3.1 (by simp))) (zg_trans g2 w3.2.1)
