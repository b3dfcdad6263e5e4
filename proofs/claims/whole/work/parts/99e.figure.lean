/-! ===== the reference: a figure, a word and a figure ===== -/
theorem zk_out {x l h : Nat} (h1 : 10000 ≤ x) (h2 : x < 2 ^ 30) (hh : h ≤ 9999) : zi_in (nI x) (nI l) (nI h) = 0 := by
  unfold zi_in
  split
  · rfl
  · rw [if_pos ((nI_ltI (by omega) (by omega)).mpr (by omega))]
theorem zk_in_eq {v r l h : Nat} (hv : v = (if r < 10000 then r else 10000)) (hr : r < 2 ^ 30) (hh : h ≤ 9999) : zi_in (nI r) (nI l) (nI h) = zi_in (nI v) (nI l) (nI h) := by
  by_cases c : r < 10000
  · rw [hv, if_pos c]
  · rw [hv, if_neg c, zk_out (by omega) hr hh, zk_out (by omega) (by omega) hh]
theorem zk_v_in {v r l h : Nat} (hv : v = (if r < 10000 then r else 10000)) (hh : h ≤ 9999) (hz : ¬ zi_in (nI v) (nI l) (nI h) = 0) : r = v := by
  by_cases c : r < 10000
  · rw [hv, if_pos c]
  · exfalso
    refine hz ?_
    rw [hv, if_neg c, zk_out (by omega) (by omega) hh]
theorem c_figure {E : zm_E} (hE : zm_ok E.2.2.1 E.2.2.2.2) (d : Nat) {tp : Nat → Nat} {n s p l h : Nat} {M : zm_M} (hT : zk_tm tp n M) (hA : zk_at tp n s M) (hp : p < 2820) (hl : l ≤ 9999) (hh : h ≤ 9999) {Q : Option Value → zm_M → Prop} (q1 : ¬ zk_w tp n s = 41 → Q (some (.int 1)) M) (q2 : ∀ v, v = zk_nc tp (zk_en tp n s - s) s 0 → zk_w tp n s = 41 → zi_in (nI v) (nI l) (nI h) = 0 → Q (some (.int 2)) M) (q3 : ∀ v, v = zk_nc tp (zk_en tp n s - s) s 0 → zk_w tp n s = 41 → ¬ zi_in (nI v) (nI l) (nI h) = 0 → ∀ M', zk_at tp n (zk_sk tp n (zk_en tp n s)) M' → zk_f (zm_wi M 3 p (nI v)) M' → Q (some (.int 0)) M') : zm_R E (d + 3) mX12_figure [.ref 0, .int (nI p), .int (nI l), .int (nI h)] M Q := by
  refine zX12_figure hE rfl (fun G h0 h10 h24 => ?_)
  show G 0 [some (.ref 0), some (.int (nI p)), some (.int (nI l)), some (.int (nI h))] [] M
  have ht := hT.2.2.2
  obtain ⟨k8, k7, k9, k10, k11⟩ := hA
  have e9 : (nI (zk_so tp n s) = 1) = (zk_w tp n s = 41) := by
    rw [zk_num_so ht]
    exact propext (nI_eq (b := 1) (by have := zk_so_lt ht n s; omega) (by decide))
  have vp : vp_in (nI p) 2820 := vp_in_nI hp (by decide)
  have vp2 : (nI p).toNatClampNeg = p := nI_clamp (by omega)
  refine h0 _ _ _ ?_
  simp only [bX12_figure_0, zw_0, zw_1, zs_aloadn0, zs_aloadNn0, zg_12_98, zs_iconst, zs_iceq, zs_ireturn, zn_int, zn_b0, zn_b1, zb_0, za_1, za_2, za_3, za_4, za_5, za_6, za_7, za_8, za_9, za_10, za_11, za_12, za_13, za_14, true_and, and_true, Nat.reduceAdd, k9, e9]
  refine ⟨fun hw => ?_, fun hw => q1 hw⟩
  have m10 := k10 (by rw [← zk_num_so ht]; exact hw)
  obtain ⟨u1, u2⟩ : s < n ∧ zk_F (tp s) = true := by rw [zk_num ht] at hw; exact hw
  have een : zk_en tp n s = zk_rn zk_F tp n n s := by unfold zk_en; rw [if_neg (by omega), if_pos u2]
  have hen := zk_en_in (tp := tp) u1
  have tie := zk_nc_nr (tp := tp) (zk_en tp n s - s) s 0 0 (fun j a b => zk_rn_all zk_F tp n n s j a (by rw [← een]; omega)) rfl
  have rlt := zk_nr_lt ht (zk_en tp n s - s) s 0 (by decide)
  have q2 := q2 _ rfl hw
  have q3 := q3 _ rfl hw
  generalize zk_nc tp (zk_en tp n s - s) s 0 = v at tie q2 q3
  generalize zk_nr tp (zk_en tp n s - s) s 0 = r at tie m10 rlt
  have eq := zk_in_eq (l := l) tie rlt hh
  refine h10 _ _ _ ?_
  simp only [bX12_figure_10, zw_0, zw_1, zs_aloadn0, zs_aloadNn0, zg_12_104, zs_iloadn2, zs_iloadn3, zi_12_69, zs_ifne, zs_iconst, zs_ireturn, zh_0, zh_1, zh_2, zh_3, zh_4, zt_i, zt_l, zt_r, zt_n, zn_int, zn_b0, zn_b1, zb_0, za_1, za_2, za_3, za_4, za_5, za_6, za_7, za_8, za_9, za_10, za_11, za_12, za_13, za_14, true_and, and_true, Nat.reduceAdd, m10]
  refine zm_R_eq (c_isIn hE (d + 1) _ _ _ M) ?_
  rw [eq]
  simp only [bX12_figure_10, zw_0, zw_1, zs_aloadn0, zs_aloadNn0, zg_12_104, zs_iloadn2, zs_iloadn3, zi_12_69, zs_ifne, zs_iconst, zs_ireturn, zh_0, zh_1, zh_2, zh_3, zh_4, zt_i, zt_l, zt_r, zt_n, zn_int, zn_b0, zn_b1, zb_0, za_1, za_2, za_3, za_4, za_5, za_6, za_7, za_8, za_9, za_10, za_11, za_12, za_13, za_14, true_and, and_true, Nat.reduceAdd]
  refine ⟨fun hz => ?_, fun hz => q2 hz⟩
  have rv : r = v := zk_v_in tie hh hz
  subst rv
  refine h24 _ _ _ ?_
  simp only [bX12_figure_24, zw_0, zw_1, zs_aloadn0, zs_aloadNn0, zg_12_16, zs_iloadn1, zg_12_104, zs_iastore, zi_12_165, zs_iconst, zs_ireturn, zh_0, zh_1, zh_2, zh_3, zh_4, zt_i, zt_l, zt_r, zt_n, zn_int, zn_b0, zn_b1, zb_0, za_1, za_2, za_3, za_4, za_5, za_6, za_7, za_8, za_9, za_10, za_11, za_12, za_13, za_14, zu_0, zu_1, zu_2, zu_3, zu_4, zu_5, zu_6, zu_7, zu_8, zu_9, zu_10, zu_11, zu_12, zu_13, zu_14, zu_15, zu_16, zu_17, zu_18, zu_19, zu_20, zu_21, zu_22, zu_23, zu_24, zu_25, zu_26, zu_27, zu_28, zu_29, zu_30, zu_90, zv_0_9, zv_1_9, zv_2_9, zv_3_9, zv_4_9, zv_5_9, zv_6_9, zv_7_9, zv_8_9, zv_0_330, zv_0_4544, zv_1_4544, zv_2_4544, zv_3_4544, zv_4_4544, zv_5_4544, zv_6_4544, zv_7_4544, zv_8_4544, zv_9_4544, zv_10_4544, zv_11_4544, zv_12_4544, zv_13_4544, zv_14_4544, zv_15_4544, zv_16_4544, zv_17_4544, zv_18_4544, zv_19_4544, zv_20_4544, zv_21_4544, zv_22_4544, zv_23_4544, zv_24_4544, zv_25_4544, zv_26_4544, zv_27_4544, zv_28_4544, zv_29_4544, zv_0_11, zv_1_11, zv_0_160, true_and, and_true, Nat.reduceAdd, m10, vp, vp2]
  have T1 : zk_tm tp n (zm_wi M 3 p (nI r)) := ⟨hT.1, by rw [zm_wi_other (by decide)]; exact hT.2.1, fun i hi => by rw [zm_wi_other (by decide)]; exact hT.2.2.1 i hi, ht⟩
  refine c_nextToken hE d T1 (p := zk_en tp n s) (by rw [zm_wi_other (by decide)]; exact k7) hen.2 (fun M1 a1 f1 => ?_)
  simp only [bX12_figure_24, zw_0, zw_1, zs_aloadn0, zs_aloadNn0, zg_12_16, zs_iloadn1, zg_12_104, zs_iastore, zi_12_165, zs_iconst, zs_ireturn, zh_0, zh_1, zh_2, zh_3, zh_4, zt_i, zt_l, zt_r, zt_n, zn_int, zn_b0, zn_b1, zb_0, za_1, za_2, za_3, za_4, za_5, za_6, za_7, za_8, za_9, za_10, za_11, za_12, za_13, za_14, zu_0, zu_1, zu_2, zu_3, zu_4, zu_5, zu_6, zu_7, zu_8, zu_9, zu_10, zu_11, zu_12, zu_13, zu_14, zu_15, zu_16, zu_17, zu_18, zu_19, zu_20, zu_21, zu_22, zu_23, zu_24, zu_25, zu_26, zu_27, zu_28, zu_29, zu_30, zu_90, zv_0_9, zv_1_9, zv_2_9, zv_3_9, zv_4_9, zv_5_9, zv_6_9, zv_7_9, zv_8_9, zv_0_330, zv_0_4544, zv_1_4544, zv_2_4544, zv_3_4544, zv_4_4544, zv_5_4544, zv_6_4544, zv_7_4544, zv_8_4544, zv_9_4544, zv_10_4544, zv_11_4544, zv_12_4544, zv_13_4544, zv_14_4544, zv_15_4544, zv_16_4544, zv_17_4544, zv_18_4544, zv_19_4544, zv_20_4544, zv_21_4544, zv_22_4544, zv_23_4544, zv_24_4544, zv_25_4544, zv_26_4544, zv_27_4544, zv_28_4544, zv_29_4544, zv_0_11, zv_1_11, zv_0_160, true_and, and_true, Nat.reduceAdd]
  exact q3 hz M1 a1 f1
