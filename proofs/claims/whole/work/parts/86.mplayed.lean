/-! ===== a text is played: the reference ===== -/
theorem c_isPlayed {E : zm_E} (hE : zm_ok E.2.2.1 E.2.2.2.2) (d : Nat) {tn p : Nat} {T : Nat → Option zD} {V : zO} {M : zm_M} {kd a1 a2 a3 : Int32} (hp : p + 3 < 2820) (hi : zOi T V) (hC : zOM tn T V M) (hkd : M.1 3 p = kd) (ha : zy_a kd a1 a2 a3 (M.1 3 (p + 1)) (M.1 3 (p + 2)) (M.1 3 (p + 3))) {Q : Option Value → zm_M → Prop} (q : ∀ M', zOM tn T (zy_do T kd a1 a2 a3 V).1 M' → zMp M M' → Q (some (.int (zi_b (zy_do T kd a1 a2 a3 V).2))) M') : zm_R E (d + 9) mX12_isPlayed [.ref 0, .int (nI p)] M Q := by
  refine zX12_isPlayed hE rfl (fun G h0 h64 h77 h78 h79 h86 h107 h108 h109 h116 h123 h129 => ?_)
  show G 0 [some (.ref 0), some (.int (nI p)), none, none] [] M
  have v1 : vp_in (nI p) 2820 := vp_in_nI (by omega) (by decide)
  have v2 : (nI p).toNatClampNeg = p := nI_clamp (by omega)
  have p1 : nI p + 1 = nI (p + 1) := nI_1 p
  have p2 : nI p + 2 = nI (p + 2) := by rw [← nI_add]; rfl
  have p3 : nI p + 3 = nI (p + 3) := by rw [← nI_add]; rfl
  have w1 : vp_in (nI (p + 1)) 2820 := vp_in_nI (by omega) (by decide)
  have w2 : (nI (p + 1)).toNatClampNeg = p + 1 := nI_clamp (by omega)
  have x1 : vp_in (nI (p + 2)) 2820 := vp_in_nI (by omega) (by decide)
  have x2 : (nI (p + 2)).toNatClampNeg = p + 2 := nI_clamp (by omega)
  have y1 : vp_in (nI (p + 3)) 2820 := vp_in_nI (by omega) (by decide)
  have y2 : (nI (p + 3)).toNatClampNeg = p + 3 := nI_clamp (by omega)
  generalize hb1 : M.1 3 (p + 1) = b1 at ha
  generalize hb2 : M.1 3 (p + 2) = b2 at ha
  generalize hb3 : M.1 3 (p + 3) = b3 at ha
  unfold zy_do at q
  refine h0 _ _ _ ?_
  simp only [bX12_isPlayed_0, zw_0, zw_1, zs_aloadn0, zs_aloadNn0, zg_12_16, zs_iloadn1, zs_iconst, zs_iadd, zs_iaload, zs_istoren2, zs_istoren3, zs_tsw, zm_sw, zc_none, zc_int, zc_ref, zc_null, zc_long, zb_0, za_1, za_2, za_3, za_4, za_5, za_6, za_7, za_8, za_9, za_10, za_11, za_12, za_13, za_14, zu_0, zu_1, zu_2, zu_3, zu_4, zu_5, zu_6, zu_7, zu_8, zu_9, zu_10, zu_11, zu_12, zu_13, zu_14, zu_15, zu_16, zu_17, zu_18, zu_19, zu_20, zu_21, zu_22, zu_23, zu_24, zu_25, zu_26, zu_27, zu_28, zu_29, zu_30, zu_90, zv_0_9, zv_1_9, zv_2_9, zv_3_9, zv_4_9, zv_5_9, zv_6_9, zv_7_9, zv_8_9, zv_0_330, zv_0_4544, zv_1_4544, zv_2_4544, zv_3_4544, zv_4_4544, zv_5_4544, zv_6_4544, zv_7_4544, zv_8_4544, zv_9_4544, zv_10_4544, zv_11_4544, zv_12_4544, zv_13_4544, zv_14_4544, zv_15_4544, zv_16_4544, zv_17_4544, zv_18_4544, zv_19_4544, zv_20_4544, zv_21_4544, zv_22_4544, zv_23_4544, zv_24_4544, zv_25_4544, zv_26_4544, zv_27_4544, zv_28_4544, zv_29_4544, zv_0_11, zv_1_11, zv_0_160, true_and, and_true, Nat.reduceAdd, p1, p2, v1, v2, w1, w2, x1, x2, hkd, hb1, hb2]
  refine ⟨fun h => ?_, fun n3 => ⟨fun h => ?_, fun n4 => ⟨fun h => ?_, fun n5 => ⟨fun h => ?_, fun n6 => ⟨fun h => ?_, fun n7 => ⟨fun h => ?_, fun n8 => ?_⟩⟩⟩⟩⟩⟩
  · rw [if_pos h] at q
    obtain ⟨rfl, rfl⟩ := ha.1 (Or.inl h)
    refine h64 _ _ _ ?_
    simp only [bX12_isPlayed_64, zw_0, zw_1, zs_aloadn0, zs_aloadNn0, zs_iloadn3, zs_iloadn2, zi_12_374, zs_iflt, zs_iconst, zs_goto, zh_0, zh_1, zh_2, zh_3, zh_4, zt_i, zt_l, zt_r, zt_n, zb_0, za_1, za_2, za_3, za_4, za_5, za_6, za_7, za_8, za_9, za_10, za_11, za_12, za_13, za_14, true_and, and_true, Nat.reduceAdd]
    refine zO_officer hE (d + 5) b2 b1 hi hC (fun M' c' f' => ?_)
    have q := q M' c' f'
    simp only [bX12_isPlayed_64, zw_0, zw_1, zs_aloadn0, zs_aloadNn0, zs_iloadn3, zs_iloadn2, zi_12_374, zs_iflt, zs_iconst, zs_goto, zh_0, zh_1, zh_2, zh_3, zh_4, zt_i, zt_l, zt_r, zt_n, zb_0, za_1, za_2, za_3, za_4, za_5, za_6, za_7, za_8, za_9, za_10, za_11, za_12, za_13, za_14, true_and, and_true, Nat.reduceAdd, zy_off_n hi]
    refine ⟨fun e => ?_, fun e => ?_⟩
    · rw [e, show decide (¬ (-1 : Int32) = -1) = false from rfl] at q
      refine h77 _ _ _ ?_
      simp only [bX12_isPlayed_77, zw_0, zw_1, zs_iconst, zb_0, za_1, za_2, za_3, za_4, za_5, za_6, za_7, za_8, za_9, za_10, za_11, za_12, za_13, za_14, true_and, and_true, Nat.reduceAdd]
      refine h78 _ _ _ ?_
      simp only [bX12_isPlayed_78, zw_0, zw_1, zs_ireturn, zn_int, zn_b0, zn_b1, zb_0, za_1, za_2, za_3, za_4, za_5, za_6, za_7, za_8, za_9, za_10, za_11, za_12, za_13, za_14, true_and, and_true, Nat.reduceAdd]
      exact q
    · rw [decide_eq_true e] at q
      refine h78 _ _ _ ?_
      simp only [bX12_isPlayed_78, zw_0, zw_1, zs_ireturn, zn_int, zn_b0, zn_b1, zb_0, za_1, za_2, za_3, za_4, za_5, za_6, za_7, za_8, za_9, za_10, za_11, za_12, za_13, za_14, true_and, and_true, Nat.reduceAdd]
      exact q
  · rw [if_neg n3, if_pos h] at q
    obtain ⟨rfl, rfl⟩ := ha.1 (Or.inr (Or.inl h))
    refine h79 _ _ _ ?_
    simp only [bX12_isPlayed_79, zw_0, zw_1, zs_aloadn0, zs_aloadNn0, zs_iloadn2, zs_iloadn3, zi_12_377, zs_ireturn, zh_0, zh_1, zh_2, zh_3, zh_4, zt_i, zt_l, zt_r, zt_n, zn_int, zn_b0, zn_b1, zb_0, za_1, za_2, za_3, za_4, za_5, za_6, za_7, za_8, za_9, za_10, za_11, za_12, za_13, za_14, true_and, and_true, Nat.reduceAdd]
    refine zO_cousin hE (d + 5) b1 b2 hi hC (fun M' c' f' => ?_)
    have q := q M' c' f'
    rw [zy_cou_b]
    simp only [bX12_isPlayed_79, zw_0, zw_1, zs_aloadn0, zs_aloadNn0, zs_iloadn2, zs_iloadn3, zi_12_377, zs_ireturn, zh_0, zh_1, zh_2, zh_3, zh_4, zt_i, zt_l, zt_r, zt_n, zn_int, zn_b0, zn_b1, zb_0, za_1, za_2, za_3, za_4, za_5, za_6, za_7, za_8, za_9, za_10, za_11, za_12, za_13, za_14, true_and, and_true, Nat.reduceAdd]
    exact ⟨of_eq_true zi_b_b, q⟩
  · rw [if_neg n3, if_neg n4, if_pos h] at q
    obtain ⟨rfl, rfl⟩ := ha.1 (Or.inr (Or.inr (Or.inl h)))
    obtain rfl := ha.2.1 h
    refine h86 _ _ _ ?_
    simp only [bX12_isPlayed_86, zw_0, zw_1, zs_aloadn0, zs_aloadNn0, zs_iloadn2, zs_iloadn3, zg_12_16, zs_iloadn1, zs_iconst, zs_iadd, zs_iaload, zi_12_380, zs_iflt, zs_goto, zh_0, zh_1, zh_2, zh_3, zh_4, zt_i, zt_l, zt_r, zt_n, zb_0, za_1, za_2, za_3, za_4, za_5, za_6, za_7, za_8, za_9, za_10, za_11, za_12, za_13, za_14, zu_0, zu_1, zu_2, zu_3, zu_4, zu_5, zu_6, zu_7, zu_8, zu_9, zu_10, zu_11, zu_12, zu_13, zu_14, zu_15, zu_16, zu_17, zu_18, zu_19, zu_20, zu_21, zu_22, zu_23, zu_24, zu_25, zu_26, zu_27, zu_28, zu_29, zu_30, zu_90, zv_0_9, zv_1_9, zv_2_9, zv_3_9, zv_4_9, zv_5_9, zv_6_9, zv_7_9, zv_8_9, zv_0_330, zv_0_4544, zv_1_4544, zv_2_4544, zv_3_4544, zv_4_4544, zv_5_4544, zv_6_4544, zv_7_4544, zv_8_4544, zv_9_4544, zv_10_4544, zv_11_4544, zv_12_4544, zv_13_4544, zv_14_4544, zv_15_4544, zv_16_4544, zv_17_4544, zv_18_4544, zv_19_4544, zv_20_4544, zv_21_4544, zv_22_4544, zv_23_4544, zv_24_4544, zv_25_4544, zv_26_4544, zv_27_4544, zv_28_4544, zv_29_4544, zv_0_11, zv_1_11, zv_0_160, true_and, and_true, Nat.reduceAdd, p3, y1, y2, hb3]
    refine zO_wrong hE (d + 4) b1 b2 b3 hi hC (fun M' c' f' => ?_)
    have q := q M' c' f'
    simp only [bX12_isPlayed_86, zw_0, zw_1, zs_aloadn0, zs_aloadNn0, zs_iloadn2, zs_iloadn3, zg_12_16, zs_iloadn1, zs_iconst, zs_iadd, zs_iaload, zi_12_380, zs_iflt, zs_goto, zh_0, zh_1, zh_2, zh_3, zh_4, zt_i, zt_l, zt_r, zt_n, zb_0, za_1, za_2, za_3, za_4, za_5, za_6, za_7, za_8, za_9, za_10, za_11, za_12, za_13, za_14, zu_0, zu_1, zu_2, zu_3, zu_4, zu_5, zu_6, zu_7, zu_8, zu_9, zu_10, zu_11, zu_12, zu_13, zu_14, zu_15, zu_16, zu_17, zu_18, zu_19, zu_20, zu_21, zu_22, zu_23, zu_24, zu_25, zu_26, zu_27, zu_28, zu_29, zu_30, zu_90, zv_0_9, zv_1_9, zv_2_9, zv_3_9, zv_4_9, zv_5_9, zv_6_9, zv_7_9, zv_8_9, zv_0_330, zv_0_4544, zv_1_4544, zv_2_4544, zv_3_4544, zv_4_4544, zv_5_4544, zv_6_4544, zv_7_4544, zv_8_4544, zv_9_4544, zv_10_4544, zv_11_4544, zv_12_4544, zv_13_4544, zv_14_4544, zv_15_4544, zv_16_4544, zv_17_4544, zv_18_4544, zv_19_4544, zv_20_4544, zv_21_4544, zv_22_4544, zv_23_4544, zv_24_4544, zv_25_4544, zv_26_4544, zv_27_4544, zv_28_4544, zv_29_4544, zv_0_11, zv_1_11, zv_0_160, true_and, and_true, Nat.reduceAdd, zy_wro_n hi]
    refine ⟨fun e => ?_, fun e => ?_⟩
    · rw [e, show decide (¬ (-1 : Int32) = -1) = false from rfl] at q
      refine h107 _ _ _ ?_
      simp only [bX12_isPlayed_107, zw_0, zw_1, zs_iconst, zb_0, za_1, za_2, za_3, za_4, za_5, za_6, za_7, za_8, za_9, za_10, za_11, za_12, za_13, za_14, true_and, and_true, Nat.reduceAdd]
      refine h108 _ _ _ ?_
      simp only [bX12_isPlayed_108, zw_0, zw_1, zs_ireturn, zn_int, zn_b0, zn_b1, zb_0, za_1, za_2, za_3, za_4, za_5, za_6, za_7, za_8, za_9, za_10, za_11, za_12, za_13, za_14, true_and, and_true, Nat.reduceAdd]
      exact q
    · rw [decide_eq_true e] at q
      refine h108 _ _ _ ?_
      simp only [bX12_isPlayed_108, zw_0, zw_1, zs_ireturn, zn_int, zn_b0, zn_b1, zb_0, za_1, za_2, za_3, za_4, za_5, za_6, za_7, za_8, za_9, za_10, za_11, za_12, za_13, za_14, true_and, and_true, Nat.reduceAdd]
      exact q
  · rw [if_neg n3, if_neg n4, if_neg n5, if_pos h] at q
    obtain ⟨rfl, rfl⟩ := ha.1 (Or.inr (Or.inr (Or.inr (Or.inl h))))
    refine h109 _ _ _ ?_
    simp only [bX12_isPlayed_109, zw_0, zw_1, zs_aloadn0, zs_aloadNn0, zs_iloadn2, zs_iloadn3, zi_12_383, zs_ireturn, zh_0, zh_1, zh_2, zh_3, zh_4, zt_i, zt_l, zt_r, zt_n, zn_int, zn_b0, zn_b1, zb_0, za_1, za_2, za_3, za_4, za_5, za_6, za_7, za_8, za_9, za_10, za_11, za_12, za_13, za_14, true_and, and_true, Nat.reduceAdd]
    refine zO_away hE (d + 5) b1 b2 hi hC (fun M' c' f' => ?_)
    have q := q M' c' f'
    rw [zy_awa_b]
    simp only [bX12_isPlayed_109, zw_0, zw_1, zs_aloadn0, zs_aloadNn0, zs_iloadn2, zs_iloadn3, zi_12_383, zs_ireturn, zh_0, zh_1, zh_2, zh_3, zh_4, zt_i, zt_l, zt_r, zt_n, zn_int, zn_b0, zn_b1, zb_0, za_1, za_2, za_3, za_4, za_5, za_6, za_7, za_8, za_9, za_10, za_11, za_12, za_13, za_14, true_and, and_true, Nat.reduceAdd]
    exact ⟨of_eq_true zi_b_b, q⟩
  · rw [if_neg n3, if_neg n4, if_neg n5, if_neg n6, if_pos h] at q
    obtain ⟨rfl, rfl⟩ := ha.1 (Or.inr (Or.inr (Or.inr (Or.inr h))))
    refine h116 _ _ _ ?_
    simp only [bX12_isPlayed_116, zw_0, zw_1, zs_aloadn0, zs_aloadNn0, zs_iloadn2, zs_iloadn3, zi_12_386, zs_ireturn, zh_0, zh_1, zh_2, zh_3, zh_4, zt_i, zt_l, zt_r, zt_n, zn_int, zn_b0, zn_b1, zb_0, za_1, za_2, za_3, za_4, za_5, za_6, za_7, za_8, za_9, za_10, za_11, za_12, za_13, za_14, true_and, and_true, Nat.reduceAdd]
    refine zO_sideways hE (d + 4) b1 b2 hi hC (fun M' c' f' => ?_)
    have q := q M' c' f'
    rw [zy_sid_b]
    simp only [bX12_isPlayed_116, zw_0, zw_1, zs_aloadn0, zs_aloadNn0, zs_iloadn2, zs_iloadn3, zi_12_386, zs_ireturn, zh_0, zh_1, zh_2, zh_3, zh_4, zt_i, zt_l, zt_r, zt_n, zn_int, zn_b0, zn_b1, zb_0, za_1, za_2, za_3, za_4, za_5, za_6, za_7, za_8, za_9, za_10, za_11, za_12, za_13, za_14, true_and, and_true, Nat.reduceAdd]
    exact ⟨of_eq_true zi_b_b, q⟩
  · rw [if_neg n3, if_neg n4, if_neg n5, if_neg n6, if_neg n7, if_pos h] at q
    obtain ⟨rfl, f, hf, rfl⟩ := ha.2.2 h
    obtain ⟨dd, hdd, ed⟩ := hi.1.2.2.1.2.1
    rw [ed, nI_clamp (by omega), nI_clamp (by omega)] at q
    refine h123 _ _ _ ?_
    simp only [bX12_isPlayed_123, zw_0, zw_1, zs_aloadn0, zs_aloadNn0, zs_iloadn2, zi_12_371, zs_ireturn, zh_0, zh_1, zh_2, zh_3, zh_4, zt_i, zt_l, zt_r, zt_n, zn_int, zn_b0, zn_b1, zb_0, za_1, za_2, za_3, za_4, za_5, za_6, za_7, za_8, za_9, za_10, za_11, za_12, za_13, za_14, true_and, and_true, Nat.reduceAdd]
    refine zO_arePassed hE d hf hi hdd ed hC (fun M' c' f' => ?_)
    have q := q M' c' f'
    simp only [bX12_isPlayed_123, zw_0, zw_1, zs_aloadn0, zs_aloadNn0, zs_iloadn2, zi_12_371, zs_ireturn, zh_0, zh_1, zh_2, zh_3, zh_4, zt_i, zt_l, zt_r, zt_n, zn_int, zn_b0, zn_b1, zb_0, za_1, za_2, za_3, za_4, za_5, za_6, za_7, za_8, za_9, za_10, za_11, za_12, za_13, za_14, true_and, and_true, Nat.reduceAdd]
    exact ⟨of_eq_true zi_b_b, q⟩
  · rw [if_neg n3, if_neg n4, if_neg n5, if_neg n6, if_neg n7, if_neg n8] at q
    refine h129 _ _ _ ?_
    simp only [bX12_isPlayed_129, zw_0, zw_1, zs_iconst, zs_ireturn, zn_int, zn_b0, zn_b1, zb_0, za_1, za_2, za_3, za_4, za_5, za_6, za_7, za_8, za_9, za_10, za_11, za_12, za_13, za_14, true_and, and_true, Nat.reduceAdd]
    exact q M hC zMp_refl
theorem c_played {E : zm_E} (hE : zm_ok E.2.2.1 E.2.2.2.2) (d : Nat) {tn : Nat} {T : Nat → Option zD} {V : zO} {M : zm_M} (x : Int32) {nc : Nat → Nat} {kd a1 a2 a3 : Nat → Nat → Int32} (htn : tn ≤ 4) (hi : zOi T V) (hC : zOM tn T V M) (hl : ∀ t, t < tn → zl_cm M t (nc t) (kd t) (a1 t) (a2 t) (a3 t)) {Q : Option Value → zm_M → Prop} (q1 : zo_is tn x = false → Q (some (.int (-2))) M) (q2 : ∀ t M', t < tn → x = nI t → zOM tn T (zy_pl T (kd t) (a1 t) (a2 t) (a3 t) (nc t) 0 V).1 M' → zMp M M' → Q (some (.int (zy_pl T (kd t) (a1 t) (a2 t) (a3 t) (nc t) 0 V).2)) M') : zm_R E (d + 10) mX12_played [.ref 0, .int x] M Q := by
  refine zX12_played hE rfl (fun G h0 h19 h21 h55 h61 => ?_)
  show G 0 [some (.ref 0), some (.int x), none] [] M
  have h16 : M.1 1 1 = nI tn := hC.1.2.1
  refine h0 _ _ _ ?_
  simp only [bX12_played_0, zw_0, zw_1, zs_iloadn1, zs_iconst, zs_aloadn0, zs_aloadNn0, zg_12_7, zs_iaload, zs_isub, zi_12_69, zs_ifne, zs_bipush, zs_ireturn, zh_0, zh_1, zh_2, zh_3, zh_4, zt_i, zt_l, zt_r, zt_n, zn_int, zn_b0, zn_b1, zb_0, za_1, za_2, za_3, za_4, za_5, za_6, za_7, za_8, za_9, za_10, za_11, za_12, za_13, za_14, zu_0, zu_1, zu_2, zu_3, zu_4, zu_5, zu_6, zu_7, zu_8, zu_9, zu_10, zu_11, zu_12, zu_13, zu_14, zu_15, zu_16, zu_17, zu_18, zu_19, zu_20, zu_21, zu_22, zu_23, zu_24, zu_25, zu_26, zu_27, zu_28, zu_29, zu_30, zu_90, zv_0_9, zv_1_9, zv_2_9, zv_3_9, zv_4_9, zv_5_9, zv_6_9, zv_7_9, zv_8_9, zv_0_330, zv_0_4544, zv_1_4544, zv_2_4544, zv_3_4544, zv_4_4544, zv_5_4544, zv_6_4544, zv_7_4544, zv_8_4544, zv_9_4544, zv_10_4544, zv_11_4544, zv_12_4544, zv_13_4544, zv_14_4544, zv_15_4544, zv_16_4544, zv_17_4544, zv_18_4544, zv_19_4544, zv_20_4544, zv_21_4544, zv_22_4544, zv_23_4544, zv_24_4544, zv_25_4544, zv_26_4544, zv_27_4544, zv_28_4544, zv_29_4544, zv_0_11, zv_1_11, zv_0_160, true_and, and_true, Nat.reduceAdd, h16]
  refine zm_R_eq (c_isIn hE (d + 8) x 0 _ M) ?_
  rw [zo_in (by omega)]
  simp only [bX12_played_0, zw_0, zw_1, zs_iloadn1, zs_iconst, zs_aloadn0, zs_aloadNn0, zg_12_7, zs_iaload, zs_isub, zi_12_69, zs_ifne, zs_bipush, zs_ireturn, zh_0, zh_1, zh_2, zh_3, zh_4, zt_i, zt_l, zt_r, zt_n, zn_int, zn_b0, zn_b1, zb_0, za_1, za_2, za_3, za_4, za_5, za_6, za_7, za_8, za_9, za_10, za_11, za_12, za_13, za_14, zu_0, zu_1, zu_2, zu_3, zu_4, zu_5, zu_6, zu_7, zu_8, zu_9, zu_10, zu_11, zu_12, zu_13, zu_14, zu_15, zu_16, zu_17, zu_18, zu_19, zu_20, zu_21, zu_22, zu_23, zu_24, zu_25, zu_26, zu_27, zu_28, zu_29, zu_30, zu_90, zv_0_9, zv_1_9, zv_2_9, zv_3_9, zv_4_9, zv_5_9, zv_6_9, zv_7_9, zv_8_9, zv_0_330, zv_0_4544, zv_1_4544, zv_2_4544, zv_3_4544, zv_4_4544, zv_5_4544, zv_6_4544, zv_7_4544, zv_8_4544, zv_9_4544, zv_10_4544, zv_11_4544, zv_12_4544, zv_13_4544, zv_14_4544, zv_15_4544, zv_16_4544, zv_17_4544, zv_18_4544, zv_19_4544, zv_20_4544, zv_21_4544, zv_22_4544, zv_23_4544, zv_24_4544, zv_25_4544, zv_26_4544, zv_27_4544, zv_28_4544, zv_29_4544, zv_0_11, zv_1_11, zv_0_160, true_and, and_true, Nat.reduceAdd, zi_b0, zi_b1]
  refine ⟨fun h => ?_, fun h => q1 h⟩
  have h : zo_is tn x = true := by simpa using h
  obtain ⟨t, ht, rfl⟩ := zo_of h (by omega)
  have q2 := fun M' => q2 t M' ht rfl
  obtain ⟨n1, n2, n3⟩ := hl t ht
  have m705 : (705 : Int32) * nI t = nI (705 * t) := (pk_mul 705 t)
  have vt : vp_in (nI (705 * t)) 2820 := vp_in_nI (by omega) (by decide)
  have vt2 : (nI (705 * t)).toNatClampNeg = 705 * t := nI_clamp (by omega)
  have loop : ∀ (f k : Nat) (V1 : zO) (M1 : zm_M), k + f = nc t → zOi T V1 → zOM tn T V1 M1 → zMp M M1 → zy_pl T (kd t) (a1 t) (a2 t) (a3 t) f k V1 = zy_pl T (kd t) (a1 t) (a2 t) (a3 t) (nc t) 0 V → G 21 [some (.ref 0), some (.int (nI t)), some (.int (nI k))] [] M1 := by
    intro f
    induction f with
    | zero =>
      intro k V1 M1 hk i1 c1 f1 e
      have m0 : M1.1 3 (705 * t) = nI (nc t) := by rw [(f1.1 3 (by decide)).1]; exact n1
      refine h21 _ _ _ ?_
      simp only [bX12_played_21, zw_0, zw_1, zs_iloadn2, zs_aloadn0, zs_aloadNn0, zg_12_16, zs_sipush, zs_iloadn1, zs_imul, zs_iaload, zs_icge, zs_iconst, zs_iadd, zi_12_389, zs_ifne, zs_ireturn, zh_0, zh_1, zh_2, zh_3, zh_4, zt_i, zt_l, zt_r, zt_n, zn_int, zn_b0, zn_b1, zb_0, za_1, za_2, za_3, za_4, za_5, za_6, za_7, za_8, za_9, za_10, za_11, za_12, za_13, za_14, zu_0, zu_1, zu_2, zu_3, zu_4, zu_5, zu_6, zu_7, zu_8, zu_9, zu_10, zu_11, zu_12, zu_13, zu_14, zu_15, zu_16, zu_17, zu_18, zu_19, zu_20, zu_21, zu_22, zu_23, zu_24, zu_25, zu_26, zu_27, zu_28, zu_29, zu_30, zu_90, zv_0_9, zv_1_9, zv_2_9, zv_3_9, zv_4_9, zv_5_9, zv_6_9, zv_7_9, zv_8_9, zv_0_330, zv_0_4544, zv_1_4544, zv_2_4544, zv_3_4544, zv_4_4544, zv_5_4544, zv_6_4544, zv_7_4544, zv_8_4544, zv_9_4544, zv_10_4544, zv_11_4544, zv_12_4544, zv_13_4544, zv_14_4544, zv_15_4544, zv_16_4544, zv_17_4544, zv_18_4544, zv_19_4544, zv_20_4544, zv_21_4544, zv_22_4544, zv_23_4544, zv_24_4544, zv_25_4544, zv_26_4544, zv_27_4544, zv_28_4544, zv_29_4544, zv_0_11, zv_1_11, zv_0_160, true_and, and_true, Nat.reduceAdd, m705, vt, vt2, m0]
      refine ⟨fun _ => ?_, fun h => absurd (nI_le (by omega) (by omega)) h⟩
      refine h61 _ _ _ ?_
      simp only [bX12_played_61, zw_0, zw_1, zs_iconst, zs_ireturn, zn_int, zn_b0, zn_b1, zb_0, za_1, za_2, za_3, za_4, za_5, za_6, za_7, za_8, za_9, za_10, za_11, za_12, za_13, za_14, true_and, and_true, Nat.reduceAdd]
      have q2 := q2 M1
      rw [← e] at q2
      exact q2 c1 f1
    | succ f ih =>
      intro k V1 M1 hk i1 c1 f1 e
      have e3 : M1.1 3 = M.1 3 := (f1.1 3 (by decide)).1
      have m0 : M1.1 3 (705 * t) = nI (nc t) := by rw [e3]; exact n1
      obtain ⟨k1, k2⟩ := n3 k (by omega)
      rw [← e3] at k1 k2
      simp only [zy_pl] at e
      have m4 : (4 : Int32) * nI k = nI (4 * k) := (pk_mul 4 k)
      refine h21 _ _ _ ?_
      simp only [bX12_played_21, zw_0, zw_1, zs_iloadn2, zs_aloadn0, zs_aloadNn0, zg_12_16, zs_sipush, zs_iloadn1, zs_imul, zs_iaload, zs_icge, zs_iconst, zs_iadd, zi_12_389, zs_ifne, zs_ireturn, zh_0, zh_1, zh_2, zh_3, zh_4, zt_i, zt_l, zt_r, zt_n, zn_int, zn_b0, zn_b1, zb_0, za_1, za_2, za_3, za_4, za_5, za_6, za_7, za_8, za_9, za_10, za_11, za_12, za_13, za_14, zu_0, zu_1, zu_2, zu_3, zu_4, zu_5, zu_6, zu_7, zu_8, zu_9, zu_10, zu_11, zu_12, zu_13, zu_14, zu_15, zu_16, zu_17, zu_18, zu_19, zu_20, zu_21, zu_22, zu_23, zu_24, zu_25, zu_26, zu_27, zu_28, zu_29, zu_30, zu_90, zv_0_9, zv_1_9, zv_2_9, zv_3_9, zv_4_9, zv_5_9, zv_6_9, zv_7_9, zv_8_9, zv_0_330, zv_0_4544, zv_1_4544, zv_2_4544, zv_3_4544, zv_4_4544, zv_5_4544, zv_6_4544, zv_7_4544, zv_8_4544, zv_9_4544, zv_10_4544, zv_11_4544, zv_12_4544, zv_13_4544, zv_14_4544, zv_15_4544, zv_16_4544, zv_17_4544, zv_18_4544, zv_19_4544, zv_20_4544, zv_21_4544, zv_22_4544, zv_23_4544, zv_24_4544, zv_25_4544, zv_26_4544, zv_27_4544, zv_28_4544, zv_29_4544, zv_0_11, zv_1_11, zv_0_160, true_and, and_true, Nat.reduceAdd, m705, vt, vt2, m0, nI_1, m4]
      refine ⟨fun h => absurd h (nI_ge (by omega) (by omega)), fun _ => ?_⟩
      rw [nI_add]
      refine c_isPlayed hE d (p := 705 * t + 1 + 4 * k) (by omega) i1 c1 k1 k2 (fun M2 c2 f2 => ?_)
      simp only [bX12_played_21, zw_0, zw_1, zs_iloadn2, zs_aloadn0, zs_aloadNn0, zg_12_16, zs_sipush, zs_iloadn1, zs_imul, zs_iaload, zs_icge, zs_iconst, zs_iadd, zi_12_389, zs_ifne, zs_ireturn, zh_0, zh_1, zh_2, zh_3, zh_4, zt_i, zt_l, zt_r, zt_n, zn_int, zn_b0, zn_b1, zb_0, za_1, za_2, za_3, za_4, za_5, za_6, za_7, za_8, za_9, za_10, za_11, za_12, za_13, za_14, zu_0, zu_1, zu_2, zu_3, zu_4, zu_5, zu_6, zu_7, zu_8, zu_9, zu_10, zu_11, zu_12, zu_13, zu_14, zu_15, zu_16, zu_17, zu_18, zu_19, zu_20, zu_21, zu_22, zu_23, zu_24, zu_25, zu_26, zu_27, zu_28, zu_29, zu_30, zu_90, zv_0_9, zv_1_9, zv_2_9, zv_3_9, zv_4_9, zv_5_9, zv_6_9, zv_7_9, zv_8_9, zv_0_330, zv_0_4544, zv_1_4544, zv_2_4544, zv_3_4544, zv_4_4544, zv_5_4544, zv_6_4544, zv_7_4544, zv_8_4544, zv_9_4544, zv_10_4544, zv_11_4544, zv_12_4544, zv_13_4544, zv_14_4544, zv_15_4544, zv_16_4544, zv_17_4544, zv_18_4544, zv_19_4544, zv_20_4544, zv_21_4544, zv_22_4544, zv_23_4544, zv_24_4544, zv_25_4544, zv_26_4544, zv_27_4544, zv_28_4544, zv_29_4544, zv_0_11, zv_1_11, zv_0_160, true_and, and_true, Nat.reduceAdd, zi_b0, zi_b1]
      refine ⟨fun h => ?_, fun h => ?_⟩
      · have h : (zy_do T (kd t k) (a1 t k) (a2 t k) (a3 t k) V1).2 = true := by simpa using h
        rw [if_pos h] at e
        refine h55 _ _ _ ?_
        simp only [bX12_played_55, zw_0, zw_1, zs_iinc2, zs_goto, zc_none, zc_int, zc_ref, zc_null, zc_long, zb_0, za_1, za_2, za_3, za_4, za_5, za_6, za_7, za_8, za_9, za_10, za_11, za_12, za_13, za_14, true_and, and_true, Nat.reduceAdd, nI_1]
        exact ih (k + 1) _ M2 (by omega) (zy_do_i i1 _ _ _ _) c2 (zMp_trans f1 f2) e
      · rw [if_neg (by rw [h]; decide)] at e
        have q2 := q2 M2
        rw [← e] at q2
        exact q2 c2 (zMp_trans f1 f2)
  refine h19 _ _ _ ?_
  simp only [bX12_played_19, zw_0, zw_1, zs_iconst, zs_istoren2, zc_none, zc_int, zc_ref, zc_null, zc_long, zb_0, za_1, za_2, za_3, za_4, za_5, za_6, za_7, za_8, za_9, za_10, za_11, za_12, za_13, za_14, true_and, and_true, Nat.reduceAdd]
  exact loop (nc t) 0 V M (by omega) hi hC zMp_refl rfl
