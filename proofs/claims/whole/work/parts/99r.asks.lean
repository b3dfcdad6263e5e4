/-! ===== the reference: is an ask ahead; opened; behind one ===== -/
theorem zh_on_s : ∀ ws, zs_iv ws → zh_on ws = (if zs_on ws = 0 then -1 else nI (zs_on ws)) ∧ zs_on ws < 100 ∧ (zs_on ws = 0 ∨ 40 ≤ zs_on ws) := by
  intro ws
  induction ws with
  | nil => intro _; exact ⟨rfl, by decide, Or.inl rfl⟩
  | cons c ws ih =>
    intro h
    by_cases z : 40 ≤ c
    · rw [show zs_on (c :: ws) = c from if_pos z, show zh_on (c :: ws) = nI c from if_pos z, if_neg (by omega)]
      exact ⟨rfl, h.2.1, Or.inr z⟩
    · rw [show zs_on (c :: ws) = zs_on ws from if_neg z, show zh_on (c :: ws) = zh_on ws from if_neg z]
      exact ih h.2.2
theorem zh_on_e {ws : List Nat} (h : zs_iv ws) {x : Nat} (hx : 40 ≤ x) (hx2 : x < 100) : (zh_on ws = nI x) = (zs_on ws = x) := by
  obtain ⟨h1, h2, h3⟩ := zh_on_s ws h
  rw [h1]
  by_cases z : zs_on ws = 0
  · rw [if_pos z]
    exact propext ⟨fun y => absurd y.symm (zt_ne (by omega)), fun y => by omega⟩
  · rw [if_neg z]
    exact propext (nI_eq (by omega) (by omega))
theorem c_isAskAhead {E : zm_E} (hE : zm_ok E.2.2.1 E.2.2.2.2) (d : Nat) {ws : List Nat} {M : zm_M} (hi : zs_iv ws) (hW : zh_W ws M) : zm_R E (d + 3) mX12_isAskAhead [.ref 0] M (fun r M' => r = some (.int (zi_b (zh_aa ws))) ∧ M' = M) := by
  refine zX12_isAskAhead hE rfl (fun G h0 h47 h51 h52 => ?_)
  show G 0 [some (.ref 0)] [] M
  have yes : zh_aa ws = true → G 47 [some (.ref 0)] [] M := by
    intro h
    refine h47 _ _ _ ?_
    simp only [bX12_isAskAhead_47, zw_0, zw_1, zs_iconst, zs_goto, zb_0, za_1, za_2, za_3, za_4, za_5, za_6, za_7, za_8, za_9, za_10, za_11, za_12, za_13, za_14, true_and, and_true, Nat.reduceAdd]
    refine h52 _ _ _ ?_
    simp only [bX12_isAskAhead_52, zw_0, zw_1, zs_ireturn, zn_int, zn_b0, zn_b1, zb_0, za_1, za_2, za_3, za_4, za_5, za_6, za_7, za_8, za_9, za_10, za_11, za_12, za_13, za_14, true_and, and_true, Nat.reduceAdd]
    rw [h]; rfl
  have no : zh_aa ws = false → G 51 [some (.ref 0)] [] M := by
    intro h
    refine h51 _ _ _ ?_
    simp only [bX12_isAskAhead_51, zw_0, zw_1, zs_iconst, zb_0, za_1, za_2, za_3, za_4, za_5, za_6, za_7, za_8, za_9, za_10, za_11, za_12, za_13, za_14, true_and, and_true, Nat.reduceAdd]
    refine h52 _ _ _ ?_
    simp only [bX12_isAskAhead_52, zw_0, zw_1, zs_ireturn, zn_int, zn_b0, zn_b1, zb_0, za_1, za_2, za_3, za_4, za_5, za_6, za_7, za_8, za_9, za_10, za_11, za_12, za_13, za_14, true_and, and_true, Nat.reduceAdd]
    rw [h]; rfl
  have e42 : (zh_on ws = 42) = (zs_on ws = 42) := zh_on_e hi (x := 42) (by decide) (by decide)
  refine h0 _ _ _ ?_
  simp only [bX12_isAskAhead_0, zw_0, zw_1, zs_aloadn0, zs_aloadNn0, zi_12_162, zs_bipush, zs_icne, zg_12_29, zg_12_145, zs_iconst, zs_isub, zs_iaload, zs_icge, zi_12_148, zi_12_69, zs_ifeq, zh_0, zh_1, zh_2, zh_3, zh_4, zt_i, zt_l, zt_r, zt_n, zb_0, za_1, za_2, za_3, za_4, za_5, za_6, za_7, za_8, za_9, za_10, za_11, za_12, za_13, za_14, zu_0, zu_1, zu_2, zu_3, zu_4, zu_5, zu_6, zu_7, zu_8, zu_9, zu_10, zu_11, zu_12, zu_13, zu_14, zu_15, zu_16, zu_17, zu_18, zu_19, zu_20, zu_21, zu_22, zu_23, zu_24, zu_25, zu_26, zu_27, zu_28, zu_29, zu_30, zu_90, zv_0_9, zv_1_9, zv_2_9, zv_3_9, zv_4_9, zv_5_9, zv_6_9, zv_7_9, zv_8_9, zv_0_330, zv_0_4544, zv_1_4544, zv_2_4544, zv_3_4544, zv_4_4544, zv_5_4544, zv_6_4544, zv_7_4544, zv_8_4544, zv_9_4544, zv_10_4544, zv_11_4544, zv_12_4544, zv_13_4544, zv_14_4544, zv_15_4544, zv_16_4544, zv_17_4544, zv_18_4544, zv_19_4544, zv_20_4544, zv_21_4544, zv_22_4544, zv_23_4544, zv_24_4544, zv_25_4544, zv_26_4544, zv_27_4544, zv_28_4544, zv_29_4544, zv_0_11, zv_1_11, zv_0_160, true_and, and_true, Nat.reduceAdd]
  refine zm_R_eq (c_openNow hE (d + 0) hW) ?_
  cases ws with
  | nil =>
    simp only [bX12_isAskAhead_0, zw_0, zw_1, zs_aloadn0, zs_aloadNn0, zi_12_162, zs_bipush, zs_icne, zg_12_29, zg_12_145, zs_iconst, zs_isub, zs_iaload, zs_icge, zi_12_148, zi_12_69, zs_ifeq, zh_0, zh_1, zh_2, zh_3, zh_4, zt_i, zt_l, zt_r, zt_n, zb_0, za_1, za_2, za_3, za_4, za_5, za_6, za_7, za_8, za_9, za_10, za_11, za_12, za_13, za_14, zu_0, zu_1, zu_2, zu_3, zu_4, zu_5, zu_6, zu_7, zu_8, zu_9, zu_10, zu_11, zu_12, zu_13, zu_14, zu_15, zu_16, zu_17, zu_18, zu_19, zu_20, zu_21, zu_22, zu_23, zu_24, zu_25, zu_26, zu_27, zu_28, zu_29, zu_30, zu_90, zv_0_9, zv_1_9, zv_2_9, zv_3_9, zv_4_9, zv_5_9, zv_6_9, zv_7_9, zv_8_9, zv_0_330, zv_0_4544, zv_1_4544, zv_2_4544, zv_3_4544, zv_4_4544, zv_5_4544, zv_6_4544, zv_7_4544, zv_8_4544, zv_9_4544, zv_10_4544, zv_11_4544, zv_12_4544, zv_13_4544, zv_14_4544, zv_15_4544, zv_16_4544, zv_17_4544, zv_18_4544, zv_19_4544, zv_20_4544, zv_21_4544, zv_22_4544, zv_23_4544, zv_24_4544, zv_25_4544, zv_26_4544, zv_27_4544, zv_28_4544, zv_29_4544, zv_0_11, zv_1_11, zv_0_160, true_and, and_true, Nat.reduceAdd, e42]
    exact ⟨fun _ => no rfl, fun h => absurd h (by decide)⟩
  | cons c us =>
    obtain ⟨w1, w2, w3, w4, w5⟩ := hW
    simp only [List.length_cons] at w1 w2
    have v1 : vp_in (nI us.length) 160 := vp_in_nI (by omega) (by decide)
    have v2 : (nI us.length).toNatClampNeg = us.length := nI_clamp (by omega)
    have e1 : nI (us.length + 1) - 1 = nI us.length := nI_pred _
    have e40 : ((40 : Int32) ≤ nI c) = (40 ≤ c) := propext (nI_leI (a := 40) (by decide) (by omega))
    have r7 := zk_rk_7 c
    simp only [bX12_isAskAhead_0, zw_0, zw_1, zs_aloadn0, zs_aloadNn0, zi_12_162, zs_bipush, zs_icne, zg_12_29, zg_12_145, zs_iconst, zs_isub, zs_iaload, zs_icge, zi_12_148, zi_12_69, zs_ifeq, zh_0, zh_1, zh_2, zh_3, zh_4, zt_i, zt_l, zt_r, zt_n, zb_0, za_1, za_2, za_3, za_4, za_5, za_6, za_7, za_8, za_9, za_10, za_11, za_12, za_13, za_14, zu_0, zu_1, zu_2, zu_3, zu_4, zu_5, zu_6, zu_7, zu_8, zu_9, zu_10, zu_11, zu_12, zu_13, zu_14, zu_15, zu_16, zu_17, zu_18, zu_19, zu_20, zu_21, zu_22, zu_23, zu_24, zu_25, zu_26, zu_27, zu_28, zu_29, zu_30, zu_90, zv_0_9, zv_1_9, zv_2_9, zv_3_9, zv_4_9, zv_5_9, zv_6_9, zv_7_9, zv_8_9, zv_0_330, zv_0_4544, zv_1_4544, zv_2_4544, zv_3_4544, zv_4_4544, zv_5_4544, zv_6_4544, zv_7_4544, zv_8_4544, zv_9_4544, zv_10_4544, zv_11_4544, zv_12_4544, zv_13_4544, zv_14_4544, zv_15_4544, zv_16_4544, zv_17_4544, zv_18_4544, zv_19_4544, zv_20_4544, zv_21_4544, zv_22_4544, zv_23_4544, zv_24_4544, zv_25_4544, zv_26_4544, zv_27_4544, zv_28_4544, zv_29_4544, zv_0_11, zv_1_11, zv_0_160, true_and, and_true, Nat.reduceAdd, e42, w1, e1, v1, v2, w3, e40]
    have aa : zh_aa (c :: us) = (decide (zs_on (c :: us) = 42) && (decide (40 ≤ c) || decide (1 ≤ zk_rk c ∧ zk_rk c ≤ 3))) := rfl
    refine ⟨fun h => no (by rw [aa, decide_eq_false h, Bool.false_and]), fun h => ⟨fun h2 => yes (by rw [aa, decide_eq_true h, decide_eq_true h2, Bool.true_or, Bool.true_and]), fun h2 => ?_⟩⟩
    refine zm_R_eq (c_rank hE (d + 1) w4 M) ?_
    simp only [bX12_isAskAhead_0, zw_0, zw_1, zs_aloadn0, zs_aloadNn0, zi_12_162, zs_bipush, zs_icne, zg_12_29, zg_12_145, zs_iconst, zs_isub, zs_iaload, zs_icge, zi_12_148, zi_12_69, zs_ifeq, zh_0, zh_1, zh_2, zh_3, zh_4, zt_i, zt_l, zt_r, zt_n, zb_0, za_1, za_2, za_3, za_4, za_5, za_6, za_7, za_8, za_9, za_10, za_11, za_12, za_13, za_14, zu_0, zu_1, zu_2, zu_3, zu_4, zu_5, zu_6, zu_7, zu_8, zu_9, zu_10, zu_11, zu_12, zu_13, zu_14, zu_15, zu_16, zu_17, zu_18, zu_19, zu_20, zu_21, zu_22, zu_23, zu_24, zu_25, zu_26, zu_27, zu_28, zu_29, zu_30, zu_90, zv_0_9, zv_1_9, zv_2_9, zv_3_9, zv_4_9, zv_5_9, zv_6_9, zv_7_9, zv_8_9, zv_0_330, zv_0_4544, zv_1_4544, zv_2_4544, zv_3_4544, zv_4_4544, zv_5_4544, zv_6_4544, zv_7_4544, zv_8_4544, zv_9_4544, zv_10_4544, zv_11_4544, zv_12_4544, zv_13_4544, zv_14_4544, zv_15_4544, zv_16_4544, zv_17_4544, zv_18_4544, zv_19_4544, zv_20_4544, zv_21_4544, zv_22_4544, zv_23_4544, zv_24_4544, zv_25_4544, zv_26_4544, zv_27_4544, zv_28_4544, zv_29_4544, zv_0_11, zv_1_11, zv_0_160, true_and, and_true, Nat.reduceAdd]
    refine zm_R_eq (c_isIn hE (d + 1) _ _ _ M) ?_
    simp only [bX12_isAskAhead_0, zw_0, zw_1, zs_aloadn0, zs_aloadNn0, zi_12_162, zs_bipush, zs_icne, zg_12_29, zg_12_145, zs_iconst, zs_isub, zs_iaload, zs_icge, zi_12_148, zi_12_69, zs_ifeq, zh_0, zh_1, zh_2, zh_3, zh_4, zt_i, zt_l, zt_r, zt_n, zb_0, za_1, za_2, za_3, za_4, za_5, za_6, za_7, za_8, za_9, za_10, za_11, za_12, za_13, za_14, zu_0, zu_1, zu_2, zu_3, zu_4, zu_5, zu_6, zu_7, zu_8, zu_9, zu_10, zu_11, zu_12, zu_13, zu_14, zu_15, zu_16, zu_17, zu_18, zu_19, zu_20, zu_21, zu_22, zu_23, zu_24, zu_25, zu_26, zu_27, zu_28, zu_29, zu_30, zu_90, zv_0_9, zv_1_9, zv_2_9, zv_3_9, zv_4_9, zv_5_9, zv_6_9, zv_7_9, zv_8_9, zv_0_330, zv_0_4544, zv_1_4544, zv_2_4544, zv_3_4544, zv_4_4544, zv_5_4544, zv_6_4544, zv_7_4544, zv_8_4544, zv_9_4544, zv_10_4544, zv_11_4544, zv_12_4544, zv_13_4544, zv_14_4544, zv_15_4544, zv_16_4544, zv_17_4544, zv_18_4544, zv_19_4544, zv_20_4544, zv_21_4544, zv_22_4544, zv_23_4544, zv_24_4544, zv_25_4544, zv_26_4544, zv_27_4544, zv_28_4544, zv_29_4544, zv_0_11, zv_1_11, zv_0_160, true_and, and_true, Nat.reduceAdd]
    have ei : (zi_in (nI (zk_rk c)) 1 3 = 0) = ¬ (1 ≤ zk_rk c ∧ zk_rk c ≤ 3) := by
      have : ∀ x, x ≤ 7 → (zi_in (nI x) 1 3 = 0) = ¬ (1 ≤ x ∧ x ≤ 3) := by
        intro x hx
        rcases (show x = 0 ∨ x = 1 ∨ x = 2 ∨ x = 3 ∨ x = 4 ∨ x = 5 ∨ x = 6 ∨ x = 7 by omega) with rfl | rfl | rfl | rfl | rfl | rfl | rfl | rfl <;> simp [zi_in] <;> decide
      exact this _ r7
    rw [ei]
    refine ⟨fun z => no ?_, fun z => yes ?_⟩
    · rw [aa, decide_eq_false z, decide_eq_false h2, Bool.or_false, Bool.and_false]
    · rw [aa, decide_eq_true h, decide_eq_true (Classical.byContradiction z), Bool.or_true, Bool.true_and]
theorem zs_V_push {m c0 k o c : Nat} {ws : List Nat} {cs : List (Nat × Nat)} (h : zs_V m c0 k ws o cs) (hk : k < m) (hc : c < 100) (ho : o < 8) (hop : zk_rk c = 7 ∨ c = 20 ∨ 40 ≤ c) : zs_V m c0 (k + 1) (c :: ws) (o + 1) cs := by
  obtain ⟨a1, a2, a3, a4, a5, a6⟩ := h
  refine ⟨⟨Or.inl hop, hc, a1⟩, ?_, by omega, by simp only [List.length_cons]; omega, by omega, a6⟩
  simp only [zs_cn]
  rw [if_pos hop]; omega
theorem c_opened {E : zm_E} (hE : zm_ok E.2.2.1 E.2.2.2.2) (d : Nat) {tp : Nat → Nat} {n m b c0 cl k o c : Nat} {ws : List Nat} {cs : List (Nat × Nat)} {M : zm_M} (hm : zk_st tp n m = n) (hT : ¬ zs_T tp n k = 43) (hc : c < 100) (hop : zk_rk c = 7 ∨ c = 20 ∨ 40 ≤ c) (hV : zs_V m c0 k ws o cs) (hS : zh_S tp n b c0 cl k ws o false cs M) : zm_R E (d + 3) mX12_opened [.ref 0, .int (nI c)] M (fun r M' => zh_X tp n m b c0 cl (zs_opn k c ws o cs) M r M') := by
  refine zX12_opened hE rfl (fun G h0 h11 => ?_)
  show G 0 [some (.ref 0), some (.int (nI c))] [] M
  have o8 := hV.2.2.1
  have len := zs_len62 hV.1 (by rw [hV.2.1]; exact o8)
  have l := zs_T_lt hm hS.1.1.2.2.2 hV.2.2.2.2.1 hT
  have e8 : (nI o = 8) = (o = 8) := propext (nI_eq (b := 8) (by omega) (by decide))
  have s17 := hS.2.2.1
  refine h0 _ _ _ ?_
  simp only [bX12_opened_0, zw_0, zw_1, zs_aloadn0, zs_aloadNn0, zg_12_155, zs_bipush, zs_icne, zs_iconst, zs_ireturn, zn_int, zn_b0, zn_b1, zb_0, za_1, za_2, za_3, za_4, za_5, za_6, za_7, za_8, za_9, za_10, za_11, za_12, za_13, za_14, true_and, and_true, Nat.reduceAdd, s17, e8]
  refine ⟨fun h => ?_, fun h => ?_⟩
  · have V1 := zs_V_push hV l.1 hc (by omega) hop
    have S1 := zh_S_push (zh_S_o hS (o + 1)) (by omega) c hc
    have F1 : zh_F b c0 M (zm_wi (zm_wi (zm_wi M 0 17 (nI (o + 1))) 5 ws.length (nI c)) 0 16 (nI (ws.length + 1))) := zh_F_0 (zh_F_5 (zh_F_0 zh_F_refl (by decide))) (by decide)
    have v1 : vp_in (nI ws.length) 160 := vp_in_nI (by omega) (by decide)
    have v2 : (nI ws.length).toNatClampNeg = ws.length := nI_clamp (by omega)
    have a16 : (zm_wi M 0 17 (nI (o + 1))).1 0 16 = nI ws.length := by rw [zm_wi_same, if_neg (by decide)]; exact hS.2.1.1
    have b16 : (zm_wi (zm_wi M 0 17 (nI (o + 1))) 5 ws.length (nI c)).1 0 16 = nI ws.length := by rw [zm_wi_other (by decide)]; exact a16
    refine h11 _ _ _ ?_
    simp only [bX12_opened_11, zw_0, zw_1, zs_aloadn0, zs_aloadNn0, zs_dupi, zs_dupr, zs_dupn, zg_12_155, zs_iconst, zs_iadd, zq_12_155, zg_12_29, zg_12_145, zs_iloadn1, zs_iastore, zq_12_145, zi_12_165, zs_ireturn, zh_0, zh_1, zh_2, zh_3, zh_4, zt_i, zt_l, zt_r, zt_n, zn_int, zn_b0, zn_b1, zb_0, za_1, za_2, za_3, za_4, za_5, za_6, za_7, za_8, za_9, za_10, za_11, za_12, za_13, za_14, zu_0, zu_1, zu_2, zu_3, zu_4, zu_5, zu_6, zu_7, zu_8, zu_9, zu_10, zu_11, zu_12, zu_13, zu_14, zu_15, zu_16, zu_17, zu_18, zu_19, zu_20, zu_21, zu_22, zu_23, zu_24, zu_25, zu_26, zu_27, zu_28, zu_29, zu_30, zu_90, zv_0_9, zv_1_9, zv_2_9, zv_3_9, zv_4_9, zv_5_9, zv_6_9, zv_7_9, zv_8_9, zv_0_330, zv_0_4544, zv_1_4544, zv_2_4544, zv_3_4544, zv_4_4544, zv_5_4544, zv_6_4544, zv_7_4544, zv_8_4544, zv_9_4544, zv_10_4544, zv_11_4544, zv_12_4544, zv_13_4544, zv_14_4544, zv_15_4544, zv_16_4544, zv_17_4544, zv_18_4544, zv_19_4544, zv_20_4544, zv_21_4544, zv_22_4544, zv_23_4544, zv_24_4544, zv_25_4544, zv_26_4544, zv_27_4544, zv_28_4544, zv_29_4544, zv_0_11, zv_1_11, zv_0_160, true_and, and_true, Nat.reduceAdd, s17, nI_1, a16, v1, v2, b16]
    refine c_nx hE (d + 0) hm hV.2.2.2.2.1 hT S1 (fun M2 S2 F2 => ?_)
    simp only [bX12_opened_11, zw_0, zw_1, zs_aloadn0, zs_aloadNn0, zs_dupi, zs_dupr, zs_dupn, zg_12_155, zs_iconst, zs_iadd, zq_12_155, zg_12_29, zg_12_145, zs_iloadn1, zs_iastore, zq_12_145, zi_12_165, zs_ireturn, zh_0, zh_1, zh_2, zh_3, zh_4, zt_i, zt_l, zt_r, zt_n, zn_int, zn_b0, zn_b1, zb_0, za_1, za_2, za_3, za_4, za_5, za_6, za_7, za_8, za_9, za_10, za_11, za_12, za_13, za_14, zu_0, zu_1, zu_2, zu_3, zu_4, zu_5, zu_6, zu_7, zu_8, zu_9, zu_10, zu_11, zu_12, zu_13, zu_14, zu_15, zu_16, zu_17, zu_18, zu_19, zu_20, zu_21, zu_22, zu_23, zu_24, zu_25, zu_26, zu_27, zu_28, zu_29, zu_30, zu_90, zv_0_9, zv_1_9, zv_2_9, zv_3_9, zv_4_9, zv_5_9, zv_6_9, zv_7_9, zv_8_9, zv_0_330, zv_0_4544, zv_1_4544, zv_2_4544, zv_3_4544, zv_4_4544, zv_5_4544, zv_6_4544, zv_7_4544, zv_8_4544, zv_9_4544, zv_10_4544, zv_11_4544, zv_12_4544, zv_13_4544, zv_14_4544, zv_15_4544, zv_16_4544, zv_17_4544, zv_18_4544, zv_19_4544, zv_20_4544, zv_21_4544, zv_22_4544, zv_23_4544, zv_24_4544, zv_25_4544, zv_26_4544, zv_27_4544, zv_28_4544, zv_29_4544, zv_0_11, zv_1_11, zv_0_160, true_and, and_true, Nat.reduceAdd]
    unfold zs_opn
    rw [if_neg h]
    exact ⟨zh_F_trans F1 F2, rfl, S2, V1⟩
  · unfold zs_opn
    rw [if_pos h]
    exact ⟨zh_F_refl, rfl, hS.1.1, hS.1.2, fun _ => rfl⟩
theorem zs_se_41 : ∀ (ws : List Nat) (r o : Nat) (cs : List (Nat × Nat)), zs_iv ws → ∀ c us, (zs_se r ws o cs).1 = c :: us → zk_rk c < r := by
  intro ws
  induction ws with
  | nil => intro r o cs _ c us h; simp [zs_se] at h
  | cons x ws ih =>
    intro r o cs hi c us h
    simp only [zs_se] at h
    split at h
    · exact ih r _ _ hi.2.2 c us h
    · have := (List.cons.inj h).1
      rw [← this]; omega
theorem c_endOne {E : zm_E} (hE : zm_ok E.2.2.1 E.2.2.2.2) (d : Nat) {tp : Nat → Nat} {n m b c0 cl k o : Nat} {ws : List Nat} {wh : Bool} {cs : List (Nat × Nat)} {M : zm_M} (hm : zk_st tp n m = n) (hb : b ≤ 2115) (hV : zs_V m c0 k ws o cs) (hS : zh_S tp n b c0 cl k ws o wh cs M) : zm_R E (d + 3) mX12_endOne [.ref 0] M (fun r M' => zh_X tp n m b c0 cl (zs_eo (zs_T tp n) k ws o cs) M r M') := by
  refine zX12_endOne hE rfl (fun G h0 h34 h36 h52 => ?_)
  show G 0 [some (.ref 0)] [] M
  refine h0 _ _ _ ?_
  simp only [bX12_endOne_0, zw_0, zw_1, zs_aloadn0, zs_aloadNn0, zs_bipush, zi_12_192, zs_iconst, zq_12_195, zg_12_145, zs_ifeq, zg_12_29, zs_isub, zs_iaload, zs_iceq, zh_0, zh_1, zh_2, zh_3, zh_4, zt_i, zt_l, zt_r, zt_n, zb_0, za_1, za_2, za_3, za_4, za_5, za_6, za_7, za_8, za_9, za_10, za_11, za_12, za_13, za_14, zu_0, zu_1, zu_2, zu_3, zu_4, zu_5, zu_6, zu_7, zu_8, zu_9, zu_10, zu_11, zu_12, zu_13, zu_14, zu_15, zu_16, zu_17, zu_18, zu_19, zu_20, zu_21, zu_22, zu_23, zu_24, zu_25, zu_26, zu_27, zu_28, zu_29, zu_30, zu_90, zv_0_9, zv_1_9, zv_2_9, zv_3_9, zv_4_9, zv_5_9, zv_6_9, zv_7_9, zv_8_9, zv_0_330, zv_0_4544, zv_1_4544, zv_2_4544, zv_3_4544, zv_4_4544, zv_5_4544, zv_6_4544, zv_7_4544, zv_8_4544, zv_9_4544, zv_10_4544, zv_11_4544, zv_12_4544, zv_13_4544, zv_14_4544, zv_15_4544, zv_16_4544, zv_17_4544, zv_18_4544, zv_19_4544, zv_20_4544, zv_21_4544, zv_22_4544, zv_23_4544, zv_24_4544, zv_25_4544, zv_26_4544, zv_27_4544, zv_28_4544, zv_29_4544, zv_0_11, zv_1_11, zv_0_160, true_and, and_true, Nat.reduceAdd]
  refine zm_R_mono (c_settle hE (d + 0) (r := 7) (by decide) (by decide) hb ws o cs M hV hS) (fun r M1 h1 => ?_)
  have hz : zs_eo (zs_T tp n) k ws o cs = zs_end (zs_T tp n) k (zs_se 7 ws o cs) := rfl
  generalize zs_se 7 ws o cs = z at h1 hz
  obtain ⟨us, o1, cs1⟩ := z
  obtain ⟨rfl, S1, V1, F1⟩ := h1
  simp only at S1 V1
  have S2 := zh_S_wh S1 true
  have F2 : zh_F b c0 M (zm_wi M1 0 18 (zi_b true)) := zh_F_0 F1 (by decide)
  rw [show zi_b true = 1 from rfl] at S2 F2
  have a16 := S2.2.1.1
  cases us with
  | nil =>
    simp only [bX12_endOne_0, zw_0, zw_1, zs_aloadn0, zs_aloadNn0, zs_bipush, zi_12_192, zs_iconst, zq_12_195, zg_12_145, zs_ifeq, zg_12_29, zs_isub, zs_iaload, zs_iceq, zh_0, zh_1, zh_2, zh_3, zh_4, zt_i, zt_l, zt_r, zt_n, zb_0, za_1, za_2, za_3, za_4, za_5, za_6, za_7, za_8, za_9, za_10, za_11, za_12, za_13, za_14, zu_0, zu_1, zu_2, zu_3, zu_4, zu_5, zu_6, zu_7, zu_8, zu_9, zu_10, zu_11, zu_12, zu_13, zu_14, zu_15, zu_16, zu_17, zu_18, zu_19, zu_20, zu_21, zu_22, zu_23, zu_24, zu_25, zu_26, zu_27, zu_28, zu_29, zu_30, zu_90, zv_0_9, zv_1_9, zv_2_9, zv_3_9, zv_4_9, zv_5_9, zv_6_9, zv_7_9, zv_8_9, zv_0_330, zv_0_4544, zv_1_4544, zv_2_4544, zv_3_4544, zv_4_4544, zv_5_4544, zv_6_4544, zv_7_4544, zv_8_4544, zv_9_4544, zv_10_4544, zv_11_4544, zv_12_4544, zv_13_4544, zv_14_4544, zv_15_4544, zv_16_4544, zv_17_4544, zv_18_4544, zv_19_4544, zv_20_4544, zv_21_4544, zv_22_4544, zv_23_4544, zv_24_4544, zv_25_4544, zv_26_4544, zv_27_4544, zv_28_4544, zv_29_4544, zv_0_11, zv_1_11, zv_0_160, true_and, and_true, Nat.reduceAdd, a16]
    refine ⟨Or.inr trivial, fun _ => ?_, fun h => absurd rfl h⟩
    refine h34 _ _ _ ?_
    simp only [bX12_endOne_34, zw_0, zw_1, zs_iconst, zs_ireturn, zn_int, zn_b0, zn_b1, zb_0, za_1, za_2, za_3, za_4, za_5, za_6, za_7, za_8, za_9, za_10, za_11, za_12, za_13, za_14, true_and, and_true, Nat.reduceAdd]
    rw [hz]
    exact ⟨F2, rfl, S2, V1⟩
  | cons c us =>
    obtain ⟨w1, w2, w3, w4, w5⟩ := S2.2.1
    simp only [List.length_cons] at w1 w2
    have v1 : vp_in (nI us.length) 160 := vp_in_nI (by omega) (by decide)
    have v2 : (nI us.length).toNatClampNeg = us.length := nI_clamp (by omega)
    have e1 : nI (us.length + 1) - 1 = nI us.length := nI_pred _
    have e41 : (nI c = 41) = (c = 41) := propext (nI_eq (b := 41) (by omega) (by decide))
    simp only [bX12_endOne_0, zw_0, zw_1, zs_aloadn0, zs_aloadNn0, zs_bipush, zi_12_192, zs_iconst, zq_12_195, zg_12_145, zs_ifeq, zg_12_29, zs_isub, zs_iaload, zs_iceq, zh_0, zh_1, zh_2, zh_3, zh_4, zt_i, zt_l, zt_r, zt_n, zb_0, za_1, za_2, za_3, za_4, za_5, za_6, za_7, za_8, za_9, za_10, za_11, za_12, za_13, za_14, zu_0, zu_1, zu_2, zu_3, zu_4, zu_5, zu_6, zu_7, zu_8, zu_9, zu_10, zu_11, zu_12, zu_13, zu_14, zu_15, zu_16, zu_17, zu_18, zu_19, zu_20, zu_21, zu_22, zu_23, zu_24, zu_25, zu_26, zu_27, zu_28, zu_29, zu_30, zu_90, zv_0_9, zv_1_9, zv_2_9, zv_3_9, zv_4_9, zv_5_9, zv_6_9, zv_7_9, zv_8_9, zv_0_330, zv_0_4544, zv_1_4544, zv_2_4544, zv_3_4544, zv_4_4544, zv_5_4544, zv_6_4544, zv_7_4544, zv_8_4544, zv_9_4544, zv_10_4544, zv_11_4544, zv_12_4544, zv_13_4544, zv_14_4544, zv_15_4544, zv_16_4544, zv_17_4544, zv_18_4544, zv_19_4544, zv_20_4544, zv_21_4544, zv_22_4544, zv_23_4544, zv_24_4544, zv_25_4544, zv_26_4544, zv_27_4544, zv_28_4544, zv_29_4544, zv_0_11, zv_1_11, zv_0_160, true_and, and_true, Nat.reduceAdd, w1, e1, v1, v2, w3, e41]
    simp only [zs_end] at hz
    refine ⟨Or.inr trivial, fun h => absurd h (nI_ne0 (by omega) (by omega)), fun _ => ⟨fun h => ?_, fun h => ?_⟩⟩
    · rw [if_pos h] at hz
      refine h36 _ _ _ ?_
      simp only [bX12_endOne_36, zw_0, zw_1, zs_aloadn0, zs_aloadNn0, zs_bipush, zi_12_120, zi_12_184, zs_ifne, zs_iconst, zs_ireturn, zh_0, zh_1, zh_2, zh_3, zh_4, zt_i, zt_l, zt_r, zt_n, zn_int, zn_b0, zn_b1, zb_0, za_1, za_2, za_3, za_4, za_5, za_6, za_7, za_8, za_9, za_10, za_11, za_12, za_13, za_14, true_and, and_true, Nat.reduceAdd]
      refine zm_R_eq (c_w2 hE (d + 1) 98 121 (by decide) (by decide) _) ?_
      simp only [bX12_endOne_36, zw_0, zw_1, zs_aloadn0, zs_aloadNn0, zs_bipush, zi_12_120, zi_12_184, zs_ifne, zs_iconst, zs_ireturn, zh_0, zh_1, zh_2, zh_3, zh_4, zt_i, zt_l, zt_r, zt_n, zn_int, zn_b0, zn_b1, zb_0, za_1, za_2, za_3, za_4, za_5, za_6, za_7, za_8, za_9, za_10, za_11, za_12, za_13, za_14, true_and, and_true, Nat.reduceAdd]
      have d1 : (decide (zk_w tp n (zk_st tp n k) = 19) = false) = ¬ (zk_w tp n (zk_st tp n k) = 19) := by simp
      refine zm_R_eq (c_isWord hE (d + 1) (i := 19) S2.1.1.2.2.2 S2.1.2 (by decide) (by decide)) ?_
      simp only [bX12_endOne_36, zw_0, zw_1, zs_aloadn0, zs_aloadNn0, zs_bipush, zi_12_120, zi_12_184, zs_ifne, zs_iconst, zs_ireturn, zh_0, zh_1, zh_2, zh_3, zh_4, zt_i, zt_l, zt_r, zt_n, zn_int, zn_b0, zn_b1, zb_0, za_1, za_2, za_3, za_4, za_5, za_6, za_7, za_8, za_9, za_10, za_11, za_12, za_13, za_14, true_and, and_true, Nat.reduceAdd, zi_b0, d1]
      refine ⟨fun h2 => ?_, fun h2 => ?_⟩
      · have h3 : zs_T tp n k = 19 := Classical.byContradiction h2
        rw [if_pos h3] at hz
        refine h52 _ _ _ ?_
        simp only [bX12_endOne_52, zw_0, zw_1, zs_aloadn0, zs_aloadNn0, zi_12_165, zg_12_29, zg_12_145, zs_iconst, zs_isub, zs_iastore, zq_12_195, zs_ireturn, zh_0, zh_1, zh_2, zh_3, zh_4, zt_i, zt_l, zt_r, zt_n, zn_int, zn_b0, zn_b1, zb_0, za_1, za_2, za_3, za_4, za_5, za_6, za_7, za_8, za_9, za_10, za_11, za_12, za_13, za_14, zu_0, zu_1, zu_2, zu_3, zu_4, zu_5, zu_6, zu_7, zu_8, zu_9, zu_10, zu_11, zu_12, zu_13, zu_14, zu_15, zu_16, zu_17, zu_18, zu_19, zu_20, zu_21, zu_22, zu_23, zu_24, zu_25, zu_26, zu_27, zu_28, zu_29, zu_30, zu_90, zv_0_9, zv_1_9, zv_2_9, zv_3_9, zv_4_9, zv_5_9, zv_6_9, zv_7_9, zv_8_9, zv_0_330, zv_0_4544, zv_1_4544, zv_2_4544, zv_3_4544, zv_4_4544, zv_5_4544, zv_6_4544, zv_7_4544, zv_8_4544, zv_9_4544, zv_10_4544, zv_11_4544, zv_12_4544, zv_13_4544, zv_14_4544, zv_15_4544, zv_16_4544, zv_17_4544, zv_18_4544, zv_19_4544, zv_20_4544, zv_21_4544, zv_22_4544, zv_23_4544, zv_24_4544, zv_25_4544, zv_26_4544, zv_27_4544, zv_28_4544, zv_29_4544, zv_0_11, zv_1_11, zv_0_160, true_and, and_true, Nat.reduceAdd]
        refine c_nx hE (d + 0) hm V1.2.2.2.2.1 (by omega) S2 (fun M3 S3 F3 => ?_)
        have b16 : M3.1 0 16 = nI (us.length + 1) := S3.2.1.1
        simp only [bX12_endOne_52, zw_0, zw_1, zs_aloadn0, zs_aloadNn0, zi_12_165, zg_12_29, zg_12_145, zs_iconst, zs_isub, zs_iastore, zq_12_195, zs_ireturn, zh_0, zh_1, zh_2, zh_3, zh_4, zt_i, zt_l, zt_r, zt_n, zn_int, zn_b0, zn_b1, zb_0, za_1, za_2, za_3, za_4, za_5, za_6, za_7, za_8, za_9, za_10, za_11, za_12, za_13, za_14, zu_0, zu_1, zu_2, zu_3, zu_4, zu_5, zu_6, zu_7, zu_8, zu_9, zu_10, zu_11, zu_12, zu_13, zu_14, zu_15, zu_16, zu_17, zu_18, zu_19, zu_20, zu_21, zu_22, zu_23, zu_24, zu_25, zu_26, zu_27, zu_28, zu_29, zu_30, zu_90, zv_0_9, zv_1_9, zv_2_9, zv_3_9, zv_4_9, zv_5_9, zv_6_9, zv_7_9, zv_8_9, zv_0_330, zv_0_4544, zv_1_4544, zv_2_4544, zv_3_4544, zv_4_4544, zv_5_4544, zv_6_4544, zv_7_4544, zv_8_4544, zv_9_4544, zv_10_4544, zv_11_4544, zv_12_4544, zv_13_4544, zv_14_4544, zv_15_4544, zv_16_4544, zv_17_4544, zv_18_4544, zv_19_4544, zv_20_4544, zv_21_4544, zv_22_4544, zv_23_4544, zv_24_4544, zv_25_4544, zv_26_4544, zv_27_4544, zv_28_4544, zv_29_4544, zv_0_11, zv_1_11, zv_0_160, true_and, and_true, Nat.reduceAdd, b16, e1, v1, v2, true_or]
        have S4 := zh_S_wh (zh_S_top S3 4 (by decide)) false
        have k1 := zs_T_lt hm S2.1.1.2.2.2 V1.2.2.2.2.1 (by omega)
        rw [hz]
        refine ⟨zh_F_0 (zh_F_5 (zh_F_trans F2 F3)) (by decide), rfl, S4, ?_⟩
        obtain ⟨x1, x2, x3, x4, x5, x6⟩ := V1
        subst h
        refine ⟨⟨Or.inl (Or.inl rfl), by decide, x1.2.2⟩, ?_, x3, ?_, by omega, x6⟩
        · simp only [zs_cn] at x2 ⊢
          exact x2
        · simp only [List.length_cons] at x4 ⊢; omega
      · have h3 : ¬ zs_T tp n k = 19 := h2
        rw [if_neg h3] at hz
        rw [hz]
        exact ⟨F2, rfl, S2.1.1, S2.1.2, fun z => absurd z (by decide)⟩
    · rw [if_neg h] at hz
      refine h34 _ _ _ ?_
      simp only [bX12_endOne_34, zw_0, zw_1, zs_iconst, zs_ireturn, zn_int, zn_b0, zn_b1, zb_0, za_1, za_2, za_3, za_4, za_5, za_6, za_7, za_8, za_9, za_10, za_11, za_12, za_13, za_14, true_and, and_true, Nat.reduceAdd]
      rw [hz]
      exact ⟨F2, rfl, S2, V1⟩
