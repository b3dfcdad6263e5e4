/-! ===== the reference: a clause ===== -/
theorem zu_or : ∀ mk, mk < 8 → ∀ w, w < 3 → mk.testBit w = false → nI mk ||| (1 : Int32) <<< (nI w &&& 31) = nI (mk + 2 ^ w) := by decide +kernel
theorem zu_hs : ∀ mk, mk < 8 → ∀ w, w < 3 → (zi_has (nI mk) (nI w) = 0) = (mk.testBit w = false) := by
  intro mk h1 w h2
  have : ∀ mk, mk < 8 → ∀ w, w < 3 → (zi_has (nI mk) (nI w) = 0 ↔ mk.testBit w = false) := by decide +kernel
  exact propext (this mk h1 w h2)
theorem zu_bt : ∀ mk, mk < 8 → ∀ w, w < 3 → mk.testBit w = false → mk + 2 ^ w < 8 ∧ ∀ v, v < 3 → (mk + 2 ^ w).testBit v = (decide (v = w) || mk.testBit v) := by decide +kernel
section
variable {E : zm_E} {tp : Nat → Nat} {n : Nat}
def zu_33 (tp : Nat → Nat) (n t k nn w mk : Nat) (M M3 : zm_M) : Prop := zk_tm tp n M3 ∧ zk_at tp n (zk_st tp n (k + 1)) M3 ∧ M3.1 0 14 = nI w ∧ M3.1 0 19 = nI (if w ≤ 2 then mk + 2 ^ w else mk) ∧ (∀ j, M3.1 3 j = if j = 705 * t + 1 + 4 * nn then nI w else M.1 3 j) ∧ zf [0, 3] M M3 ∧ zg 0 [7, 8, 9, 10, 14, 19] M M3 ∧ ∀ j, j ≠ 11 → M3.2.1 0 j = M.2.1 0 j
theorem zu_clause (hE : zm_ok E.2.2.1 E.2.2.2.2) (d : Nat) {m t k nn mk : Nat} {M : zm_M} (ht4 : t < 4) (hm : zk_st tp n m = n) (hkm : k ≤ m) (h43 : ¬ zs_T tp n k = 43) (hT : zk_tm tp n M) (hA : zk_at tp n (zk_st tp n k) M) (h12 : M.1 0 12 = nI (705 * t)) (h19 : M.1 0 19 = nI mk) (hmk : mk < 8) (hn : nn ≤ 24) (h3 : M.1 3 (705 * t) = nI nn) {Q : Option Value → zm_M → Prop} (q1 : ¬ zs_T tp n k < 9 → Q (some (.int 1)) M) (q4 : zs_T tp n k ≤ 2 → mk.testBit (zs_T tp n k) = true → Q (some (.int 4)) M) (q6 : nn = 24 → zs_T tp n k < 9 → (zs_T tp n k ≤ 2 → mk.testBit (zs_T tp n k) = false) → Q (some (.int 6)) M) (q : nn < 24 → zs_T tp n k < 9 → (zs_T tp n k ≤ 2 → mk.testBit (zs_T tp n k) = false) → ∀ M3, zu_33 tp n t k nn (zs_T tp n k) mk M M3 → ∃ Qb : Nat → zm_M → Prop, zm_R E (d + 9) mX12_body [.ref 0, .int (nI (zs_T tp n k)), .int (nI (705 * t + 1 + 4 * nn))] M3 (fun r M' => ∃ f : Nat, r = some (.int (nI f)) ∧ f ≤ 5 ∧ Qb f M') ∧ (∀ f M', ¬ f = 0 → f ≤ 5 → Qb f M' → Q (some (.int (nI f))) M') ∧ (∀ M', Qb 0 M' → ∃ k', k' ≤ m ∧ M'.1 0 12 = nI (705 * t) ∧ M'.1 3 (705 * t) = nI nn ∧ zk_tm tp n M' ∧ zk_at tp n (zk_st tp n k') M' ∧ (¬ zs_T tp n k' = 40 → Q (some (.int 1)) (zm_wi M' 3 (705 * t) (nI (nn + 1)))) ∧ (zs_T tp n k' = 40 → ∀ M'', zk_at tp n (zk_st tp n (k' + 1)) M'' → zk_f (zm_wi M' 3 (705 * t) (nI (nn + 1))) M'' → Q (some (.int 0)) M''))) : zm_R E (d + 10) mX12_clause [.ref 0] M Q := by
  refine zX12_clause hE rfl (fun G h0 h11 h29 h48 h65 h108 h132 => ?_)
  show G 0 [some (.ref 0), none, none, none, none] [] M
  have ht := hT.2.2.2
  have l := zs_T_lt hm ht hkm h43
  refine h0 _ _ _ ?_
  simp only [bX12_clause_0, zw_0, zw_1, zs_aloadn0, zs_aloadNn0, zi_12_238, zs_istoren1, zs_iloadn1, zs_ifge, zs_iconst, zs_ireturn, zc_none, zc_int, zc_ref, zc_null, zc_long, zh_0, zh_1, zh_2, zh_3, zh_4, zt_i, zt_l, zt_r, zt_n, zn_int, zn_b0, zn_b1, zb_0, za_1, za_2, za_3, za_4, za_5, za_6, za_7, za_8, za_9, za_10, za_11, za_12, za_13, za_14, true_and, and_true, Nat.reduceAdd]
  refine zm_R_eq (c_sortOf hE (d + 3) hT hA) ?_
  by_cases t9 : zs_T tp n k < 9
  rotate_left
  · have nn : (if zk_w tp n (zk_st tp n k) < 9 then nI (zk_w tp n (zk_st tp n k)) else -1) = (-1 : Int32) := if_neg t9
    rw [nn]
    simp only [bX12_clause_0, zw_0, zw_1, zs_aloadn0, zs_aloadNn0, zi_12_238, zs_istoren1, zs_iloadn1, zs_ifge, zs_iconst, zs_ireturn, zc_none, zc_int, zc_ref, zc_null, zc_long, zh_0, zh_1, zh_2, zh_3, zh_4, zt_i, zt_l, zt_r, zt_n, zn_int, zn_b0, zn_b1, zb_0, za_1, za_2, za_3, za_4, za_5, za_6, za_7, za_8, za_9, za_10, za_11, za_12, za_13, za_14, true_and, and_true, Nat.reduceAdd]
    exact ⟨fun h => absurd h (by decide), fun _ => q1 t9⟩
  have nn' : (if zk_w tp n (zk_st tp n k) < 9 then nI (zk_w tp n (zk_st tp n k)) else -1) = nI (zs_T tp n k) := if_pos t9
  rw [nn']
  have q := fun lt => q lt t9
  have q6 := fun e => q6 e t9
  generalize hw : zs_T tp n k = w at *
  have gt2 : ((2 : Int32) < nI w) = (2 < w) := propext (nI_ltI (a := 2) (by decide) (by omega))
  have e24 : (nI nn = 24) = (nn = 24) := propext (nI_eq (b := 24) (by omega) (by decide))
  have v1 : vp_in (nI (705 * t)) 2820 := vp_in_nI (by omega) (by decide)
  have v2 : (nI (705 * t)).toNatClampNeg = 705 * t := nI_clamp (by omega)
  have v3 : vp_in (nI (705 * t + 1 + 4 * nn)) 2820 := vp_in_nI (by omega) (by decide)
  have v4 : (nI (705 * t + 1 + 4 * nn)).toNatClampNeg = 705 * t + 1 + 4 * nn := nI_clamp (by omega)
  have ex : nI (705 * t + 1) + 4 * nI nn = nI (705 * t + 1 + 4 * nn) := by
    rw [show (4 : Int32) * nI nn = nI (4 * nn) from pk_mul 4 nn, nI_add]
  simp only [bX12_clause_0, zw_0, zw_1, zs_aloadn0, zs_aloadNn0, zi_12_238, zs_istoren1, zs_iloadn1, zs_ifge, zs_iconst, zs_ireturn, zc_none, zc_int, zc_ref, zc_null, zc_long, zh_0, zh_1, zh_2, zh_3, zh_4, zt_i, zt_l, zt_r, zt_n, zn_int, zn_b0, zn_b1, zb_0, za_1, za_2, za_3, za_4, za_5, za_6, za_7, za_8, za_9, za_10, za_11, za_12, za_13, za_14, true_and, and_true, Nat.reduceAdd]
  refine ⟨fun _ => ?_, fun h => absurd (zr_pos (by omega)) h⟩
  have at65 : nn < 24 → (w ≤ 2 → mk.testBit w = false) → ∀ M1 l3 l4, (M1.1 0 19 = nI (if w ≤ 2 then mk + 2 ^ w else mk)) → (∀ j, j ≠ 19 → M1.1 0 j = M.1 0 j) → (∀ q, q ≠ 0 → M1.1 q = M.1 q) → M1.2 = M.2 → G 65 [some (.ref 0), some (.int (nI w)), some (.int (nI nn)), l3, l4] [] M1 := by
    intro lt hb M1 l3 l4 a19 aj aq a2
    have T2 : zk_tm tp n (zm_wi M1 0 14 (nI w)) := ⟨hT.1, by rw [zm_wi_same, if_neg (by decide), aj 4 (by decide)]; exact hT.2.1, fun i hi => by rw [zm_wi_other (by decide), aq 4 (by decide)]; exact hT.2.2.1 i hi, ht⟩
    have b7 : (zm_wi M1 0 14 (nI w)).1 0 7 = nI (zk_en tp n (zk_st tp n k)) := by rw [zm_wi_same, if_neg (by decide), aj 7 (by decide)]; exact hA.2.1
    refine h65 _ _ _ ?_
    simp only [bX12_clause_65, zw_0, zw_1, zs_aloadn0, zs_aloadNn0, zs_iloadn1, zq_12_142, zi_12_165, zg_12_136, zs_iconst, zs_iadd, zs_iloadn2, zs_imul, zs_istoren3, zg_12_16, zs_iloadn3, zs_iastore, zi_12_244, zs_istore4, zs_iload4, zs_ifeq, zs_ireturn, zc_none, zc_int, zc_ref, zc_null, zc_long, zh_0, zh_1, zh_2, zh_3, zh_4, zt_i, zt_l, zt_r, zt_n, zn_int, zn_b0, zn_b1, zb_0, za_1, za_2, za_3, za_4, za_5, za_6, za_7, za_8, za_9, za_10, za_11, za_12, za_13, za_14, zu_0, zu_1, zu_2, zu_3, zu_4, zu_5, zu_6, zu_7, zu_8, zu_9, zu_10, zu_11, zu_12, zu_13, zu_14, zu_15, zu_16, zu_17, zu_18, zu_19, zu_20, zu_21, zu_22, zu_23, zu_24, zu_25, zu_26, zu_27, zu_28, zu_29, zu_30, zu_90, zv_0_9, zv_1_9, zv_2_9, zv_3_9, zv_4_9, zv_5_9, zv_6_9, zv_7_9, zv_8_9, zv_0_330, zv_0_4544, zv_1_4544, zv_2_4544, zv_3_4544, zv_4_4544, zv_5_4544, zv_6_4544, zv_7_4544, zv_8_4544, zv_9_4544, zv_10_4544, zv_11_4544, zv_12_4544, zv_13_4544, zv_14_4544, zv_15_4544, zv_16_4544, zv_17_4544, zv_18_4544, zv_19_4544, zv_20_4544, zv_21_4544, zv_22_4544, zv_23_4544, zv_24_4544, zv_25_4544, zv_26_4544, zv_27_4544, zv_28_4544, zv_29_4544, zv_0_11, zv_1_11, zv_0_160, true_and, and_true, Nat.reduceAdd]
    refine c_nextToken hE (d + 7) T2 b7 (zk_en_in l.2).2 (fun M2 a2' f2 => ?_)
    have c12 : M2.1 0 12 = nI (705 * t) := by rw [f2.2.1 12 (by decide), zm_wi_same, if_neg (by decide), aj 12 (by decide)]; exact h12
    have U3 : zu_33 tp n t k nn w mk M (zm_wi M2 3 (705 * t + 1 + 4 * nn) (nI w)) := by
      refine ⟨zk_tm_A (zk_tm_f T2 f2) (zu_A_w (p := 705 * t + 4 * nn) (by omega) (by omega)), zk_at_c a2' (fun j _ => by rw [zm_wi_other (by decide)]) rfl, ?_, ?_, fun j => ?_, fun q hq => ?_, fun j hj => ?_, fun j hj => ?_⟩
      · rw [zm_wi_other (by decide), f2.2.1 14 (by decide), zm_wi_same, if_pos rfl]
      · rw [zm_wi_other (by decide), f2.2.1 19 (by decide), zm_wi_same, if_neg (by decide)]; exact a19
      · rw [zm_wi_same, (f2.1 3 (by decide)).1, zm_wi_other (by decide), aq 3 (by decide)]
      · have h0' : q ≠ 0 ∧ q ≠ 3 := by simpa using hq
        have z := f2.1 q (by simp [h0'.1])
        refine ⟨?_, ?_, ?_⟩
        · funext j
          rw [zm_wi_other h0'.2, z.1, zm_wi_other h0'.1, aq q h0'.1]
        · show M2.2.1 q = M.2.1 q
          rw [z.2.1]
          show M1.2.1 q = M.2.1 q
          rw [a2]
        · show M2.2.2 q = M.2.2 q
          rw [z.2.2]
          show M1.2.2 q = M.2.2 q
          rw [a2]
      · have h0' : j ≠ 7 ∧ j ≠ 8 ∧ j ≠ 9 ∧ j ≠ 10 ∧ j ≠ 14 ∧ j ≠ 19 := by simpa using hj
        rw [zm_wi_other (by decide), f2.2.1 j (by simp; omega), zm_wi_same, if_neg (by omega), aj j (by omega)]
      · show M2.2.1 0 j = M.2.1 0 j
        rw [f2.2.2.1 j hj]
        show M1.2.1 0 j = M.2.1 0 j
        rw [a2]
    obtain ⟨Qb, hbody, hf, h0'⟩ := q lt hb _ U3
    simp only [bX12_clause_65, zw_0, zw_1, zs_aloadn0, zs_aloadNn0, zs_iloadn1, zq_12_142, zi_12_165, zg_12_136, zs_iconst, zs_iadd, zs_iloadn2, zs_imul, zs_istoren3, zg_12_16, zs_iloadn3, zs_iastore, zi_12_244, zs_istore4, zs_iload4, zs_ifeq, zs_ireturn, zc_none, zc_int, zc_ref, zc_null, zc_long, zh_0, zh_1, zh_2, zh_3, zh_4, zt_i, zt_l, zt_r, zt_n, zn_int, zn_b0, zn_b1, zb_0, za_1, za_2, za_3, za_4, za_5, za_6, za_7, za_8, za_9, za_10, za_11, za_12, za_13, za_14, zu_0, zu_1, zu_2, zu_3, zu_4, zu_5, zu_6, zu_7, zu_8, zu_9, zu_10, zu_11, zu_12, zu_13, zu_14, zu_15, zu_16, zu_17, zu_18, zu_19, zu_20, zu_21, zu_22, zu_23, zu_24, zu_25, zu_26, zu_27, zu_28, zu_29, zu_30, zu_90, zv_0_9, zv_1_9, zv_2_9, zv_3_9, zv_4_9, zv_5_9, zv_6_9, zv_7_9, zv_8_9, zv_0_330, zv_0_4544, zv_1_4544, zv_2_4544, zv_3_4544, zv_4_4544, zv_5_4544, zv_6_4544, zv_7_4544, zv_8_4544, zv_9_4544, zv_10_4544, zv_11_4544, zv_12_4544, zv_13_4544, zv_14_4544, zv_15_4544, zv_16_4544, zv_17_4544, zv_18_4544, zv_19_4544, zv_20_4544, zv_21_4544, zv_22_4544, zv_23_4544, zv_24_4544, zv_25_4544, zv_26_4544, zv_27_4544, zv_28_4544, zv_29_4544, zv_0_11, zv_1_11, zv_0_160, true_and, and_true, Nat.reduceAdd, c12, nI_1, ex, v3, v4]
    refine zm_R_mono hbody (fun r M4 h4 => ?_)
    obtain ⟨f, rfl, f5, hQ⟩ := h4
    have ef : (nI f = 0) = (f = 0) := propext (nI_eq (b := 0) (by omega) (by decide))
    simp only [bX12_clause_65, zw_0, zw_1, zs_aloadn0, zs_aloadNn0, zs_iloadn1, zq_12_142, zi_12_165, zg_12_136, zs_iconst, zs_iadd, zs_iloadn2, zs_imul, zs_istoren3, zg_12_16, zs_iloadn3, zs_iastore, zi_12_244, zs_istore4, zs_iload4, zs_ifeq, zs_ireturn, zc_none, zc_int, zc_ref, zc_null, zc_long, zh_0, zh_1, zh_2, zh_3, zh_4, zt_i, zt_l, zt_r, zt_n, zn_int, zn_b0, zn_b1, zb_0, za_1, za_2, za_3, za_4, za_5, za_6, za_7, za_8, za_9, za_10, za_11, za_12, za_13, za_14, zu_0, zu_1, zu_2, zu_3, zu_4, zu_5, zu_6, zu_7, zu_8, zu_9, zu_10, zu_11, zu_12, zu_13, zu_14, zu_15, zu_16, zu_17, zu_18, zu_19, zu_20, zu_21, zu_22, zu_23, zu_24, zu_25, zu_26, zu_27, zu_28, zu_29, zu_30, zu_90, zv_0_9, zv_1_9, zv_2_9, zv_3_9, zv_4_9, zv_5_9, zv_6_9, zv_7_9, zv_8_9, zv_0_330, zv_0_4544, zv_1_4544, zv_2_4544, zv_3_4544, zv_4_4544, zv_5_4544, zv_6_4544, zv_7_4544, zv_8_4544, zv_9_4544, zv_10_4544, zv_11_4544, zv_12_4544, zv_13_4544, zv_14_4544, zv_15_4544, zv_16_4544, zv_17_4544, zv_18_4544, zv_19_4544, zv_20_4544, zv_21_4544, zv_22_4544, zv_23_4544, zv_24_4544, zv_25_4544, zv_26_4544, zv_27_4544, zv_28_4544, zv_29_4544, zv_0_11, zv_1_11, zv_0_160, true_and, and_true, Nat.reduceAdd, ef]
    refine ⟨fun y => ?_, fun y => hf f M4 y f5 hQ⟩
    subst y
    obtain ⟨k', km', x12, x3, xT, xA, xa, xb⟩ := h0' M4 hQ
    have x9 : (zm_wi M4 3 (705 * t) (nI (nn + 1))).1 0 9 = nI (zk_so tp n (zk_st tp n k')) := by rw [zm_wi_other (by decide)]; exact xA.2.2.1
    have e59 : (nI (zk_so tp n (zk_st tp n k')) = 59) = (zs_T tp n k' = 40) := zs_sg (i := 12) ht (by decide)
    refine h108 _ _ _ ?_
    simp only [bX12_clause_108, zw_0, zw_1, zs_aloadn0, zs_aloadNn0, zg_12_16, zg_12_136, zs_dup2, zs_iaload, zs_iconst, zs_iadd, zs_iastore, zg_12_98, zs_bipush, zs_iceq, zs_ireturn, zn_int, zn_b0, zn_b1, zb_0, za_1, za_2, za_3, za_4, za_5, za_6, za_7, za_8, za_9, za_10, za_11, za_12, za_13, za_14, zu_0, zu_1, zu_2, zu_3, zu_4, zu_5, zu_6, zu_7, zu_8, zu_9, zu_10, zu_11, zu_12, zu_13, zu_14, zu_15, zu_16, zu_17, zu_18, zu_19, zu_20, zu_21, zu_22, zu_23, zu_24, zu_25, zu_26, zu_27, zu_28, zu_29, zu_30, zu_90, zv_0_9, zv_1_9, zv_2_9, zv_3_9, zv_4_9, zv_5_9, zv_6_9, zv_7_9, zv_8_9, zv_0_330, zv_0_4544, zv_1_4544, zv_2_4544, zv_3_4544, zv_4_4544, zv_5_4544, zv_6_4544, zv_7_4544, zv_8_4544, zv_9_4544, zv_10_4544, zv_11_4544, zv_12_4544, zv_13_4544, zv_14_4544, zv_15_4544, zv_16_4544, zv_17_4544, zv_18_4544, zv_19_4544, zv_20_4544, zv_21_4544, zv_22_4544, zv_23_4544, zv_24_4544, zv_25_4544, zv_26_4544, zv_27_4544, zv_28_4544, zv_29_4544, zv_0_11, zv_1_11, zv_0_160, true_and, and_true, Nat.reduceAdd, x12, v1, v2, x3, nI_1, x9, e59]
    refine ⟨fun y => ?_, fun y => xa y⟩
    have l' := zs_T_lt hm ht km' (by omega)
    refine h132 _ _ _ ?_
    simp only [bX12_clause_132, zw_0, zw_1, zs_aloadn0, zs_aloadNn0, zi_12_165, zs_iconst, zs_ireturn, zh_0, zh_1, zh_2, zh_3, zh_4, zt_i, zt_l, zt_r, zt_n, zn_int, zn_b0, zn_b1, zb_0, za_1, za_2, za_3, za_4, za_5, za_6, za_7, za_8, za_9, za_10, za_11, za_12, za_13, za_14, true_and, and_true, Nat.reduceAdd]
    refine c_nextToken hE (d + 7) (show zk_tm tp n (zm_wi M4 3 (705 * t) (nI (nn + 1))) from ⟨xT.1, xT.2.1, xT.2.2.1, ht⟩) (p := zk_en tp n (zk_st tp n k')) (by rw [zm_wi_other (by decide)]; exact xA.2.1) (zk_en_in l'.2).2 (fun M5 a5 f5 => ?_)
    simp only [bX12_clause_132, zw_0, zw_1, zs_aloadn0, zs_aloadNn0, zi_12_165, zs_iconst, zs_ireturn, zh_0, zh_1, zh_2, zh_3, zh_4, zt_i, zt_l, zt_r, zt_n, zn_int, zn_b0, zn_b1, zb_0, za_1, za_2, za_3, za_4, za_5, za_6, za_7, za_8, za_9, za_10, za_11, za_12, za_13, za_14, true_and, and_true, Nat.reduceAdd]
    exact xb y M5 a5 f5
  have at29 : (w ≤ 2 → mk.testBit w = false) → ∀ l2 l3 l4, G 29 [some (.ref 0), some (.int (nI w)), l2, l3, l4] [] M := by
    intro hb l2 l3 l4
    refine h29 _ _ _ ?_
    simp only [bX12_clause_29, zw_0, zw_1, zs_aloadn0, zs_aloadNn0, zg_12_16, zg_12_136, zs_iaload, zs_istoren2, zs_iloadn2, zs_bipush, zs_icne, zs_ireturn, zc_none, zc_int, zc_ref, zc_null, zc_long, zn_int, zn_b0, zn_b1, zb_0, za_1, za_2, za_3, za_4, za_5, za_6, za_7, za_8, za_9, za_10, za_11, za_12, za_13, za_14, zu_0, zu_1, zu_2, zu_3, zu_4, zu_5, zu_6, zu_7, zu_8, zu_9, zu_10, zu_11, zu_12, zu_13, zu_14, zu_15, zu_16, zu_17, zu_18, zu_19, zu_20, zu_21, zu_22, zu_23, zu_24, zu_25, zu_26, zu_27, zu_28, zu_29, zu_30, zu_90, zv_0_9, zv_1_9, zv_2_9, zv_3_9, zv_4_9, zv_5_9, zv_6_9, zv_7_9, zv_8_9, zv_0_330, zv_0_4544, zv_1_4544, zv_2_4544, zv_3_4544, zv_4_4544, zv_5_4544, zv_6_4544, zv_7_4544, zv_8_4544, zv_9_4544, zv_10_4544, zv_11_4544, zv_12_4544, zv_13_4544, zv_14_4544, zv_15_4544, zv_16_4544, zv_17_4544, zv_18_4544, zv_19_4544, zv_20_4544, zv_21_4544, zv_22_4544, zv_23_4544, zv_24_4544, zv_25_4544, zv_26_4544, zv_27_4544, zv_28_4544, zv_29_4544, zv_0_11, zv_1_11, zv_0_160, true_and, and_true, Nat.reduceAdd, h12, v1, v2, h3, e24]
    refine ⟨fun y => ?_, fun y => q6 y hb⟩
    refine h48 _ _ _ ?_
    simp only [bX12_clause_48, zw_0, zw_1, zs_iloadn1, zs_iconst, zs_icgt, zs_aloadn0, zs_aloadNn0, zs_dupi, zs_dupr, zs_dupn, zg_12_241, zs_ishl, zs_ior, zq_12_241, zb_0, za_1, za_2, za_3, za_4, za_5, za_6, za_7, za_8, za_9, za_10, za_11, za_12, za_13, za_14, true_and, and_true, Nat.reduceAdd, gt2, h19]
    refine ⟨fun y2 => ?_, fun y2 => ?_⟩
    · exact at65 (by omega) hb M _ _ (by rw [if_neg (by omega)]; exact h19) (fun _ _ => rfl) (fun _ _ => rfl) rfl
    · refine at65 (by omega) hb _ _ _ ?_ (fun j hj => by rw [zm_wi_same, if_neg hj]) (fun q hq => ?_) rfl
      · rw [zm_wi_same, if_pos rfl, if_pos (by omega)]
        exact zu_or mk hmk w (by omega) (hb (by omega))
      · funext j
        rw [zm_wi_other hq]
  refine h11 _ _ _ ?_
  simp only [bX12_clause_11, zw_0, zw_1, zs_iloadn1, zs_iconst, zs_icgt, zs_aloadn0, zs_aloadNn0, zg_12_241, zi_12_77, zs_ifeq, zs_ireturn, zh_0, zh_1, zh_2, zh_3, zh_4, zt_i, zt_l, zt_r, zt_n, zn_int, zn_b0, zn_b1, zb_0, za_1, za_2, za_3, za_4, za_5, za_6, za_7, za_8, za_9, za_10, za_11, za_12, za_13, za_14, true_and, and_true, Nat.reduceAdd, gt2, h19]
  refine ⟨fun y => at29 (fun z => absurd z (by omega)) _ _ _, fun y => ?_⟩
  refine zm_R_eq (c_has hE (d + 8) _ _ M) ?_
  have eh := zu_hs mk hmk w (by omega)
  simp only [bX12_clause_11, zw_0, zw_1, zs_iloadn1, zs_iconst, zs_icgt, zs_aloadn0, zs_aloadNn0, zg_12_241, zi_12_77, zs_ifeq, zs_ireturn, zh_0, zh_1, zh_2, zh_3, zh_4, zt_i, zt_l, zt_r, zt_n, zn_int, zn_b0, zn_b1, zb_0, za_1, za_2, za_3, za_4, za_5, za_6, za_7, za_8, za_9, za_10, za_11, za_12, za_13, za_14, true_and, and_true, Nat.reduceAdd, eh]
  refine ⟨fun y2 => at29 (fun _ => y2) _ _ _, fun y2 => q4 (by omega) (by simpa using y2)⟩
end
