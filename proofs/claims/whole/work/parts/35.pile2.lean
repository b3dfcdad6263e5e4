/-! ===== piles and ask ===== -/
theorem c_laySets {E : zm_E} (hE : zm_ok E.2.2.1 E.2.2.2.2) (d : Nat) {n : Nat} (hn : n ≤ 8) (t : Int32) {M : zm_M} (hc : M.1 1 4 = nI n) {Q : Option Value → zm_M → Prop} (q : ∀ M', zs_lay M M' 0 34 14 8 (fun k => M.1 1 (120 + k)) n t (2 ^ n) → Q none M') : zm_R E (d + 2) mX12_laySets [.ref 0, .int t] M Q := by
  refine zX12_laySets hE rfl (fun G h0 h7 h26 h28 h45 h79 h80 h88 h96 h109 h138 h144 => ?_)
  show G 0 [some (.ref 0), some (.int t), none, none, none] [] M
  have hN : 2 ^ n ≤ 256 := by
    have := Nat.pow_le_pow_right (n := 2) (by decide) hn
    exact this
  have e1 : (1 : Int32) <<< (nI n &&& 31) = nI (2 ^ n) := zx_1s n (by omega)
  have loop : ∀ (f S : Nat) (M' : zm_M) (l3 l4 : Option Value), S + f = 2 ^ n → zs_lay M M' 0 34 14 8 (fun k => M.1 1 (120 + k)) n t S → G 28 [some (.ref 0), some (.int t), some (.int (nI S)), l3, l4] [] M' := by
    intro f
    induction f with
    | zero =>
      intro S M' l3 l4 hS hL
      have hS : S = 2 ^ n := by omega
      subst hS
      have hc' : M'.1 1 4 = nI n := by rw [(hL.1 1 (by decide)).1]; exact hc
      refine h28 _ _ _ ?_
      simp only [bX12_laySets_28, zw_0, zw_1, zs_iloadn2, zs_iconst, zs_aloadn0, zs_aloadNn0, zg_12_7, zs_iaload, zs_ishl, zs_icge, zs_istoren3, zs_istore4, zc_none, zc_int, zc_ref, zc_null, zc_long, zb_0, za_1, za_2, za_3, za_4, za_5, za_6, za_7, za_8, za_9, za_10, za_11, za_12, za_13, za_14, zu_0, zu_1, zu_2, zu_3, zu_4, zu_5, zu_6, zu_7, zu_8, zu_9, zu_10, zu_11, zu_12, zu_13, zu_14, zu_15, zu_16, zu_17, zu_18, zu_19, zu_20, zu_21, zu_22, zu_23, zu_24, zu_25, zu_26, zu_27, zu_28, zu_29, zu_30, zu_90, zv_0_9, zv_1_9, zv_2_9, zv_3_9, zv_4_9, zv_5_9, zv_6_9, zv_7_9, zv_8_9, zv_0_330, zv_0_4544, zv_1_4544, zv_2_4544, zv_3_4544, zv_4_4544, zv_5_4544, zv_6_4544, zv_7_4544, zv_8_4544, zv_9_4544, zv_10_4544, zv_11_4544, zv_12_4544, zv_13_4544, zv_14_4544, zv_15_4544, zv_16_4544, zv_17_4544, zv_18_4544, zv_19_4544, zv_20_4544, zv_21_4544, zv_22_4544, zv_23_4544, zv_24_4544, zv_25_4544, zv_26_4544, zv_27_4544, zv_28_4544, zv_29_4544, zv_0_11, zv_1_11, zv_0_160, true_and, and_true, Nat.reduceAdd, hc', e1]
      refine ⟨fun _ => ?_, fun h => absurd (nI_le (Nat.le_refl _) (by omega)) h⟩
      refine h144 _ _ _ ?_
      simp only [bX12_laySets_144, zw_0, zw_1, zs_return, zn_int, zn_b0, zn_b1, zb_0, za_1, za_2, za_3, za_4, za_5, za_6, za_7, za_8, za_9, za_10, za_11, za_12, za_13, za_14, true_and, and_true, Nat.reduceAdd]
      exact q M' hL
    | succ f ih =>
      intro S M' l3 l4 hS hL
      have e01 : M'.1 1 = M.1 1 := (hL.1 1 (by decide)).1
      have hc' : M'.1 1 4 = nI n := by rw [e01]; exact hc
      have next : ∀ (M' : zm_M) (l3 l4 : Option Value), zs_lay M M' 0 34 14 8 (fun k => M.1 1 (120 + k)) n t (S + 1) → G 138 [some (.ref 0), some (.int t), some (.int (nI S)), l3, l4] [] M' := by
        intro M' l3 l4 hL
        refine h138 _ _ _ ?_
        simp only [bX12_laySets_138, zw_0, zw_1, zs_iinc2, zs_goto, zc_none, zc_int, zc_ref, zc_null, zc_long, zb_0, za_1, za_2, za_3, za_4, za_5, za_6, za_7, za_8, za_9, za_10, za_11, za_12, za_13, za_14, true_and, and_true, Nat.reduceAdd]
        rw [nI_1]
        exact ih (S + 1) M' l3 l4 (by omega) hL
      have after : G 88 [some (.ref 0), some (.int t), some (.int (nI S)), some (.int (zs_t (fun k => M.1 1 (120 + k)) S n)), some (.int (nI n))] [] M' := by
        refine h88 _ _ _ ?_
        simp only [bX12_laySets_88, zw_0, zw_1, zs_iloadn3, zs_iloadn1, zs_iceq, zs_goto, zb_0, za_1, za_2, za_3, za_4, za_5, za_6, za_7, za_8, za_9, za_10, za_11, za_12, za_13, za_14, true_and, and_true, Nat.reduceAdd]
        refine ⟨fun h => ?_, fun h => next _ _ _ ?_⟩
        · have hz : zs_is (fun k => M.1 1 (120 + k)) n t S = true := by unfold zs_is; simp [h]
          have inner : ∀ (g k : Nat) (M2 : zm_M), k + g = 8 → zf [0, 14] M M2 → zg 0 [34] M M2 → M2.1 0 34 = nI (zs_f (fun k => M.1 1 (120 + k)) n t (S + 1)) → (∀ j, j < 8 → M2.1 14 j = nI (zs_w (fun k => M.1 1 (120 + k)) n t j (if j < k then S + 1 else S))) → G 109 [some (.ref 0), some (.int t), some (.int (nI S)), some (.int (zs_t (fun k => M.1 1 (120 + k)) S n)), some (.int (nI k))] [] M2 := by
            intro g
            induction g with
            | zero =>
              intro k M2 hk f1 f2 f3 f4
              have hk : k = 8 := by omega
              subst hk
              refine h109 _ _ _ ?_
              simp only [bX12_laySets_109, zw_0, zw_1, zs_iload4, zs_bipush, zs_icge, zs_aloadn0, zs_aloadNn0, zg_12_62, zs_dup2, zs_iaload, zs_iloadn2, zs_ishr, zs_iconst, zs_iand, zs_iadd, zs_iastore, zs_iinc4, zs_goto, zc_none, zc_int, zc_ref, zc_null, zc_long, zb_0, za_1, za_2, za_3, za_4, za_5, za_6, za_7, za_8, za_9, za_10, za_11, za_12, za_13, za_14, zu_0, zu_1, zu_2, zu_3, zu_4, zu_5, zu_6, zu_7, zu_8, zu_9, zu_10, zu_11, zu_12, zu_13, zu_14, zu_15, zu_16, zu_17, zu_18, zu_19, zu_20, zu_21, zu_22, zu_23, zu_24, zu_25, zu_26, zu_27, zu_28, zu_29, zu_30, zu_90, zv_0_9, zv_1_9, zv_2_9, zv_3_9, zv_4_9, zv_5_9, zv_6_9, zv_7_9, zv_8_9, zv_0_330, zv_0_4544, zv_1_4544, zv_2_4544, zv_3_4544, zv_4_4544, zv_5_4544, zv_6_4544, zv_7_4544, zv_8_4544, zv_9_4544, zv_10_4544, zv_11_4544, zv_12_4544, zv_13_4544, zv_14_4544, zv_15_4544, zv_16_4544, zv_17_4544, zv_18_4544, zv_19_4544, zv_20_4544, zv_21_4544, zv_22_4544, zv_23_4544, zv_24_4544, zv_25_4544, zv_26_4544, zv_27_4544, zv_28_4544, zv_29_4544, zv_0_11, zv_1_11, zv_0_160, true_and, and_true, Nat.reduceAdd]
              refine ⟨fun _ => next _ _ _ ⟨f1, f2, f3, fun j hj => ?_⟩, fun h => absurd (show (8 : Int32) ≤ nI 8 by decide) h⟩
              rw [f4 j hj, if_pos hj]
            | succ g ihg =>
              intro k M2 hk f1 f2 f3 f4
              have i1 : vp_in (nI k) 8 := vp_in_nI (by omega) (by decide)
              have i2 : (nI k).toNatClampNeg = k := nI_clamp (by omega)
              refine h109 _ _ _ ?_
              simp only [bX12_laySets_109, zw_0, zw_1, zs_iload4, zs_bipush, zs_icge, zs_aloadn0, zs_aloadNn0, zg_12_62, zs_dup2, zs_iaload, zs_iloadn2, zs_ishr, zs_iconst, zs_iand, zs_iadd, zs_iastore, zs_iinc4, zs_goto, zc_none, zc_int, zc_ref, zc_null, zc_long, zb_0, za_1, za_2, za_3, za_4, za_5, za_6, za_7, za_8, za_9, za_10, za_11, za_12, za_13, za_14, zu_0, zu_1, zu_2, zu_3, zu_4, zu_5, zu_6, zu_7, zu_8, zu_9, zu_10, zu_11, zu_12, zu_13, zu_14, zu_15, zu_16, zu_17, zu_18, zu_19, zu_20, zu_21, zu_22, zu_23, zu_24, zu_25, zu_26, zu_27, zu_28, zu_29, zu_30, zu_90, zv_0_9, zv_1_9, zv_2_9, zv_3_9, zv_4_9, zv_5_9, zv_6_9, zv_7_9, zv_8_9, zv_0_330, zv_0_4544, zv_1_4544, zv_2_4544, zv_3_4544, zv_4_4544, zv_5_4544, zv_6_4544, zv_7_4544, zv_8_4544, zv_9_4544, zv_10_4544, zv_11_4544, zv_12_4544, zv_13_4544, zv_14_4544, zv_15_4544, zv_16_4544, zv_17_4544, zv_18_4544, zv_19_4544, zv_20_4544, zv_21_4544, zv_22_4544, zv_23_4544, zv_24_4544, zv_25_4544, zv_26_4544, zv_27_4544, zv_28_4544, zv_29_4544, zv_0_11, zv_1_11, zv_0_160, true_and, and_true, Nat.reduceAdd, i1, i2]
              refine ⟨fun h => absurd h (nI_ge (b := 8) (by omega) (by decide)), fun _ => ?_⟩
              rw [nI_1]
              refine ihg (k + 1) _ (by omega) (zf_wi f1 (by decide)) (zg_wo f2 (by decide)) (by rw [zm_wi_other (by decide)]; exact f3) (fun j hj => ?_)
              rw [zm_wi_same]
              split
              · next e =>
                subst e
                rw [if_pos (by omega), f4 j hj, if_neg (by omega), zx_bit (by omega) (by omega)]
                unfold zs_w
                simp only [zc_n, hz, Bool.true_and]
                split
                · rw [show (1 : Int32) = nI 1 from rfl, nI_add]
                · simp
              · next e =>
                rw [f4 j hj]
                by_cases hj2 : j < k
                · rw [if_pos hj2, if_pos (by omega)]
                · rw [if_neg hj2, if_neg (by omega)]
          refine h96 _ _ _ ?_
          simp only [bX12_laySets_96, zw_0, zw_1, zs_aloadn0, zs_aloadNn0, zs_dupi, zs_dupr, zs_dupn, zg_12_443, zs_iconst, zs_iadd, zq_12_443, zs_istore4, zc_none, zc_int, zc_ref, zc_null, zc_long, zb_0, za_1, za_2, za_3, za_4, za_5, za_6, za_7, za_8, za_9, za_10, za_11, za_12, za_13, za_14, true_and, and_true, Nat.reduceAdd]
          refine inner 8 0 _ (by omega) (zf_wi hL.1 (by decide)) (zg_wi hL.2.1 (by decide)) ?_ (fun j hj => ?_)
          · rw [zm_wi_same, if_pos rfl, hL.2.2.1, nI_1]
            unfold zs_f
            simp only [zc_n, hz, if_true]
          · rw [zm_wi_other (by decide), hL.2.2.2 j hj, if_neg (by omega)]
        · have hz : zs_is (fun k => M.1 1 (120 + k)) n t S = false := by unfold zs_is; simp [h]
          refine ⟨hL.1, hL.2.1, ?_, fun k hk => ?_⟩
          · rw [hL.2.2.1]; unfold zs_f; simp only [zc_n, hz]; simp
          · rw [hL.2.2.2 k hk]; unfold zs_w; simp only [zc_n, hz]; simp
      have sum : ∀ (g k : Nat), k + g = n → G 45 [some (.ref 0), some (.int t), some (.int (nI S)), some (.int (zs_t (fun k => M.1 1 (120 + k)) S k)), some (.int (nI k))] [] M' := by
        intro g
        induction g with
        | zero =>
          intro k hk
          have hk : k = n := by omega
          subst hk
          refine h45 _ _ _ ?_
          simp only [bX12_laySets_45, zw_0, zw_1, zs_iload4, zs_aloadn0, zs_aloadNn0, zg_12_7, zs_iconst, zs_iaload, zs_icge, zs_iloadn3, zs_iloadn2, zi_12_77, zs_ifeq, zs_bipush, zs_iadd, zs_goto, zh_0, zh_1, zh_2, zh_3, zh_4, zt_i, zt_l, zt_r, zt_n, zb_0, za_1, za_2, za_3, za_4, za_5, za_6, za_7, za_8, za_9, za_10, za_11, za_12, za_13, za_14, zu_0, zu_1, zu_2, zu_3, zu_4, zu_5, zu_6, zu_7, zu_8, zu_9, zu_10, zu_11, zu_12, zu_13, zu_14, zu_15, zu_16, zu_17, zu_18, zu_19, zu_20, zu_21, zu_22, zu_23, zu_24, zu_25, zu_26, zu_27, zu_28, zu_29, zu_30, zu_90, zv_0_9, zv_1_9, zv_2_9, zv_3_9, zv_4_9, zv_5_9, zv_6_9, zv_7_9, zv_8_9, zv_0_330, zv_0_4544, zv_1_4544, zv_2_4544, zv_3_4544, zv_4_4544, zv_5_4544, zv_6_4544, zv_7_4544, zv_8_4544, zv_9_4544, zv_10_4544, zv_11_4544, zv_12_4544, zv_13_4544, zv_14_4544, zv_15_4544, zv_16_4544, zv_17_4544, zv_18_4544, zv_19_4544, zv_20_4544, zv_21_4544, zv_22_4544, zv_23_4544, zv_24_4544, zv_25_4544, zv_26_4544, zv_27_4544, zv_28_4544, zv_29_4544, zv_0_11, zv_1_11, zv_0_160, true_and, and_true, Nat.reduceAdd, hc']
          exact ⟨fun _ => after, fun h => absurd (nI_le (Nat.le_refl _) (by omega)) h⟩
        | succ g ihg =>
          intro k hk
          obtain ⟨i1, i2⟩ := zx_ck (k := 120) (p := k) (N := 4544) (by omega) (by decide)
          have nx : ∀ v, v = (if S.testBit k then M.1 1 (120 + k) else 0) → G 80 [some (.ref 0), some (.int t), some (.int (nI S)), some (.int (zs_t (fun k => M.1 1 (120 + k)) S k)), some (.int (nI k))] [.int v, .int (zs_t (fun k => M.1 1 (120 + k)) S k)] M' := by
            intro v hv
            refine h80 _ _ _ ?_
            simp only [bX12_laySets_80, zw_0, zw_1, zs_iadd, zs_istoren3, zs_iinc4, zs_goto, zc_none, zc_int, zc_ref, zc_null, zc_long, zb_0, za_1, za_2, za_3, za_4, za_5, za_6, za_7, za_8, za_9, za_10, za_11, za_12, za_13, za_14, true_and, and_true, Nat.reduceAdd]
            rw [nI_1, hv]
            exact ihg (k + 1) (by omega)
          refine h45 _ _ _ ?_
          simp only [bX12_laySets_45, zw_0, zw_1, zs_iload4, zs_aloadn0, zs_aloadNn0, zg_12_7, zs_iconst, zs_iaload, zs_icge, zs_iloadn3, zs_iloadn2, zi_12_77, zs_ifeq, zs_bipush, zs_iadd, zs_goto, zh_0, zh_1, zh_2, zh_3, zh_4, zt_i, zt_l, zt_r, zt_n, zb_0, za_1, za_2, za_3, za_4, za_5, za_6, za_7, za_8, za_9, za_10, za_11, za_12, za_13, za_14, zu_0, zu_1, zu_2, zu_3, zu_4, zu_5, zu_6, zu_7, zu_8, zu_9, zu_10, zu_11, zu_12, zu_13, zu_14, zu_15, zu_16, zu_17, zu_18, zu_19, zu_20, zu_21, zu_22, zu_23, zu_24, zu_25, zu_26, zu_27, zu_28, zu_29, zu_30, zu_90, zv_0_9, zv_1_9, zv_2_9, zv_3_9, zv_4_9, zv_5_9, zv_6_9, zv_7_9, zv_8_9, zv_0_330, zv_0_4544, zv_1_4544, zv_2_4544, zv_3_4544, zv_4_4544, zv_5_4544, zv_6_4544, zv_7_4544, zv_8_4544, zv_9_4544, zv_10_4544, zv_11_4544, zv_12_4544, zv_13_4544, zv_14_4544, zv_15_4544, zv_16_4544, zv_17_4544, zv_18_4544, zv_19_4544, zv_20_4544, zv_21_4544, zv_22_4544, zv_23_4544, zv_24_4544, zv_25_4544, zv_26_4544, zv_27_4544, zv_28_4544, zv_29_4544, zv_0_11, zv_1_11, zv_0_160, true_and, and_true, Nat.reduceAdd, hc']
          refine ⟨fun h => absurd h (nI_ge (by omega) (by omega)), fun _ => ?_⟩
          refine zm_R_eq (c_has hE d (nI S) (nI k) M') ?_
          rw [zx_has (by omega) (by omega)]
          simp only [bX12_laySets_45, zw_0, zw_1, zs_iload4, zs_aloadn0, zs_aloadNn0, zg_12_7, zs_iconst, zs_iaload, zs_icge, zs_iloadn3, zs_iloadn2, zi_12_77, zs_ifeq, zs_bipush, zs_iadd, zs_goto, zh_0, zh_1, zh_2, zh_3, zh_4, zt_i, zt_l, zt_r, zt_n, zb_0, za_1, za_2, za_3, za_4, za_5, za_6, za_7, za_8, za_9, za_10, za_11, za_12, za_13, za_14, zu_0, zu_1, zu_2, zu_3, zu_4, zu_5, zu_6, zu_7, zu_8, zu_9, zu_10, zu_11, zu_12, zu_13, zu_14, zu_15, zu_16, zu_17, zu_18, zu_19, zu_20, zu_21, zu_22, zu_23, zu_24, zu_25, zu_26, zu_27, zu_28, zu_29, zu_30, zu_90, zv_0_9, zv_1_9, zv_2_9, zv_3_9, zv_4_9, zv_5_9, zv_6_9, zv_7_9, zv_8_9, zv_0_330, zv_0_4544, zv_1_4544, zv_2_4544, zv_3_4544, zv_4_4544, zv_5_4544, zv_6_4544, zv_7_4544, zv_8_4544, zv_9_4544, zv_10_4544, zv_11_4544, zv_12_4544, zv_13_4544, zv_14_4544, zv_15_4544, zv_16_4544, zv_17_4544, zv_18_4544, zv_19_4544, zv_20_4544, zv_21_4544, zv_22_4544, zv_23_4544, zv_24_4544, zv_25_4544, zv_26_4544, zv_27_4544, zv_28_4544, zv_29_4544, zv_0_11, zv_1_11, zv_0_160, true_and, and_true, Nat.reduceAdd, zx_120, i1, i2, zi_b0, zi_b1]
          refine ⟨fun h => ?_, fun h => ?_⟩
          · refine h79 _ _ _ ?_
            simp only [bX12_laySets_79, zw_0, zw_1, zs_iconst, zb_0, za_1, za_2, za_3, za_4, za_5, za_6, za_7, za_8, za_9, za_10, za_11, za_12, za_13, za_14, true_and, and_true, Nat.reduceAdd]
            exact nx _ (by rw [if_neg (by simp [h])])
          · exact nx _ (by rw [if_pos (by simpa using h), e01])
      refine h28 _ _ _ ?_
      simp only [bX12_laySets_28, zw_0, zw_1, zs_iloadn2, zs_iconst, zs_aloadn0, zs_aloadNn0, zg_12_7, zs_iaload, zs_ishl, zs_icge, zs_istoren3, zs_istore4, zc_none, zc_int, zc_ref, zc_null, zc_long, zb_0, za_1, za_2, za_3, za_4, za_5, za_6, za_7, za_8, za_9, za_10, za_11, za_12, za_13, za_14, zu_0, zu_1, zu_2, zu_3, zu_4, zu_5, zu_6, zu_7, zu_8, zu_9, zu_10, zu_11, zu_12, zu_13, zu_14, zu_15, zu_16, zu_17, zu_18, zu_19, zu_20, zu_21, zu_22, zu_23, zu_24, zu_25, zu_26, zu_27, zu_28, zu_29, zu_30, zu_90, zv_0_9, zv_1_9, zv_2_9, zv_3_9, zv_4_9, zv_5_9, zv_6_9, zv_7_9, zv_8_9, zv_0_330, zv_0_4544, zv_1_4544, zv_2_4544, zv_3_4544, zv_4_4544, zv_5_4544, zv_6_4544, zv_7_4544, zv_8_4544, zv_9_4544, zv_10_4544, zv_11_4544, zv_12_4544, zv_13_4544, zv_14_4544, zv_15_4544, zv_16_4544, zv_17_4544, zv_18_4544, zv_19_4544, zv_20_4544, zv_21_4544, zv_22_4544, zv_23_4544, zv_24_4544, zv_25_4544, zv_26_4544, zv_27_4544, zv_28_4544, zv_29_4544, zv_0_11, zv_1_11, zv_0_160, true_and, and_true, Nat.reduceAdd, hc', e1]
      exact ⟨fun h => absurd h (nI_ge (by omega) (by omega)), fun _ => sum n 0 (by omega)⟩
  have fill : ∀ (g k : Nat) (M2 : zm_M), k + g = 8 → zf [0, 14] M M2 → zg 0 [34] M M2 → M2.1 0 34 = 0 → (∀ j, j < k → M2.1 14 j = 0) → G 7 [some (.ref 0), some (.int t), some (.int (nI k)), none, none] [] M2 := by
    intro g
    induction g with
    | zero =>
      intro k M2 hk f1 f2 f3 f4
      have hk : k = 8 := by omega
      subst hk
      refine h7 _ _ _ ?_
      simp only [bX12_laySets_7, zw_0, zw_1, zs_iloadn2, zs_bipush, zs_icge, zs_aloadn0, zs_aloadNn0, zg_12_62, zs_iconst, zs_iastore, zs_iinc2, zs_goto, zc_none, zc_int, zc_ref, zc_null, zc_long, zb_0, za_1, za_2, za_3, za_4, za_5, za_6, za_7, za_8, za_9, za_10, za_11, za_12, za_13, za_14, zu_0, zu_1, zu_2, zu_3, zu_4, zu_5, zu_6, zu_7, zu_8, zu_9, zu_10, zu_11, zu_12, zu_13, zu_14, zu_15, zu_16, zu_17, zu_18, zu_19, zu_20, zu_21, zu_22, zu_23, zu_24, zu_25, zu_26, zu_27, zu_28, zu_29, zu_30, zu_90, zv_0_9, zv_1_9, zv_2_9, zv_3_9, zv_4_9, zv_5_9, zv_6_9, zv_7_9, zv_8_9, zv_0_330, zv_0_4544, zv_1_4544, zv_2_4544, zv_3_4544, zv_4_4544, zv_5_4544, zv_6_4544, zv_7_4544, zv_8_4544, zv_9_4544, zv_10_4544, zv_11_4544, zv_12_4544, zv_13_4544, zv_14_4544, zv_15_4544, zv_16_4544, zv_17_4544, zv_18_4544, zv_19_4544, zv_20_4544, zv_21_4544, zv_22_4544, zv_23_4544, zv_24_4544, zv_25_4544, zv_26_4544, zv_27_4544, zv_28_4544, zv_29_4544, zv_0_11, zv_1_11, zv_0_160, true_and, and_true, Nat.reduceAdd]
      refine ⟨fun _ => ?_, fun h => absurd (show (8 : Int32) ≤ nI 8 by decide) h⟩
      refine h26 _ _ _ ?_
      simp only [bX12_laySets_26, zw_0, zw_1, zs_iconst, zs_istoren2, zc_none, zc_int, zc_ref, zc_null, zc_long, zb_0, za_1, za_2, za_3, za_4, za_5, za_6, za_7, za_8, za_9, za_10, za_11, za_12, za_13, za_14, true_and, and_true, Nat.reduceAdd]
      exact loop (2 ^ n) 0 M2 _ _ (by omega) ⟨f1, f2, by rw [f3]; rfl, fun j hj => by rw [f4 j hj]; rfl⟩
    | succ g ihg =>
      intro k M2 hk f1 f2 f3 f4
      have i1 : vp_in (nI k) 8 := vp_in_nI (by omega) (by decide)
      have i2 : (nI k).toNatClampNeg = k := nI_clamp (by omega)
      refine h7 _ _ _ ?_
      simp only [bX12_laySets_7, zw_0, zw_1, zs_iloadn2, zs_bipush, zs_icge, zs_aloadn0, zs_aloadNn0, zg_12_62, zs_iconst, zs_iastore, zs_iinc2, zs_goto, zc_none, zc_int, zc_ref, zc_null, zc_long, zb_0, za_1, za_2, za_3, za_4, za_5, za_6, za_7, za_8, za_9, za_10, za_11, za_12, za_13, za_14, zu_0, zu_1, zu_2, zu_3, zu_4, zu_5, zu_6, zu_7, zu_8, zu_9, zu_10, zu_11, zu_12, zu_13, zu_14, zu_15, zu_16, zu_17, zu_18, zu_19, zu_20, zu_21, zu_22, zu_23, zu_24, zu_25, zu_26, zu_27, zu_28, zu_29, zu_30, zu_90, zv_0_9, zv_1_9, zv_2_9, zv_3_9, zv_4_9, zv_5_9, zv_6_9, zv_7_9, zv_8_9, zv_0_330, zv_0_4544, zv_1_4544, zv_2_4544, zv_3_4544, zv_4_4544, zv_5_4544, zv_6_4544, zv_7_4544, zv_8_4544, zv_9_4544, zv_10_4544, zv_11_4544, zv_12_4544, zv_13_4544, zv_14_4544, zv_15_4544, zv_16_4544, zv_17_4544, zv_18_4544, zv_19_4544, zv_20_4544, zv_21_4544, zv_22_4544, zv_23_4544, zv_24_4544, zv_25_4544, zv_26_4544, zv_27_4544, zv_28_4544, zv_29_4544, zv_0_11, zv_1_11, zv_0_160, true_and, and_true, Nat.reduceAdd, i1, i2]
      refine ⟨fun h => absurd h (nI_ge (b := 8) (by omega) (by decide)), fun _ => ?_⟩
      rw [nI_1]
      refine ihg (k + 1) _ (by omega) (zf_wi f1 (by decide)) (zg_wo f2 (by decide)) (by rw [zm_wi_other (by decide)]; exact f3) (fun j hj => ?_)
      rw [zm_wi_same]
      split
      · rfl
      · exact f4 j (by omega)
  refine h0 _ _ _ ?_
  simp only [bX12_laySets_0, zw_0, zw_1, zs_aloadn0, zs_aloadNn0, zs_iconst, zq_12_443, zs_istoren2, zc_none, zc_int, zc_ref, zc_null, zc_long, zb_0, za_1, za_2, za_3, za_4, za_5, za_6, za_7, za_8, za_9, za_10, za_11, za_12, za_13, za_14, true_and, and_true, Nat.reduceAdd]
  exact fill 8 0 _ (by omega) (zf_wi zf_refl (by decide)) (zg_wi zg_refl (by decide)) (by rw [zm_wi_same, if_pos rfl]) (fun j hj => absurd hj (by omega))
def zs_bits (sz : Nat → Int32) (n : Nat) (t : Int32) (x : Nat) : Nat := zb_set (fun k => decide (zs_w sz n t k (2 ^ n) = x)) n
def zs_pl (sz : Nat → Int32) (n : Nat) (t w : Int32) : Int32 := if w = 0 then nI (zs_f sz n t (2 ^ n)) else if zs_f sz n t (2 ^ n) = 0 then 0 else nI (zs_bits sz n t (if w = 1 then zs_f sz n t (2 ^ n) else 0))
theorem c4_bitsIn {E : zm_E} (hE : zm_ok E.2.2.1 E.2.2.2.2) (d : Nat) {n : Nat} (hn : n ≤ 8) (x : Nat) (hx : x ≤ 256) {M : zm_M} (hc : M.1 35 0 = nI n) {w : Nat → Nat} (hw : ∀ k, k < n → M.1 37 k = nI (w k) ∧ w k ≤ 256) : zm_R E (d + 1) mX4_bitsIn [.ref 35, .int (nI x)] M (fun r M' => r = some (.int (nI (zb_set (fun k => decide (w k = x)) n))) ∧ M' = M) := by
  refine zX4_bitsIn hE rfl (fun G h0 h4 h28 h34 => ?_)
  show G 0 [some (.ref 35), some (.int (nI x)), none, none] [] M
  have loop : ∀ (f k : Nat), k + f = n → G 4 [some (.ref 35), some (.int (nI x)), some (.int (nI (zb_set (fun k => decide (w k = x)) k))), some (.int (nI k))] [] M := by
    intro f
    induction f with
    | zero =>
      intro k hk
      have hk : k = n := by omega
      subst hk
      refine h4 _ _ _ ?_
      simp only [bX4_bitsIn_4, zw_0, zw_1, zs_iloadn3, zs_aloadn0, zs_aloadNn0, zg_4_9, zs_icge, zg_4_22, zs_iaload, zs_iloadn1, zs_icne, zs_iloadn2, zs_iconst, zs_ishl, zs_ior, zs_istoren2, zc_none, zc_int, zc_ref, zc_null, zc_long, zb_15, zb_16, zb_17, za_18, za_19, za_20, za_21, za_22, zb_23, za_24, za_25, za_26, za_27, za_28, za_29, za_30, za_31, za_32, zb_35, za_36, za_37, za_38, za_39, za_40, zb_377, zb_378, za_379, za_380, za_381, za_382, za_383, zb_384, za_385, za_386, za_387, za_388, za_389, za_390, za_391, za_392, za_393, zb_396, za_397, za_398, za_399, za_400, za_401, zb_738, za_739, za_740, za_741, za_742, za_743, za_744, za_745, za_746, za_747, zb_748, za_749, za_750, zb_751, zb_752, za_753, za_754, za_755, za_756, zb_757, za_758, za_759, za_760, zb_761, za_763, za_764, za_765, zu_0, zu_1, zu_2, zu_3, zu_4, zu_5, zu_6, zu_7, zu_8, zu_9, zu_10, zu_11, zu_12, zu_13, zu_14, zu_15, zu_16, zu_17, zu_18, zu_19, zu_20, zu_21, zu_22, zu_23, zu_24, zu_25, zu_26, zu_27, zu_28, zu_29, zu_30, zu_90, zv_0_9, zv_1_9, zv_2_9, zv_3_9, zv_4_9, zv_5_9, zv_6_9, zv_7_9, zv_8_9, zv_0_330, zv_0_4544, zv_1_4544, zv_2_4544, zv_3_4544, zv_4_4544, zv_5_4544, zv_6_4544, zv_7_4544, zv_8_4544, zv_9_4544, zv_10_4544, zv_11_4544, zv_12_4544, zv_13_4544, zv_14_4544, zv_15_4544, zv_16_4544, zv_17_4544, zv_18_4544, zv_19_4544, zv_20_4544, zv_21_4544, zv_22_4544, zv_23_4544, zv_24_4544, zv_25_4544, zv_26_4544, zv_27_4544, zv_28_4544, zv_29_4544, zv_0_11, zv_1_11, zv_0_160, true_and, and_true, Nat.reduceAdd, hc]
      refine ⟨fun _ => ?_, fun h => absurd (nI_le (Nat.le_refl _) (by omega)) h⟩
      refine h34 _ _ _ ?_
      simp only [bX4_bitsIn_34, zw_0, zw_1, zs_iloadn2, zs_ireturn, zn_int, zn_b0, zn_b1, zb_15, zb_16, zb_17, za_18, za_19, za_20, za_21, za_22, zb_23, za_24, za_25, za_26, za_27, za_28, za_29, za_30, za_31, za_32, zb_35, za_36, za_37, za_38, za_39, za_40, zb_377, zb_378, za_379, za_380, za_381, za_382, za_383, zb_384, za_385, za_386, za_387, za_388, za_389, za_390, za_391, za_392, za_393, zb_396, za_397, za_398, za_399, za_400, za_401, zb_738, za_739, za_740, za_741, za_742, za_743, za_744, za_745, za_746, za_747, zb_748, za_749, za_750, zb_751, zb_752, za_753, za_754, za_755, za_756, zb_757, za_758, za_759, za_760, zb_761, za_763, za_764, za_765, true_and, and_true, Nat.reduceAdd]
    | succ f ih =>
      intro k hk
      have i1 : vp_in (nI k) 8 := vp_in_nI (by omega) (by decide)
      have i2 : (nI k).toNatClampNeg = k := nI_clamp (by omega)
      obtain ⟨w1, w2⟩ := hw k (by omega)
      have we : (nI (w k) = nI x) = (w k = x) := propext (nI_eq (by omega) (by omega))
      have next : ∀ v, v = nI (zb_set (fun k => decide (w k = x)) (k + 1)) → G 28 [some (.ref 35), some (.int (nI x)), some (.int v), some (.int (nI k))] [] M := by
        intro v hv
        refine h28 _ _ _ ?_
        simp only [bX4_bitsIn_28, zw_0, zw_1, zs_iinc3, zs_goto, zc_none, zc_int, zc_ref, zc_null, zc_long, zb_15, zb_16, zb_17, za_18, za_19, za_20, za_21, za_22, zb_23, za_24, za_25, za_26, za_27, za_28, za_29, za_30, za_31, za_32, zb_35, za_36, za_37, za_38, za_39, za_40, zb_377, zb_378, za_379, za_380, za_381, za_382, za_383, zb_384, za_385, za_386, za_387, za_388, za_389, za_390, za_391, za_392, za_393, zb_396, za_397, za_398, za_399, za_400, za_401, zb_738, za_739, za_740, za_741, za_742, za_743, za_744, za_745, za_746, za_747, zb_748, za_749, za_750, zb_751, zb_752, za_753, za_754, za_755, za_756, zb_757, za_758, za_759, za_760, zb_761, za_763, za_764, za_765, true_and, and_true, Nat.reduceAdd]
        rw [hv, nI_1]
        exact ih (k + 1) (by omega)
      refine h4 _ _ _ ?_
      simp only [bX4_bitsIn_4, zw_0, zw_1, zs_iloadn3, zs_aloadn0, zs_aloadNn0, zg_4_9, zs_icge, zg_4_22, zs_iaload, zs_iloadn1, zs_icne, zs_iloadn2, zs_iconst, zs_ishl, zs_ior, zs_istoren2, zc_none, zc_int, zc_ref, zc_null, zc_long, zb_15, zb_16, zb_17, za_18, za_19, za_20, za_21, za_22, zb_23, za_24, za_25, za_26, za_27, za_28, za_29, za_30, za_31, za_32, zb_35, za_36, za_37, za_38, za_39, za_40, zb_377, zb_378, za_379, za_380, za_381, za_382, za_383, zb_384, za_385, za_386, za_387, za_388, za_389, za_390, za_391, za_392, za_393, zb_396, za_397, za_398, za_399, za_400, za_401, zb_738, za_739, za_740, za_741, za_742, za_743, za_744, za_745, za_746, za_747, zb_748, za_749, za_750, zb_751, zb_752, za_753, za_754, za_755, za_756, zb_757, za_758, za_759, za_760, zb_761, za_763, za_764, za_765, zu_0, zu_1, zu_2, zu_3, zu_4, zu_5, zu_6, zu_7, zu_8, zu_9, zu_10, zu_11, zu_12, zu_13, zu_14, zu_15, zu_16, zu_17, zu_18, zu_19, zu_20, zu_21, zu_22, zu_23, zu_24, zu_25, zu_26, zu_27, zu_28, zu_29, zu_30, zu_90, zv_0_9, zv_1_9, zv_2_9, zv_3_9, zv_4_9, zv_5_9, zv_6_9, zv_7_9, zv_8_9, zv_0_330, zv_0_4544, zv_1_4544, zv_2_4544, zv_3_4544, zv_4_4544, zv_5_4544, zv_6_4544, zv_7_4544, zv_8_4544, zv_9_4544, zv_10_4544, zv_11_4544, zv_12_4544, zv_13_4544, zv_14_4544, zv_15_4544, zv_16_4544, zv_17_4544, zv_18_4544, zv_19_4544, zv_20_4544, zv_21_4544, zv_22_4544, zv_23_4544, zv_24_4544, zv_25_4544, zv_26_4544, zv_27_4544, zv_28_4544, zv_29_4544, zv_0_11, zv_1_11, zv_0_160, true_and, and_true, Nat.reduceAdd, hc, i1, i2, w1, we]
      refine ⟨fun h => absurd h (nI_ge (by omega) (by omega)), fun _ => ⟨fun h => next _ ?_, fun h => next _ ?_⟩⟩
      · simp only [zb_set, h, decide_false, Bool.false_eq_true, if_false, Nat.or_zero]
      · simp only [zb_set, h, decide_true, if_true]
        rw [zx_1s k (by omega), nx_or]
  refine h0 _ _ _ ?_
  simp only [bX4_bitsIn_0, zw_0, zw_1, zs_iconst, zs_istoren2, zs_istoren3, zc_none, zc_int, zc_ref, zc_null, zc_long, zb_15, zb_16, zb_17, za_18, za_19, za_20, za_21, za_22, zb_23, za_24, za_25, za_26, za_27, za_28, za_29, za_30, za_31, za_32, zb_35, za_36, za_37, za_38, za_39, za_40, zb_377, zb_378, za_379, za_380, za_381, za_382, za_383, zb_384, za_385, za_386, za_387, za_388, za_389, za_390, za_391, za_392, za_393, zb_396, za_397, za_398, za_399, za_400, za_401, zb_738, za_739, za_740, za_741, za_742, za_743, za_744, za_745, za_746, za_747, zb_748, za_749, za_750, zb_751, zb_752, za_753, za_754, za_755, za_756, zb_757, za_758, za_759, za_760, zb_761, za_763, za_764, za_765, true_and, and_true, Nat.reduceAdd]
  exact loop n 0 (by omega)
theorem c11_piles {E : zm_E} (hE : zm_ok E.2.2.1 E.2.2.2.2) (d : Nat) {n : Nat} (hn : n ≤ 8) (t w : Int32) {M : zm_M} (hc : M.1 35 0 = nI n) {Q : Option Value → zm_M → Prop} (q1 : zi_in t 0 9999 = 0 → Q (some (.int (-1))) M) (q2 : ¬ zi_in t 0 9999 = 0 → ∀ M', zs_lay M M' 35 1 37 n (M.1 36) n t (2 ^ n) → Q (some (.int (if zi_in w 0 2 = 0 then -1 else zs_pl (M.1 36) n t w))) M') : zm_R E (d + 3) mX11_piles [.ref 15, .int t, .int w] M Q := by
  refine zX11_piles hE rfl (fun G h0 h13 h52 h57 h68 h76 h77 h88 h93 h94 => ?_)
  show G 0 [some (.ref 15), some (.int t), some (.int w), none] [] M
  refine h0 _ _ _ ?_
  simp only [bX11_piles_0, zw_0, zw_1, zs_iloadn1, zs_iconst, zs_sipush, zi_11_86, zs_ifne, zs_ireturn, zh_0, zh_1, zh_2, zh_3, zh_4, zt_i, zt_l, zt_r, zt_n, zn_int, zn_b0, zn_b1, zb_15, zb_16, zb_17, za_18, za_19, za_20, za_21, za_22, zb_23, za_24, za_25, za_26, za_27, za_28, za_29, za_30, za_31, za_32, zb_35, za_36, za_37, za_38, za_39, za_40, zb_377, zb_378, za_379, za_380, za_381, za_382, za_383, zb_384, za_385, za_386, za_387, za_388, za_389, za_390, za_391, za_392, za_393, zb_396, za_397, za_398, za_399, za_400, za_401, zb_738, za_739, za_740, za_741, za_742, za_743, za_744, za_745, za_746, za_747, zb_748, za_749, za_750, zb_751, zb_752, za_753, za_754, za_755, za_756, zb_757, za_758, za_759, za_760, zb_761, za_763, za_764, za_765, true_and, and_true, Nat.reduceAdd]
  refine zm_R_eq (c11_within hE (d + 1) t 0 9999 M) ?_
  simp only [bX11_piles_0, zw_0, zw_1, zs_iloadn1, zs_iconst, zs_sipush, zi_11_86, zs_ifne, zs_ireturn, zh_0, zh_1, zh_2, zh_3, zh_4, zt_i, zt_l, zt_r, zt_n, zn_int, zn_b0, zn_b1, zb_15, zb_16, zb_17, za_18, za_19, za_20, za_21, za_22, zb_23, za_24, za_25, za_26, za_27, za_28, za_29, za_30, za_31, za_32, zb_35, za_36, za_37, za_38, za_39, za_40, zb_377, zb_378, za_379, za_380, za_381, za_382, za_383, zb_384, za_385, za_386, za_387, za_388, za_389, za_390, za_391, za_392, za_393, zb_396, za_397, za_398, za_399, za_400, za_401, zb_738, za_739, za_740, za_741, za_742, za_743, za_744, za_745, za_746, za_747, zb_748, za_749, za_750, zb_751, zb_752, za_753, za_754, za_755, za_756, zb_757, za_758, za_759, za_760, zb_761, za_763, za_764, za_765, true_and, and_true, Nat.reduceAdd]
  refine ⟨fun ht => ?_, fun h => q1 h⟩
  refine h13 _ _ _ ?_
  simp only [bX11_piles_13, zw_0, zw_1, zs_aloadn0, zs_aloadNn0, zg_11_10, zg_11_305, zs_astoren3, zs_astoreNn3, zs_aloadn3, zs_aloadNn3, zs_iloadn1, zi_11_315, zs_iloadn2, zs_tsw, zm_sw, zc_none, zc_int, zc_ref, zc_null, zc_long, zh_0, zh_1, zh_2, zh_3, zh_4, zt_i, zt_l, zt_r, zt_n, zb_15, zb_16, zb_17, za_18, za_19, za_20, za_21, za_22, zb_23, za_24, za_25, za_26, za_27, za_28, za_29, za_30, za_31, za_32, zb_35, za_36, za_37, za_38, za_39, za_40, zb_377, zb_378, za_379, za_380, za_381, za_382, za_383, zb_384, za_385, za_386, za_387, za_388, za_389, za_390, za_391, za_392, za_393, zb_396, za_397, za_398, za_399, za_400, za_401, zb_738, za_739, za_740, za_741, za_742, za_743, za_744, za_745, za_746, za_747, zb_748, za_749, za_750, zb_751, zb_752, za_753, za_754, za_755, za_756, zb_757, za_758, za_759, za_760, zb_761, za_763, za_764, za_765, true_and, and_true, Nat.reduceAdd]
  refine c4_countSets hE d hn t hc (fun M' hL => ?_)
  have hN : 2 ^ n ≤ 256 := Nat.pow_le_pow_right (n := 2) (by decide) hn
  have hF := zs_f_le (M.1 36) n t (2 ^ n)
  have hc' : M'.1 35 0 = nI n := by rw [hL.2.1 0 (by decide)]; exact hc
  have hw : ∀ k, k < n → M'.1 37 k = nI (zs_w (M.1 36) n t k (2 ^ n)) ∧ zs_w (M.1 36) n t k (2 ^ n) ≤ 256 := fun k hk => ⟨hL.2.2.2 k hk, Nat.le_trans (zs_w_le _ _ _ _ _) (by omega)⟩
  have q2 := q2 ht M' hL
  have ef := hL.2.2.1
  have e0 : (nI (zs_f (M.1 36) n t (2 ^ n)) = 0) = (zs_f (M.1 36) n t (2 ^ n) = 0) := propext (nI_eq (b := 0) (by omega) (by decide))
  simp only [bX11_piles_13, zw_0, zw_1, zs_aloadn0, zs_aloadNn0, zg_11_10, zg_11_305, zs_astoren3, zs_astoreNn3, zs_aloadn3, zs_aloadNn3, zs_iloadn1, zi_11_315, zs_iloadn2, zs_tsw, zm_sw, zc_none, zc_int, zc_ref, zc_null, zc_long, zh_0, zh_1, zh_2, zh_3, zh_4, zt_i, zt_l, zt_r, zt_n, zb_15, zb_16, zb_17, za_18, za_19, za_20, za_21, za_22, zb_23, za_24, za_25, za_26, za_27, za_28, za_29, za_30, za_31, za_32, zb_35, za_36, za_37, za_38, za_39, za_40, zb_377, zb_378, za_379, za_380, za_381, za_382, za_383, zb_384, za_385, za_386, za_387, za_388, za_389, za_390, za_391, za_392, za_393, zb_396, za_397, za_398, za_399, za_400, za_401, zb_738, za_739, za_740, za_741, za_742, za_743, za_744, za_745, za_746, za_747, zb_748, za_749, za_750, zb_751, zb_752, za_753, za_754, za_755, za_756, zb_757, za_758, za_759, za_760, zb_761, za_763, za_764, za_765, true_and, and_true, Nat.reduceAdd]
  refine ⟨?_, fun n0 => ⟨?_, fun n1 => ⟨?_, fun n2 => ?_⟩⟩⟩
  · rintro rfl
    refine h52 _ _ _ ?_
    simp only [bX11_piles_52, zw_0, zw_1, zs_aloadn3, zs_aloadNn3, zg_11_318, zs_ireturn, zn_int, zn_b0, zn_b1, zb_15, zb_16, zb_17, za_18, za_19, za_20, za_21, za_22, zb_23, za_24, za_25, za_26, za_27, za_28, za_29, za_30, za_31, za_32, zb_35, za_36, za_37, za_38, za_39, za_40, zb_377, zb_378, za_379, za_380, za_381, za_382, za_383, zb_384, za_385, za_386, za_387, za_388, za_389, za_390, za_391, za_392, za_393, zb_396, za_397, za_398, za_399, za_400, za_401, zb_738, za_739, za_740, za_741, za_742, za_743, za_744, za_745, za_746, za_747, zb_748, za_749, za_750, zb_751, zb_752, za_753, za_754, za_755, za_756, zb_757, za_758, za_759, za_760, zb_761, za_763, za_764, za_765, true_and, and_true, Nat.reduceAdd, ef]
    exact q2
  · rintro rfl
    have fin : ∀ v l, v = zs_pl (M.1 36) n t 1 → G 76 l [.int v] M' := by
      intro v l hv
      refine h76 _ _ _ ?_
      simp only [bX11_piles_76, zw_0, zw_1, zs_ireturn, zn_int, zn_b0, zn_b1, zb_15, zb_16, zb_17, za_18, za_19, za_20, za_21, za_22, zb_23, za_24, za_25, za_26, za_27, za_28, za_29, za_30, za_31, za_32, zb_35, za_36, za_37, za_38, za_39, za_40, zb_377, zb_378, za_379, za_380, za_381, za_382, za_383, zb_384, za_385, za_386, za_387, za_388, za_389, za_390, za_391, za_392, za_393, zb_396, za_397, za_398, za_399, za_400, za_401, zb_738, za_739, za_740, za_741, za_742, za_743, za_744, za_745, za_746, za_747, zb_748, za_749, za_750, zb_751, zb_752, za_753, za_754, za_755, za_756, zb_757, za_758, za_759, za_760, zb_761, za_763, za_764, za_765, true_and, and_true, Nat.reduceAdd]
      rw [hv]
      exact q2
    refine h57 _ _ _ ?_
    simp only [bX11_piles_57, zw_0, zw_1, zs_aloadn3, zs_aloadNn3, zg_11_318, zs_ifne, zs_iconst, zs_goto, zb_15, zb_16, zb_17, za_18, za_19, za_20, za_21, za_22, zb_23, za_24, za_25, za_26, za_27, za_28, za_29, za_30, za_31, za_32, zb_35, za_36, za_37, za_38, za_39, za_40, zb_377, zb_378, za_379, za_380, za_381, za_382, za_383, zb_384, za_385, za_386, za_387, za_388, za_389, za_390, za_391, za_392, za_393, zb_396, za_397, za_398, za_399, za_400, za_401, zb_738, za_739, za_740, za_741, za_742, za_743, za_744, za_745, za_746, za_747, zb_748, za_749, za_750, zb_751, zb_752, za_753, za_754, za_755, za_756, zb_757, za_758, za_759, za_760, zb_761, za_763, za_764, za_765, true_and, and_true, Nat.reduceAdd, ef, e0]
    refine ⟨fun hz => ?_, fun hz => fin _ _ ?_⟩
    · refine h68 _ _ _ ?_
      simp only [bX11_piles_68, zw_0, zw_1, zs_aloadn3, zs_aloadNn3, zg_11_318, zi_11_321, zh_0, zh_1, zh_2, zh_3, zh_4, zt_i, zt_l, zt_r, zt_n, zb_15, zb_16, zb_17, za_18, za_19, za_20, za_21, za_22, zb_23, za_24, za_25, za_26, za_27, za_28, za_29, za_30, za_31, za_32, zb_35, za_36, za_37, za_38, za_39, za_40, zb_377, zb_378, za_379, za_380, za_381, za_382, za_383, zb_384, za_385, za_386, za_387, za_388, za_389, za_390, za_391, za_392, za_393, zb_396, za_397, za_398, za_399, za_400, za_401, zb_738, za_739, za_740, za_741, za_742, za_743, za_744, za_745, za_746, za_747, zb_748, za_749, za_750, zb_751, zb_752, za_753, za_754, za_755, za_756, zb_757, za_758, za_759, za_760, zb_761, za_763, za_764, za_765, true_and, and_true, Nat.reduceAdd, ef]
      refine zm_R_eq (c4_bitsIn hE (d + 1) hn _ (by omega) hc' hw) ?_
      simp only [bX11_piles_68, zw_0, zw_1, zs_aloadn3, zs_aloadNn3, zg_11_318, zi_11_321, zh_0, zh_1, zh_2, zh_3, zh_4, zt_i, zt_l, zt_r, zt_n, zb_15, zb_16, zb_17, za_18, za_19, za_20, za_21, za_22, zb_23, za_24, za_25, za_26, za_27, za_28, za_29, za_30, za_31, za_32, zb_35, za_36, za_37, za_38, za_39, za_40, zb_377, zb_378, za_379, za_380, za_381, za_382, za_383, zb_384, za_385, za_386, za_387, za_388, za_389, za_390, za_391, za_392, za_393, zb_396, za_397, za_398, za_399, za_400, za_401, zb_738, za_739, za_740, za_741, za_742, za_743, za_744, za_745, za_746, za_747, zb_748, za_749, za_750, zb_751, zb_752, za_753, za_754, za_755, za_756, zb_757, za_758, za_759, za_760, zb_761, za_763, za_764, za_765, true_and, and_true, Nat.reduceAdd]
      refine fin _ _ ?_
      unfold zs_pl zs_bits
      rw [if_neg (by decide), if_neg hz, if_pos rfl]
    · unfold zs_pl
      rw [if_neg (by decide), if_pos hz]
  · rintro rfl
    have fin : ∀ v l, v = zs_pl (M.1 36) n t 2 → G 93 l [.int v] M' := by
      intro v l hv
      refine h93 _ _ _ ?_
      simp only [bX11_piles_93, zw_0, zw_1, zs_ireturn, zn_int, zn_b0, zn_b1, zb_15, zb_16, zb_17, za_18, za_19, za_20, za_21, za_22, zb_23, za_24, za_25, za_26, za_27, za_28, za_29, za_30, za_31, za_32, zb_35, za_36, za_37, za_38, za_39, za_40, zb_377, zb_378, za_379, za_380, za_381, za_382, za_383, zb_384, za_385, za_386, za_387, za_388, za_389, za_390, za_391, za_392, za_393, zb_396, za_397, za_398, za_399, za_400, za_401, zb_738, za_739, za_740, za_741, za_742, za_743, za_744, za_745, za_746, za_747, zb_748, za_749, za_750, zb_751, zb_752, za_753, za_754, za_755, za_756, zb_757, za_758, za_759, za_760, zb_761, za_763, za_764, za_765, true_and, and_true, Nat.reduceAdd]
      rw [hv]
      exact q2
    refine h77 _ _ _ ?_
    simp only [bX11_piles_77, zw_0, zw_1, zs_aloadn3, zs_aloadNn3, zg_11_318, zs_ifne, zs_iconst, zs_goto, zb_15, zb_16, zb_17, za_18, za_19, za_20, za_21, za_22, zb_23, za_24, za_25, za_26, za_27, za_28, za_29, za_30, za_31, za_32, zb_35, za_36, za_37, za_38, za_39, za_40, zb_377, zb_378, za_379, za_380, za_381, za_382, za_383, zb_384, za_385, za_386, za_387, za_388, za_389, za_390, za_391, za_392, za_393, zb_396, za_397, za_398, za_399, za_400, za_401, zb_738, za_739, za_740, za_741, za_742, za_743, za_744, za_745, za_746, za_747, zb_748, za_749, za_750, zb_751, zb_752, za_753, za_754, za_755, za_756, zb_757, za_758, za_759, za_760, zb_761, za_763, za_764, za_765, true_and, and_true, Nat.reduceAdd, ef, e0]
    refine ⟨fun hz => ?_, fun hz => fin _ _ ?_⟩
    · refine h88 _ _ _ ?_
      simp only [bX11_piles_88, zw_0, zw_1, zs_aloadn3, zs_aloadNn3, zs_iconst, zi_11_321, zh_0, zh_1, zh_2, zh_3, zh_4, zt_i, zt_l, zt_r, zt_n, zb_15, zb_16, zb_17, za_18, za_19, za_20, za_21, za_22, zb_23, za_24, za_25, za_26, za_27, za_28, za_29, za_30, za_31, za_32, zb_35, za_36, za_37, za_38, za_39, za_40, zb_377, zb_378, za_379, za_380, za_381, za_382, za_383, zb_384, za_385, za_386, za_387, za_388, za_389, za_390, za_391, za_392, za_393, zb_396, za_397, za_398, za_399, za_400, za_401, zb_738, za_739, za_740, za_741, za_742, za_743, za_744, za_745, za_746, za_747, zb_748, za_749, za_750, zb_751, zb_752, za_753, za_754, za_755, za_756, zb_757, za_758, za_759, za_760, zb_761, za_763, za_764, za_765, true_and, and_true, Nat.reduceAdd]
      refine zm_R_eq (c4_bitsIn hE (d + 1) hn 0 (by omega) hc' hw) ?_
      simp only [bX11_piles_88, zw_0, zw_1, zs_aloadn3, zs_aloadNn3, zs_iconst, zi_11_321, zh_0, zh_1, zh_2, zh_3, zh_4, zt_i, zt_l, zt_r, zt_n, zb_15, zb_16, zb_17, za_18, za_19, za_20, za_21, za_22, zb_23, za_24, za_25, za_26, za_27, za_28, za_29, za_30, za_31, za_32, zb_35, za_36, za_37, za_38, za_39, za_40, zb_377, zb_378, za_379, za_380, za_381, za_382, za_383, zb_384, za_385, za_386, za_387, za_388, za_389, za_390, za_391, za_392, za_393, zb_396, za_397, za_398, za_399, za_400, za_401, zb_738, za_739, za_740, za_741, za_742, za_743, za_744, za_745, za_746, za_747, zb_748, za_749, za_750, zb_751, zb_752, za_753, za_754, za_755, za_756, zb_757, za_758, za_759, za_760, zb_761, za_763, za_764, za_765, true_and, and_true, Nat.reduceAdd]
      refine fin _ _ ?_
      unfold zs_pl zs_bits
      rw [if_neg (by decide), if_neg hz, if_neg (by decide)]
    · unfold zs_pl
      rw [if_neg (by decide), if_pos hz]
  · refine h94 _ _ _ ?_
    simp only [bX11_piles_94, zw_0, zw_1, zs_iconst, zs_ireturn, zn_int, zn_b0, zn_b1, zb_15, zb_16, zb_17, za_18, za_19, za_20, za_21, za_22, zb_23, za_24, za_25, za_26, za_27, za_28, za_29, za_30, za_31, za_32, zb_35, za_36, za_37, za_38, za_39, za_40, zb_377, zb_378, za_379, za_380, za_381, za_382, za_383, zb_384, za_385, za_386, za_387, za_388, za_389, za_390, za_391, za_392, za_393, zb_396, za_397, za_398, za_399, za_400, za_401, zb_738, za_739, za_740, za_741, za_742, za_743, za_744, za_745, za_746, za_747, zb_748, za_749, za_750, zb_751, zb_752, za_753, za_754, za_755, za_756, zb_757, za_758, za_759, za_760, zb_761, za_763, za_764, za_765, true_and, and_true, Nat.reduceAdd]
    have : zi_in w 0 2 = 0 := by
      rcases zi_in01 w 0 2 with z | z
      · exact z
      · obtain ⟨f, hf, rfl⟩ := zi_in_of (p := w) (n := 2) (by decide) (by show ¬ zi_in w 0 2 = 0; rw [z]; decide)
        rcases (show f = 0 ∨ f = 1 ∨ f = 2 by omega) with rfl | rfl | rfl
        · exact absurd rfl n0
        · exact absurd rfl n1
        · exact absurd rfl n2
    rw [if_pos this] at q2
    exact q2
theorem c_piles {E : zm_E} (hE : zm_ok E.2.2.1 E.2.2.2.2) (d : Nat) {n : Nat} (hn : n ≤ 8) (t w : Int32) {M : zm_M} (hc : M.1 1 4 = nI n) {Q : Option Value → zm_M → Prop} (q1 : (zi_in t 0 9999 = 0 ∨ zi_in w 0 2 = 0) → Q (some (.int (-1))) M) (q2 : ¬ zi_in t 0 9999 = 0 → ¬ zi_in w 0 2 = 0 → ∀ M', zs_lay M M' 0 34 14 8 (fun k => M.1 1 (120 + k)) n t (2 ^ n) → Q (some (.int (zs_pl (fun k => M.1 1 (120 + k)) n t w))) M') : zm_R E (d + 3) mX12_piles [.ref 0, .int t, .int w] M Q := by
  refine zX12_piles hE rfl (fun G h0 h20 h22 h32 h70 h71 h81 h82 h90 h101 h102 => ?_)
  show G 0 [some (.ref 0), some (.int t), some (.int w), none, none] [] M
  have bad : (zi_in t 0 9999 = 0 ∨ zi_in w 0 2 = 0) → G 20 [some (.ref 0), some (.int t), some (.int w), none, none] [] M := by
    intro hb
    refine h20 _ _ _ ?_
    simp only [bX12_piles_20, zw_0, zw_1, zs_iconst, zs_ireturn, zn_int, zn_b0, zn_b1, zb_0, za_1, za_2, za_3, za_4, za_5, za_6, za_7, za_8, za_9, za_10, za_11, za_12, za_13, za_14, true_and, and_true, Nat.reduceAdd]
    exact q1 hb
  refine h0 _ _ _ ?_
  simp only [bX12_piles_0, zw_0, zw_1, zs_iloadn1, zs_iconst, zs_sipush, zi_12_69, zs_ifeq, zs_iloadn2, zs_ifne, zh_0, zh_1, zh_2, zh_3, zh_4, zt_i, zt_l, zt_r, zt_n, zb_0, za_1, za_2, za_3, za_4, za_5, za_6, za_7, za_8, za_9, za_10, za_11, za_12, za_13, za_14, true_and, and_true, Nat.reduceAdd]
  refine zm_R_eq (c_isIn hE (d + 1) t 0 9999 M) ?_
  simp only [bX12_piles_0, zw_0, zw_1, zs_iloadn1, zs_iconst, zs_sipush, zi_12_69, zs_ifeq, zs_iloadn2, zs_ifne, zh_0, zh_1, zh_2, zh_3, zh_4, zt_i, zt_l, zt_r, zt_n, zb_0, za_1, za_2, za_3, za_4, za_5, za_6, za_7, za_8, za_9, za_10, za_11, za_12, za_13, za_14, true_and, and_true, Nat.reduceAdd]
  refine ⟨fun h => bad (Or.inl h), fun ht => ?_⟩
  refine zm_R_eq (c_isIn hE (d + 1) w 0 2 M) ?_
  simp only [bX12_piles_0, zw_0, zw_1, zs_iloadn1, zs_iconst, zs_sipush, zi_12_69, zs_ifeq, zs_iloadn2, zs_ifne, zh_0, zh_1, zh_2, zh_3, zh_4, zt_i, zt_l, zt_r, zt_n, zb_0, za_1, za_2, za_3, za_4, za_5, za_6, za_7, za_8, za_9, za_10, za_11, za_12, za_13, za_14, true_and, and_true, Nat.reduceAdd]
  refine ⟨fun hw => ?_, fun h => bad (Or.inr h)⟩
  refine h22 _ _ _ ?_
  simp only [bX12_piles_22, zw_0, zw_1, zs_aloadn0, zs_aloadNn0, zs_iloadn1, zi_12_446, zs_iconst, zs_istoren3, zs_istore4, zc_none, zc_int, zc_ref, zc_null, zc_long, zh_0, zh_1, zh_2, zh_3, zh_4, zt_i, zt_l, zt_r, zt_n, zb_0, za_1, za_2, za_3, za_4, za_5, za_6, za_7, za_8, za_9, za_10, za_11, za_12, za_13, za_14, true_and, and_true, Nat.reduceAdd]
  refine c_laySets hE d hn t hc (fun M' hL => ?_)
  have q2 := q2 ht hw M' hL
  have hN : 2 ^ n ≤ 256 := Nat.pow_le_pow_right (n := 2) (by decide) hn
  have hF := zs_f_le (fun k => M.1 1 (120 + k)) n t (2 ^ n)
  have hc' : M'.1 1 4 = nI n := by rw [(hL.1 1 (by decide)).1]; exact hc
  have ef := hL.2.2.1
  have e0 : (nI (zs_f (fun k => M.1 1 (120 + k)) n t (2 ^ n)) ≤ 0) = (zs_f (fun k => M.1 1 (120 + k)) n t (2 ^ n) = 0) := propext ((nI_leI (b := 0) (by omega) (by decide)).trans Nat.le_zero)
  have fin : ∀ s l4, (¬ w = 0 → nI s = zs_pl (fun k => M.1 1 (120 + k)) n t w) → G 90 [some (.ref 0), some (.int t), some (.int w), some (.int (nI s)), l4] [] M' := by
    intro s l4 hs
    have r : ∀ v, v = zs_pl (fun k => M.1 1 (120 + k)) n t w → G 102 [some (.ref 0), some (.int t), some (.int w), some (.int (nI s)), l4] [.int v] M' := by
      intro v hv
      refine h102 _ _ _ ?_
      simp only [bX12_piles_102, zw_0, zw_1, zs_ireturn, zn_int, zn_b0, zn_b1, zb_0, za_1, za_2, za_3, za_4, za_5, za_6, za_7, za_8, za_9, za_10, za_11, za_12, za_13, za_14, true_and, and_true, Nat.reduceAdd]
      rw [hv]
      exact q2
    refine h90 _ _ _ ?_
    simp only [bX12_piles_90, zw_0, zw_1, zs_iloadn2, zs_ifne, zs_aloadn0, zs_aloadNn0, zg_12_443, zs_goto, zb_0, za_1, za_2, za_3, za_4, za_5, za_6, za_7, za_8, za_9, za_10, za_11, za_12, za_13, za_14, true_and, and_true, Nat.reduceAdd, ef]
    refine ⟨fun h => ?_, fun h => r _ (by rw [h]; rfl)⟩
    refine h101 _ _ _ ?_
    simp only [bX12_piles_101, zw_0, zw_1, zs_iloadn3, zb_0, za_1, za_2, za_3, za_4, za_5, za_6, za_7, za_8, za_9, za_10, za_11, za_12, za_13, za_14, true_and, and_true, Nat.reduceAdd]
    exact r _ (hs h)
  have loop : ∀ (f k : Nat), k + f = n → G 32 [some (.ref 0), some (.int t), some (.int w), some (.int (nI (if zs_f (fun k => M.1 1 (120 + k)) n t (2 ^ n) = 0 then 0 else zb_set (fun k => decide (zs_w (fun k => M.1 1 (120 + k)) n t k (2 ^ n) = if w = 1 then zs_f (fun k => M.1 1 (120 + k)) n t (2 ^ n) else 0)) k))), some (.int (nI k))] [] M' := by
    intro f
    induction f with
    | zero =>
      intro k hk
      have hk : k = n := by omega
      subst hk
      refine h32 _ _ _ ?_
      simp only [bX12_piles_32, zw_0, zw_1, zs_iload4, zs_aloadn0, zs_aloadNn0, zg_12_7, zs_iconst, zs_iaload, zs_icge, zg_12_443, zs_ifle, zs_iloadn3, zg_12_62, zs_iloadn2, zs_icne, zs_goto, zb_0, za_1, za_2, za_3, za_4, za_5, za_6, za_7, za_8, za_9, za_10, za_11, za_12, za_13, za_14, zu_0, zu_1, zu_2, zu_3, zu_4, zu_5, zu_6, zu_7, zu_8, zu_9, zu_10, zu_11, zu_12, zu_13, zu_14, zu_15, zu_16, zu_17, zu_18, zu_19, zu_20, zu_21, zu_22, zu_23, zu_24, zu_25, zu_26, zu_27, zu_28, zu_29, zu_30, zu_90, zv_0_9, zv_1_9, zv_2_9, zv_3_9, zv_4_9, zv_5_9, zv_6_9, zv_7_9, zv_8_9, zv_0_330, zv_0_4544, zv_1_4544, zv_2_4544, zv_3_4544, zv_4_4544, zv_5_4544, zv_6_4544, zv_7_4544, zv_8_4544, zv_9_4544, zv_10_4544, zv_11_4544, zv_12_4544, zv_13_4544, zv_14_4544, zv_15_4544, zv_16_4544, zv_17_4544, zv_18_4544, zv_19_4544, zv_20_4544, zv_21_4544, zv_22_4544, zv_23_4544, zv_24_4544, zv_25_4544, zv_26_4544, zv_27_4544, zv_28_4544, zv_29_4544, zv_0_11, zv_1_11, zv_0_160, true_and, and_true, Nat.reduceAdd, hc']
      refine ⟨fun _ => fin _ _ (fun hw0 => ?_), fun h => absurd (nI_le (Nat.le_refl _) (by omega)) h⟩
      unfold zs_pl zs_bits
      rw [if_neg hw0]
      split <;> rfl
    | succ f ih =>
      intro k hk
      refine h32 _ _ _ ?_
      have i1 : vp_in (nI k) 8 := vp_in_nI (by omega) (by decide)
      have i2 : (nI k).toNatClampNeg = k := nI_clamp (by omega)
      have ew := hL.2.2.2 k (by omega)
      simp only [bX12_piles_32, zw_0, zw_1, zs_iload4, zs_aloadn0, zs_aloadNn0, zg_12_7, zs_iconst, zs_iaload, zs_icge, zg_12_443, zs_ifle, zs_iloadn3, zg_12_62, zs_iloadn2, zs_icne, zs_goto, zb_0, za_1, za_2, za_3, za_4, za_5, za_6, za_7, za_8, za_9, za_10, za_11, za_12, za_13, za_14, zu_0, zu_1, zu_2, zu_3, zu_4, zu_5, zu_6, zu_7, zu_8, zu_9, zu_10, zu_11, zu_12, zu_13, zu_14, zu_15, zu_16, zu_17, zu_18, zu_19, zu_20, zu_21, zu_22, zu_23, zu_24, zu_25, zu_26, zu_27, zu_28, zu_29, zu_30, zu_90, zv_0_9, zv_1_9, zv_2_9, zv_3_9, zv_4_9, zv_5_9, zv_6_9, zv_7_9, zv_8_9, zv_0_330, zv_0_4544, zv_1_4544, zv_2_4544, zv_3_4544, zv_4_4544, zv_5_4544, zv_6_4544, zv_7_4544, zv_8_4544, zv_9_4544, zv_10_4544, zv_11_4544, zv_12_4544, zv_13_4544, zv_14_4544, zv_15_4544, zv_16_4544, zv_17_4544, zv_18_4544, zv_19_4544, zv_20_4544, zv_21_4544, zv_22_4544, zv_23_4544, zv_24_4544, zv_25_4544, zv_26_4544, zv_27_4544, zv_28_4544, zv_29_4544, zv_0_11, zv_1_11, zv_0_160, true_and, and_true, Nat.reduceAdd, hc', ef, e0, i1, i2, ew]
      refine ⟨fun h => absurd h (nI_ge (by omega) (by omega)), fun _ => ⟨fun hz => fin _ _ (fun hw0 => ?_), fun hz => ?_⟩⟩
      · rw [if_pos hz]
        unfold zs_pl
        rw [if_neg hw0, if_pos hz]; rfl
      · have hwl := zs_w_le (fun k => M.1 1 (120 + k)) n t k (2 ^ n)
        simp only [if_neg hz] at ih ⊢
        have nx : ∀ v, v = nI (if zs_w (fun k => M.1 1 (120 + k)) n t k (2 ^ n) = (if w = 1 then zs_f (fun k => M.1 1 (120 + k)) n t (2 ^ n) else 0) then 2 ^ k else 0) → G 82 [some (.ref 0), some (.int t), some (.int w), some (.int (nI (zb_set (fun k => decide (zs_w (fun k => M.1 1 (120 + k)) n t k (2 ^ n) = if w = 1 then zs_f (fun k => M.1 1 (120 + k)) n t (2 ^ n) else 0)) k))), some (.int (nI k))] [.int v, .int (nI (zb_set (fun k => decide (zs_w (fun k => M.1 1 (120 + k)) n t k (2 ^ n) = if w = 1 then zs_f (fun k => M.1 1 (120 + k)) n t (2 ^ n) else 0)) k))] M' := by
          intro v hv
          refine h82 _ _ _ ?_
          simp only [bX12_piles_82, zw_0, zw_1, zs_ior, zs_istoren3, zs_iinc4, zs_goto, zc_none, zc_int, zc_ref, zc_null, zc_long, zb_0, za_1, za_2, za_3, za_4, za_5, za_6, za_7, za_8, za_9, za_10, za_11, za_12, za_13, za_14, true_and, and_true, Nat.reduceAdd]
          rw [hv, nx_or, nI_1]
          have := ih (k + 1) (by omega)
          simp only [zb_set, decide_eq_true_eq] at this
          exact this
        have cmp : ∀ x, x ≤ 256 → x = (if w = 1 then zs_f (fun k => M.1 1 (120 + k)) n t (2 ^ n) else 0) → G 71 [some (.ref 0), some (.int t), some (.int w), some (.int (nI (zb_set (fun k => decide (zs_w (fun k => M.1 1 (120 + k)) n t k (2 ^ n) = if w = 1 then zs_f (fun k => M.1 1 (120 + k)) n t (2 ^ n) else 0)) k))), some (.int (nI k))] [.int (nI x), .int (nI (zs_w (fun k => M.1 1 (120 + k)) n t k (2 ^ n))), .int (nI (zb_set (fun k => decide (zs_w (fun k => M.1 1 (120 + k)) n t k (2 ^ n) = if w = 1 then zs_f (fun k => M.1 1 (120 + k)) n t (2 ^ n) else 0)) k))] M' := by
          intro x hx ex
          have we : (nI (zs_w (fun k => M.1 1 (120 + k)) n t k (2 ^ n)) = nI x) = (zs_w (fun k => M.1 1 (120 + k)) n t k (2 ^ n) = x) := propext (nI_eq (by omega) (by omega))
          refine h71 _ _ _ ?_
          simp only [bX12_piles_71, zw_0, zw_1, zs_icne, zs_iconst, zs_iload4, zs_ishl, zs_goto, zb_0, za_1, za_2, za_3, za_4, za_5, za_6, za_7, za_8, za_9, za_10, za_11, za_12, za_13, za_14, true_and, and_true, Nat.reduceAdd, we]
          refine ⟨fun h => ?_, fun h => nx _ ?_⟩
          · refine h81 _ _ _ ?_
            simp only [bX12_piles_81, zw_0, zw_1, zs_iconst, zb_0, za_1, za_2, za_3, za_4, za_5, za_6, za_7, za_8, za_9, za_10, za_11, za_12, za_13, za_14, true_and, and_true, Nat.reduceAdd]
            refine nx _ ?_
            rw [← ex, if_neg h]; rfl
          · rw [← ex, if_pos h, zx_1s k (by omega)]
        refine ⟨fun h => ?_, fun h => cmp _ (by omega) (by rw [if_pos h])⟩
        refine h70 _ _ _ ?_
        simp only [bX12_piles_70, zw_0, zw_1, zs_iconst, zb_0, za_1, za_2, za_3, za_4, za_5, za_6, za_7, za_8, za_9, za_10, za_11, za_12, za_13, za_14, true_and, and_true, Nat.reduceAdd]
        exact cmp 0 (by omega) (by rw [if_neg h])
  simp only [bX12_piles_22, zw_0, zw_1, zs_aloadn0, zs_aloadNn0, zs_iloadn1, zi_12_446, zs_iconst, zs_istoren3, zs_istore4, zc_none, zc_int, zc_ref, zc_null, zc_long, zh_0, zh_1, zh_2, zh_3, zh_4, zt_i, zt_l, zt_r, zt_n, zb_0, za_1, za_2, za_3, za_4, za_5, za_6, za_7, za_8, za_9, za_10, za_11, za_12, za_13, za_14, true_and, and_true, Nat.reduceAdd]
  have := loop n 0 (by omega)
  simp only [zb_set, ite_self] at this
  exact this
