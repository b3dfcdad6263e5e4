/-! ===== the reference: write, anew, wrongNow, keep, undo ===== -/
theorem c_write {E : zm_E} (hE : zm_ok E.2.2.1 E.2.2.2.2) (d : Nat) {k : Nat} (what : Int32) {M : zm_M} {S : zW} (hs : zw_sz S) (hk : k < zWn S) (hS : zw_m M S) {Q : Option Value → zm_M → Prop} (q : ∀ M', zw_m M' (if M.1 0 23 = 0 then S else zw_wr S k what) → zh [] M M' → Q none M') : zm_R E (d + 2) mX12_write [.ref 0, .int (nI k), .int what] M Q := by
  refine zX12_write hE rfl (fun G h0 h8 h22 h56 h67 => ?_)
  show G 0 [some (.ref 0), some (.int (nI k)), some (.int what), none] [] M
  refine h0 _ _ _ ?_
  simp only [bX12_write_0, zw_0, zw_1, zs_aloadn0, zs_aloadNn0, zg_12_43, zs_ifne, zs_return, zn_int, zn_b0, zn_b1, zb_0, za_1, za_2, za_3, za_4, za_5, za_6, za_7, za_8, za_9, za_10, za_11, za_12, za_13, za_14, true_and, and_true, Nat.reduceAdd]
  refine ⟨fun hw => ?_, fun hz => q M (by rw [if_pos hz]; exact hS) zh_refl⟩
  rw [if_neg hw] at q
  obtain ⟨hn, hm⟩ := hs
  have s0 := hS
  obtain ⟨h1, h2, h3, h4, h5, h6, h7⟩ := hS
  have e9 : M.1 1 9 = nI (zWm S) := h4
  have c30 : (nI (zWm S) = 30) = (zWm S = 30) := propext (nI_eq (b := 30) (by omega) (by decide))
  have hm' : zw_wm S ≤ 29 := by unfold zw_wm; split <;> omega
  have after : ∀ (M1 : zm_M) l, zh [] M M1 → (∀ j, j ≠ 9 → j < 4484 → M1.1 1 j = M.1 1 j) → M1.1 1 9 = nI (zw_wm S) → (∀ i, i < zw_wm S → M1.1 1 (4484 + 2 * i) = zw_wb S i 0 ∧ M1.1 1 (4484 + (2 * i + 1)) = (zw_wb S i 1 * 4 + zw_wb S i 2) * 10000 + zw_wb S i 3) → G 67 [some (.ref 0), some (.int (nI k)), some (.int what), l] [] M1 := by
    intro M1 l f1 f2 f3 f4
    have e0 : (4484 : Int32) + 2 * nI (zw_wm S) = nI (4484 + 2 * zw_wm S) := zx_4484 _
    obtain ⟨v0, c0⟩ := zx_ck (k := 4484) (p := 2 * zw_wm S) (N := 4544) (by omega) (by decide)
    obtain ⟨v1, c1⟩ := zx_ck (k := 4484 + 2 * zw_wm S) (p := 1) (N := 4544) (by omega) (by decide)
    have d6 : M1.1 1 6 = zWd S := by rw [f2 6 (by decide) (by decide)]; exact h1
    have m1 : (zm_wi M1 1 (4484 + 2 * zw_wm S) (zWd S)).1 1 9 = nI (zw_wm S) := by rw [zm_wi_same, if_neg (by omega)]; exact f3
    refine h67 _ _ _ ?_
    simp only [bX12_write_67, zw_0, zw_1, zs_aloadn0, zs_aloadNn0, zg_12_7, zs_sipush, zs_iconst, zs_bipush, zs_iaload, zs_imul, zs_iadd, zs_iastore, zs_iloadn1, zs_iloadn2, zi_12_304, zs_dup2, zs_return, zh_0, zh_1, zh_2, zh_3, zh_4, zt_i, zt_l, zt_r, zt_n, zn_int, zn_b0, zn_b1, zb_0, za_1, za_2, za_3, za_4, za_5, za_6, za_7, za_8, za_9, za_10, za_11, za_12, za_13, za_14, zu_0, zu_1, zu_2, zu_3, zu_4, zu_5, zu_6, zu_7, zu_8, zu_9, zu_10, zu_11, zu_12, zu_13, zu_14, zu_15, zu_16, zu_17, zu_18, zu_19, zu_20, zu_21, zu_22, zu_23, zu_24, zu_25, zu_26, zu_27, zu_28, zu_29, zu_30, zu_90, zv_0_9, zv_1_9, zv_2_9, zv_3_9, zv_4_9, zv_5_9, zv_6_9, zv_7_9, zv_8_9, zv_0_330, zv_0_4544, zv_1_4544, zv_2_4544, zv_3_4544, zv_4_4544, zv_5_4544, zv_6_4544, zv_7_4544, zv_8_4544, zv_9_4544, zv_10_4544, zv_11_4544, zv_12_4544, zv_13_4544, zv_14_4544, zv_15_4544, zv_16_4544, zv_17_4544, zv_18_4544, zv_19_4544, zv_20_4544, zv_21_4544, zv_22_4544, zv_23_4544, zv_24_4544, zv_25_4544, zv_26_4544, zv_27_4544, zv_28_4544, zv_29_4544, zv_0_11, zv_1_11, zv_0_160, true_and, and_true, Nat.reduceAdd, f3, e0, v0, c0, d6, m1, nI_1, v1, c1]
    refine zm_R_eq (c_gt hE d (k := k) (by omega) 3 (by decide) _) ?_
    have z3 : zp (zm_wi M1 1 (4484 + 2 * zw_wm S) (zWd S)) 3 k = zWa S 3 k := by
      unfold zp
      rw [zm_wi_same, if_neg (by omega), f2 _ (by omega) (by omega)]
      exact zw_m_ap s0 (by decide) hk
    have m2 : ∀ v, (zm_wi (zm_wi M1 1 (4484 + 2 * zw_wm S) (zWd S)) 1 (4484 + 2 * zw_wm S + 1) v).1 1 9 = nI (zw_wm S) := fun v => by rw [zm_wi_same, if_neg (by omega)]; exact m1
    simp only [bX12_write_67, zw_0, zw_1, zs_aloadn0, zs_aloadNn0, zg_12_7, zs_sipush, zs_iconst, zs_bipush, zs_iaload, zs_imul, zs_iadd, zs_iastore, zs_iloadn1, zs_iloadn2, zi_12_304, zs_dup2, zs_return, zh_0, zh_1, zh_2, zh_3, zh_4, zt_i, zt_l, zt_r, zt_n, zn_int, zn_b0, zn_b1, zb_0, za_1, za_2, za_3, za_4, za_5, za_6, za_7, za_8, za_9, za_10, za_11, za_12, za_13, za_14, zu_0, zu_1, zu_2, zu_3, zu_4, zu_5, zu_6, zu_7, zu_8, zu_9, zu_10, zu_11, zu_12, zu_13, zu_14, zu_15, zu_16, zu_17, zu_18, zu_19, zu_20, zu_21, zu_22, zu_23, zu_24, zu_25, zu_26, zu_27, zu_28, zu_29, zu_30, zu_90, zv_0_9, zv_1_9, zv_2_9, zv_3_9, zv_4_9, zv_5_9, zv_6_9, zv_7_9, zv_8_9, zv_0_330, zv_0_4544, zv_1_4544, zv_2_4544, zv_3_4544, zv_4_4544, zv_5_4544, zv_6_4544, zv_7_4544, zv_8_4544, zv_9_4544, zv_10_4544, zv_11_4544, zv_12_4544, zv_13_4544, zv_14_4544, zv_15_4544, zv_16_4544, zv_17_4544, zv_18_4544, zv_19_4544, zv_20_4544, zv_21_4544, zv_22_4544, zv_23_4544, zv_24_4544, zv_25_4544, zv_26_4544, zv_27_4544, zv_28_4544, zv_29_4544, zv_0_11, zv_1_11, zv_0_160, true_and, and_true, Nat.reduceAdd, z3, v1, c1, m2, nI_1]
    have rd : ∀ j, j ≠ 9 → j ≠ 4484 + 2 * zw_wm S → j ≠ 4484 + 2 * zw_wm S + 1 → (zm_wi (zm_wi (zm_wi M1 1 (4484 + 2 * zw_wm S) (zWd S)) 1 (4484 + 2 * zw_wm S + 1) ((nI k * 4 + what) * 10000 + zWa S 3 k)) 1 9 (nI (zw_wm S + 1))).1 1 j = M1.1 1 j := by
      intro j a b c
      rw [zm_wi_same, if_neg a, zm_wi_same, if_neg c, zm_wi_same, if_neg b]
    refine q _ ⟨(rd _ (by omega) (by omega) (by omega)).trans ((f2 _ (by omega) (by omega)).trans h1), (rd _ (by omega) (by omega) (by omega)).trans ((f2 _ (by omega) (by omega)).trans h2), (rd _ (by omega) (by omega) (by omega)).trans ((f2 _ (by omega) (by omega)).trans h3), ?_, fun p hp => (rd _ (by omega) (by omega) (by omega)).trans ((f2 _ (by omega) (by omega)).trans (h5 p hp)), fun x i hx hi => ?_, fun i hi => ?_⟩ ?_
    · show (zm_wi _ 1 9 (nI (zw_wm S + 1))).1 1 9 = _
      rw [zm_wi_same, if_pos rfl]; rfl
    · have hi : i < zWn S := hi
      exact (rd _ (by omega) (by omega) (by omega)).trans ((f2 _ (by omega) (by omega)).trans (h6 x i hx hi))
    · have hi : i < zw_wm S + 1 := hi
      by_cases c : i = zw_wm S
      · subst c
        have t : ∀ j, zWb (zw_wr S k what) (zw_wm S) j = zw_nt S k what j := fun j => if_pos rfl
        rw [t, t, t, t]
        constructor
        · show (zm_wi _ 1 9 (nI (zw_wm S + 1))).1 1 (4484 + 2 * zw_wm S) = zWd S
          rw [zm_wi_same, if_neg (by omega), zm_wi_same, if_neg (by omega), zm_wi_same, if_pos rfl]
        · show (zm_wi _ 1 9 (nI (zw_wm S + 1))).1 1 (4484 + (2 * zw_wm S + 1)) = (nI k * 4 + what) * 10000 + zWa S 3 k
          rw [zm_wi_same, if_neg (by omega), zm_wi_same, if_pos (by omega)]
      · have t : ∀ j, zWb (zw_wr S k what) i j = zw_wb S i j := fun j => if_neg c
        rw [t, t, t, t]
        exact ⟨(rd _ (by omega) (by omega) (by omega)).trans (f4 i (by omega)).1, (rd _ (by omega) (by omega) (by omega)).trans (f4 i (by omega)).2⟩
    · exact zh_wi (zh_wi (zh_wi f1 (Or.inr (by omega))) (Or.inr (by omega))) (Or.inl (by omega))
  refine h8 _ _ _ ?_
  simp only [bX12_write_8, zw_0, zw_1, zs_aloadn0, zs_aloadNn0, zg_12_7, zs_bipush, zs_iaload, zs_icne, zs_iconst, zs_istoren3, zc_none, zc_int, zc_ref, zc_null, zc_long, zb_0, za_1, za_2, za_3, za_4, za_5, za_6, za_7, za_8, za_9, za_10, za_11, za_12, za_13, za_14, zu_0, zu_1, zu_2, zu_3, zu_4, zu_5, zu_6, zu_7, zu_8, zu_9, zu_10, zu_11, zu_12, zu_13, zu_14, zu_15, zu_16, zu_17, zu_18, zu_19, zu_20, zu_21, zu_22, zu_23, zu_24, zu_25, zu_26, zu_27, zu_28, zu_29, zu_30, zu_90, zv_0_9, zv_1_9, zv_2_9, zv_3_9, zv_4_9, zv_5_9, zv_6_9, zv_7_9, zv_8_9, zv_0_330, zv_0_4544, zv_1_4544, zv_2_4544, zv_3_4544, zv_4_4544, zv_5_4544, zv_6_4544, zv_7_4544, zv_8_4544, zv_9_4544, zv_10_4544, zv_11_4544, zv_12_4544, zv_13_4544, zv_14_4544, zv_15_4544, zv_16_4544, zv_17_4544, zv_18_4544, zv_19_4544, zv_20_4544, zv_21_4544, zv_22_4544, zv_23_4544, zv_24_4544, zv_25_4544, zv_26_4544, zv_27_4544, zv_28_4544, zv_29_4544, zv_0_11, zv_1_11, zv_0_160, true_and, and_true, Nat.reduceAdd, e9, c30]
  refine ⟨fun h => ?_, fun h => ?_⟩
  · have w1 : zw_wm S = zWm S := by unfold zw_wm; rw [if_neg h]
    have w2 : zw_wb S = zWb S := by unfold zw_wb; rw [if_neg h]
    exact after M _ zh_refl (fun _ _ _ => rfl) (by rw [w1]; exact e9) (fun i hi => by rw [w1] at hi; rw [w2]; exact h7 i hi)
  · have w1 : zw_wm S = 29 := by unfold zw_wm; rw [if_pos h]
    have w2 : ∀ i j, zw_wb S i j = zWb S (i + 1) j := fun i j => by unfold zw_wb; rw [if_pos h]
    have loop : ∀ (f i : Nat) (M1 : zm_M), i + f = 58 → zh [] M M1 → (∀ j, j < 4484 → M1.1 1 j = M.1 1 j) → (∀ j, j < 60 → M1.1 1 (4484 + j) = if j < i then M.1 1 (4484 + (j + 2)) else M.1 1 (4484 + j)) → G 22 [some (.ref 0), some (.int (nI k)), some (.int what), some (.int (nI (i + 2)))] [] M1 := by
      intro f
      induction f with
      | zero =>
        intro i M1 hi f1 f2 f3
        have hi : i = 58 := by omega
        subst hi
        have m9 : M1.1 1 9 = nI 30 := by rw [f2 9 (by decide), e9, h]
        refine h22 _ _ _ ?_
        simp only [bX12_write_22, zw_0, zw_1, zs_iloadn3, zs_bipush, zs_icge, zs_aloadn0, zs_aloadNn0, zg_12_7, zs_sipush, zs_iadd, zs_iconst, zs_isub, zs_iaload, zs_iastore, zs_iinc3, zs_goto, zc_none, zc_int, zc_ref, zc_null, zc_long, zb_0, za_1, za_2, za_3, za_4, za_5, za_6, za_7, za_8, za_9, za_10, za_11, za_12, za_13, za_14, zu_0, zu_1, zu_2, zu_3, zu_4, zu_5, zu_6, zu_7, zu_8, zu_9, zu_10, zu_11, zu_12, zu_13, zu_14, zu_15, zu_16, zu_17, zu_18, zu_19, zu_20, zu_21, zu_22, zu_23, zu_24, zu_25, zu_26, zu_27, zu_28, zu_29, zu_30, zu_90, zv_0_9, zv_1_9, zv_2_9, zv_3_9, zv_4_9, zv_5_9, zv_6_9, zv_7_9, zv_8_9, zv_0_330, zv_0_4544, zv_1_4544, zv_2_4544, zv_3_4544, zv_4_4544, zv_5_4544, zv_6_4544, zv_7_4544, zv_8_4544, zv_9_4544, zv_10_4544, zv_11_4544, zv_12_4544, zv_13_4544, zv_14_4544, zv_15_4544, zv_16_4544, zv_17_4544, zv_18_4544, zv_19_4544, zv_20_4544, zv_21_4544, zv_22_4544, zv_23_4544, zv_24_4544, zv_25_4544, zv_26_4544, zv_27_4544, zv_28_4544, zv_29_4544, zv_0_11, zv_1_11, zv_0_160, true_and, and_true, Nat.reduceAdd]
        refine ⟨fun _ => ?_, fun h => absurd (by decide) h⟩
        refine h56 _ _ _ ?_
        simp only [bX12_write_56, zw_0, zw_1, zs_aloadn0, zs_aloadNn0, zg_12_7, zs_bipush, zs_dup2, zs_iaload, zs_iconst, zs_isub, zs_iastore, zb_0, za_1, za_2, za_3, za_4, za_5, za_6, za_7, za_8, za_9, za_10, za_11, za_12, za_13, za_14, zu_0, zu_1, zu_2, zu_3, zu_4, zu_5, zu_6, zu_7, zu_8, zu_9, zu_10, zu_11, zu_12, zu_13, zu_14, zu_15, zu_16, zu_17, zu_18, zu_19, zu_20, zu_21, zu_22, zu_23, zu_24, zu_25, zu_26, zu_27, zu_28, zu_29, zu_30, zu_90, zv_0_9, zv_1_9, zv_2_9, zv_3_9, zv_4_9, zv_5_9, zv_6_9, zv_7_9, zv_8_9, zv_0_330, zv_0_4544, zv_1_4544, zv_2_4544, zv_3_4544, zv_4_4544, zv_5_4544, zv_6_4544, zv_7_4544, zv_8_4544, zv_9_4544, zv_10_4544, zv_11_4544, zv_12_4544, zv_13_4544, zv_14_4544, zv_15_4544, zv_16_4544, zv_17_4544, zv_18_4544, zv_19_4544, zv_20_4544, zv_21_4544, zv_22_4544, zv_23_4544, zv_24_4544, zv_25_4544, zv_26_4544, zv_27_4544, zv_28_4544, zv_29_4544, zv_0_11, zv_1_11, zv_0_160, true_and, and_true, Nat.reduceAdd, m9]
        refine after _ _ (zh_wi f1 (Or.inl (by omega))) (fun j a b => ?_) ?_ (fun j hj => ?_)
        · rw [zm_wi_same, if_neg a]; exact f2 j b
        · rw [zm_wi_same, if_pos rfl, w1]; rfl
        · rw [w1] at hj
          rw [w2, w2, w2, w2, zm_wi_same, zm_wi_same, if_neg (by omega), if_neg (by omega), f3 _ (by omega), f3 _ (by omega), if_pos (by omega), if_pos (by omega)]
          have := h7 (j + 1) (by omega)
          exact this
      | succ f ih =>
        intro i M1 hi f1 f2 f3
        have e0 : (4484 : Int32) + nI (i + 2) = nI (4484 + (i + 2)) := nI_add 4484 _
        have e1 : nI (4484 + (i + 2)) - 2 = nI (4484 + i) := by
          have := pk_sub (a := 4484 + (i + 2)) (b := 2) (by omega)
          rw [show 4484 + (i + 2) - 2 = 4484 + i by omega] at this
          exact this
        obtain ⟨v0, c0⟩ := zx_ck (k := 4484) (p := i + 2) (N := 4544) (by omega) (by decide)
        obtain ⟨v1, c1⟩ := zx_ck (k := 4484) (p := i) (N := 4544) (by omega) (by decide)
        refine h22 _ _ _ ?_
        simp only [bX12_write_22, zw_0, zw_1, zs_iloadn3, zs_bipush, zs_icge, zs_aloadn0, zs_aloadNn0, zg_12_7, zs_sipush, zs_iadd, zs_iconst, zs_isub, zs_iaload, zs_iastore, zs_iinc3, zs_goto, zc_none, zc_int, zc_ref, zc_null, zc_long, zb_0, za_1, za_2, za_3, za_4, za_5, za_6, za_7, za_8, za_9, za_10, za_11, za_12, za_13, za_14, zu_0, zu_1, zu_2, zu_3, zu_4, zu_5, zu_6, zu_7, zu_8, zu_9, zu_10, zu_11, zu_12, zu_13, zu_14, zu_15, zu_16, zu_17, zu_18, zu_19, zu_20, zu_21, zu_22, zu_23, zu_24, zu_25, zu_26, zu_27, zu_28, zu_29, zu_30, zu_90, zv_0_9, zv_1_9, zv_2_9, zv_3_9, zv_4_9, zv_5_9, zv_6_9, zv_7_9, zv_8_9, zv_0_330, zv_0_4544, zv_1_4544, zv_2_4544, zv_3_4544, zv_4_4544, zv_5_4544, zv_6_4544, zv_7_4544, zv_8_4544, zv_9_4544, zv_10_4544, zv_11_4544, zv_12_4544, zv_13_4544, zv_14_4544, zv_15_4544, zv_16_4544, zv_17_4544, zv_18_4544, zv_19_4544, zv_20_4544, zv_21_4544, zv_22_4544, zv_23_4544, zv_24_4544, zv_25_4544, zv_26_4544, zv_27_4544, zv_28_4544, zv_29_4544, zv_0_11, zv_1_11, zv_0_160, true_and, and_true, Nat.reduceAdd, e0, e1, v0, c0, v1, c1]
        refine ⟨fun h => absurd h (nI_ge (b := 60) (by omega) (by decide)), fun _ => ?_⟩
        rw [nI_1]
        refine ih (i + 1) _ (by omega) (zh_wi f1 (Or.inr (by omega))) (fun j hj => ?_) (fun j hj => ?_)
        · rw [zm_wi_same, if_neg (by omega)]; exact f2 j hj
        · rw [zm_wi_same]
          by_cases c : j = i
          · subst c
            rw [if_pos rfl, if_pos (by omega), f3 _ (by omega), if_neg (by omega)]
          · rw [if_neg (by omega), f3 j hj]
            by_cases c2 : j < i
            · rw [if_pos c2, if_pos (by omega)]
            · rw [if_neg c2, if_neg (by omega)]
    exact loop 58 0 M (by omega) zh_refl (fun _ _ => rfl) (fun j _ => by rw [if_neg (by omega)])
theorem zw_dr_n {X : Nat} (hX : X < 30539) : zw_dr (nI X) = nI ((X * 421 + 307) % 30539) := by
  unfold zw_dr
  rw [show (421 : Int32) = nI 421 from rfl, show (307 : Int32) = nI 307 from rfl, show (30539 : Int32) = nI 30539 from rfl, pk_mul, nI_add, pk_rem (by omega) (by omega) (by omega)]
theorem zw_set2 {M : zm_M} {S : zW} (hs : zw_sz S) (h : zw_m M S) (v : Int32) : zw_m (zm_wi M 1 7 v) (zWd S, v, zWn S, zWm S, zWa S, zWo S, zWb S) := by
  obtain ⟨h1, h2, h3, h4, h5, h6, h7⟩ := h
  have ne : ∀ j, j ≠ 7 → (zm_wi M 1 7 v).1 1 j = M.1 1 j := fun j hj => by rw [zm_wi_same, if_neg hj]
  exact ⟨(ne _ (by omega)).trans h1, by show (zm_wi M 1 7 v).1 1 7 = v; rw [zm_wi_same, if_pos rfl], (ne _ (by omega)).trans h3, (ne _ (by omega)).trans h4, fun p hp => (ne _ (by omega)).trans (h5 p hp), fun x k hx hk => (ne _ (by omega)).trans (h6 x k hx hk), fun i hi => ⟨(ne _ (by omega)).trans (h7 i hi).1, (ne _ (by omega)).trans (h7 i hi).2⟩⟩
theorem c_anew {E : zm_E} (hE : zm_ok E.2.2.1 E.2.2.2.2) (d : Nat) {X : Nat} (hX : X < 30539) {M : zm_M} {S : zW} (hs : zw_sz S) (hS : zw_m M S) (ex : zWx S = nI X) {Q : Option Value → zm_M → Prop} (q : ∀ M', zw_m M' (zw_drw S) → zh [] M M' → Q none M') : zm_R E (d + 1) mX12_anew [.ref 0] M Q := by
  refine zX12_anew hE rfl (fun G h0 => ?_)
  show G 0 [some (.ref 0)] [] M
  have e7 : M.1 1 7 = nI X := by rw [← ex]; exact hS.2.1
  have el : (nI X).toInt64 = lN X := nI_l (by omega)
  refine h0 _ _ _ ?_
  simp only [bX12_anew_0, zw_0, zw_1, zs_aloadn0, zs_aloadNn0, zg_12_7, zs_bipush, zs_iaload, zs_i2l, zd_12_310, zs_lmul, zd_12_312, zs_ladd, zd_12_314, zs_lrem, zs_l2i, zs_iastore, zs_return, zn_int, zn_b0, zn_b1, zb_0, za_1, za_2, za_3, za_4, za_5, za_6, za_7, za_8, za_9, za_10, za_11, za_12, za_13, za_14, zu_0, zu_1, zu_2, zu_3, zu_4, zu_5, zu_6, zu_7, zu_8, zu_9, zu_10, zu_11, zu_12, zu_13, zu_14, zu_15, zu_16, zu_17, zu_18, zu_19, zu_20, zu_21, zu_22, zu_23, zu_24, zu_25, zu_26, zu_27, zu_28, zu_29, zu_30, zu_90, zv_0_9, zv_1_9, zv_2_9, zv_3_9, zv_4_9, zv_5_9, zv_6_9, zv_7_9, zv_8_9, zv_0_330, zv_0_4544, zv_1_4544, zv_2_4544, zv_3_4544, zv_4_4544, zv_5_4544, zv_6_4544, zv_7_4544, zv_8_4544, zv_9_4544, zv_10_4544, zv_11_4544, zv_12_4544, zv_13_4544, zv_14_4544, zv_15_4544, zv_16_4544, zv_17_4544, zv_18_4544, zv_19_4544, zv_20_4544, zv_21_4544, zv_22_4544, zv_23_4544, zv_24_4544, zv_25_4544, zv_26_4544, zv_27_4544, zv_28_4544, zv_29_4544, zv_0_11, zv_1_11, zv_0_160, true_and, and_true, Nat.reduceAdd, e7, el]
  refine ⟨by decide, ?_⟩
  have e : (lN X * 421 + 307 - (lN X * 421 + 307) / 30539 * 30539).toInt32 = zw_dr (zWx S) := by
    rw [ex, zw_dr_n hX, show (421 : Int64) = lN 421 from rfl, show (307 : Int64) = lN 307 from rfl, show (30539 : Int64) = lN 30539 from rfl, lN_mul, lN_add, pk_lRem (by omega) (by omega) (by omega), lN_i]
  rw [e]
  exact q _ (zw_set2 hs hS _) (zh_wi zh_refl (Or.inl (by omega)))
theorem c_wrongNow {E : zm_E} (hE : zm_ok E.2.2.1 E.2.2.2.2) (d : Nat) (fr to sz : Int32) {M : zm_M} {S : zW} (hs : zw_sz S) (hn : zWn S < 10) (hS : zw_m M S) {Q : Option Value → zm_M → Prop} (q : ∀ M', zw_m M' (zw_beg S fr to sz) → zh [] M M' → Q none M') : zm_R E (d + 2) mX12_wrongNow [.ref 0, .int fr, .int to, .int sz] M Q := by
  refine zX12_wrongNow hE rfl (fun G h0 => ?_)
  show G 0 [some (.ref 0), some (.int fr), some (.int to), some (.int sz), none] [] M
  have s0 := hS
  obtain ⟨h1, h2, h3, h4, h5, h6, h7⟩ := hS
  have e8 : M.1 1 8 = nI (zWn S) := h3
  generalize hN : zWn S = N at *
  have pt : ∀ (x : Nat) (hx : x < 7) (v : Int32) (M : zm_M), zm_R E (d + 1) mX12_put [.ref 0, .int (nI N), .int (nI x), .int v] M (fun r M' => r = none ∧ M' = zm_wi M 1 (20 + 7 * N + x) v) := fun x hx v M => c_put hE d (k := N) (w := x) (by omega) v M
  have rd : ∀ (M : zm_M) (x : Nat) (v : Int32) (j : Nat), j < 20 → (zm_wi M 1 (20 + 7 * N + x) v).1 1 j = M.1 1 j := fun M x v j hj => by rw [zm_wi_same, if_neg (by omega)]
  refine h0 _ _ _ ?_
  simp only [bX12_wrongNow_0, zw_0, zw_1, zs_aloadn0, zs_aloadNn0, zg_12_7, zs_bipush, zs_iaload, zs_istore4, zs_iload4, zs_iconst, zs_iloadn1, zi_12_319, zs_iloadn2, zs_iloadn3, zs_dup2, zs_iadd, zs_iastore, zs_return, zc_none, zc_int, zc_ref, zc_null, zc_long, zh_0, zh_1, zh_2, zh_3, zh_4, zt_i, zt_l, zt_r, zt_n, zn_int, zn_b0, zn_b1, zb_0, za_1, za_2, za_3, za_4, za_5, za_6, za_7, za_8, za_9, za_10, za_11, za_12, za_13, za_14, zu_0, zu_1, zu_2, zu_3, zu_4, zu_5, zu_6, zu_7, zu_8, zu_9, zu_10, zu_11, zu_12, zu_13, zu_14, zu_15, zu_16, zu_17, zu_18, zu_19, zu_20, zu_21, zu_22, zu_23, zu_24, zu_25, zu_26, zu_27, zu_28, zu_29, zu_30, zu_90, zv_0_9, zv_1_9, zv_2_9, zv_3_9, zv_4_9, zv_5_9, zv_6_9, zv_7_9, zv_8_9, zv_0_330, zv_0_4544, zv_1_4544, zv_2_4544, zv_3_4544, zv_4_4544, zv_5_4544, zv_6_4544, zv_7_4544, zv_8_4544, zv_9_4544, zv_10_4544, zv_11_4544, zv_12_4544, zv_13_4544, zv_14_4544, zv_15_4544, zv_16_4544, zv_17_4544, zv_18_4544, zv_19_4544, zv_20_4544, zv_21_4544, zv_22_4544, zv_23_4544, zv_24_4544, zv_25_4544, zv_26_4544, zv_27_4544, zv_28_4544, zv_29_4544, zv_0_11, zv_1_11, zv_0_160, true_and, and_true, Nat.reduceAdd, e8]
  refine zm_R_eq (pt 0 (by decide) fr _) ?_
  simp only [bX12_wrongNow_0, zw_0, zw_1, zs_aloadn0, zs_aloadNn0, zg_12_7, zs_bipush, zs_iaload, zs_istore4, zs_iload4, zs_iconst, zs_iloadn1, zi_12_319, zs_iloadn2, zs_iloadn3, zs_dup2, zs_iadd, zs_iastore, zs_return, zc_none, zc_int, zc_ref, zc_null, zc_long, zh_0, zh_1, zh_2, zh_3, zh_4, zt_i, zt_l, zt_r, zt_n, zn_int, zn_b0, zn_b1, zb_0, za_1, za_2, za_3, za_4, za_5, za_6, za_7, za_8, za_9, za_10, za_11, za_12, za_13, za_14, zu_0, zu_1, zu_2, zu_3, zu_4, zu_5, zu_6, zu_7, zu_8, zu_9, zu_10, zu_11, zu_12, zu_13, zu_14, zu_15, zu_16, zu_17, zu_18, zu_19, zu_20, zu_21, zu_22, zu_23, zu_24, zu_25, zu_26, zu_27, zu_28, zu_29, zu_30, zu_90, zv_0_9, zv_1_9, zv_2_9, zv_3_9, zv_4_9, zv_5_9, zv_6_9, zv_7_9, zv_8_9, zv_0_330, zv_0_4544, zv_1_4544, zv_2_4544, zv_3_4544, zv_4_4544, zv_5_4544, zv_6_4544, zv_7_4544, zv_8_4544, zv_9_4544, zv_10_4544, zv_11_4544, zv_12_4544, zv_13_4544, zv_14_4544, zv_15_4544, zv_16_4544, zv_17_4544, zv_18_4544, zv_19_4544, zv_20_4544, zv_21_4544, zv_22_4544, zv_23_4544, zv_24_4544, zv_25_4544, zv_26_4544, zv_27_4544, zv_28_4544, zv_29_4544, zv_0_11, zv_1_11, zv_0_160, true_and, and_true, Nat.reduceAdd]
  refine zm_R_eq (pt 1 (by decide) to _) ?_
  simp only [bX12_wrongNow_0, zw_0, zw_1, zs_aloadn0, zs_aloadNn0, zg_12_7, zs_bipush, zs_iaload, zs_istore4, zs_iload4, zs_iconst, zs_iloadn1, zi_12_319, zs_iloadn2, zs_iloadn3, zs_dup2, zs_iadd, zs_iastore, zs_return, zc_none, zc_int, zc_ref, zc_null, zc_long, zh_0, zh_1, zh_2, zh_3, zh_4, zt_i, zt_l, zt_r, zt_n, zn_int, zn_b0, zn_b1, zb_0, za_1, za_2, za_3, za_4, za_5, za_6, za_7, za_8, za_9, za_10, za_11, za_12, za_13, za_14, zu_0, zu_1, zu_2, zu_3, zu_4, zu_5, zu_6, zu_7, zu_8, zu_9, zu_10, zu_11, zu_12, zu_13, zu_14, zu_15, zu_16, zu_17, zu_18, zu_19, zu_20, zu_21, zu_22, zu_23, zu_24, zu_25, zu_26, zu_27, zu_28, zu_29, zu_30, zu_90, zv_0_9, zv_1_9, zv_2_9, zv_3_9, zv_4_9, zv_5_9, zv_6_9, zv_7_9, zv_8_9, zv_0_330, zv_0_4544, zv_1_4544, zv_2_4544, zv_3_4544, zv_4_4544, zv_5_4544, zv_6_4544, zv_7_4544, zv_8_4544, zv_9_4544, zv_10_4544, zv_11_4544, zv_12_4544, zv_13_4544, zv_14_4544, zv_15_4544, zv_16_4544, zv_17_4544, zv_18_4544, zv_19_4544, zv_20_4544, zv_21_4544, zv_22_4544, zv_23_4544, zv_24_4544, zv_25_4544, zv_26_4544, zv_27_4544, zv_28_4544, zv_29_4544, zv_0_11, zv_1_11, zv_0_160, true_and, and_true, Nat.reduceAdd]
  refine zm_R_eq (pt 2 (by decide) fr _) ?_
  simp only [bX12_wrongNow_0, zw_0, zw_1, zs_aloadn0, zs_aloadNn0, zg_12_7, zs_bipush, zs_iaload, zs_istore4, zs_iload4, zs_iconst, zs_iloadn1, zi_12_319, zs_iloadn2, zs_iloadn3, zs_dup2, zs_iadd, zs_iastore, zs_return, zc_none, zc_int, zc_ref, zc_null, zc_long, zh_0, zh_1, zh_2, zh_3, zh_4, zt_i, zt_l, zt_r, zt_n, zn_int, zn_b0, zn_b1, zb_0, za_1, za_2, za_3, za_4, za_5, za_6, za_7, za_8, za_9, za_10, za_11, za_12, za_13, za_14, zu_0, zu_1, zu_2, zu_3, zu_4, zu_5, zu_6, zu_7, zu_8, zu_9, zu_10, zu_11, zu_12, zu_13, zu_14, zu_15, zu_16, zu_17, zu_18, zu_19, zu_20, zu_21, zu_22, zu_23, zu_24, zu_25, zu_26, zu_27, zu_28, zu_29, zu_30, zu_90, zv_0_9, zv_1_9, zv_2_9, zv_3_9, zv_4_9, zv_5_9, zv_6_9, zv_7_9, zv_8_9, zv_0_330, zv_0_4544, zv_1_4544, zv_2_4544, zv_3_4544, zv_4_4544, zv_5_4544, zv_6_4544, zv_7_4544, zv_8_4544, zv_9_4544, zv_10_4544, zv_11_4544, zv_12_4544, zv_13_4544, zv_14_4544, zv_15_4544, zv_16_4544, zv_17_4544, zv_18_4544, zv_19_4544, zv_20_4544, zv_21_4544, zv_22_4544, zv_23_4544, zv_24_4544, zv_25_4544, zv_26_4544, zv_27_4544, zv_28_4544, zv_29_4544, zv_0_11, zv_1_11, zv_0_160, true_and, and_true, Nat.reduceAdd]
  refine zm_R_eq (pt 3 (by decide) sz _) ?_
  simp only [bX12_wrongNow_0, zw_0, zw_1, zs_aloadn0, zs_aloadNn0, zg_12_7, zs_bipush, zs_iaload, zs_istore4, zs_iload4, zs_iconst, zs_iloadn1, zi_12_319, zs_iloadn2, zs_iloadn3, zs_dup2, zs_iadd, zs_iastore, zs_return, zc_none, zc_int, zc_ref, zc_null, zc_long, zh_0, zh_1, zh_2, zh_3, zh_4, zt_i, zt_l, zt_r, zt_n, zn_int, zn_b0, zn_b1, zb_0, za_1, za_2, za_3, za_4, za_5, za_6, za_7, za_8, za_9, za_10, za_11, za_12, za_13, za_14, zu_0, zu_1, zu_2, zu_3, zu_4, zu_5, zu_6, zu_7, zu_8, zu_9, zu_10, zu_11, zu_12, zu_13, zu_14, zu_15, zu_16, zu_17, zu_18, zu_19, zu_20, zu_21, zu_22, zu_23, zu_24, zu_25, zu_26, zu_27, zu_28, zu_29, zu_30, zu_90, zv_0_9, zv_1_9, zv_2_9, zv_3_9, zv_4_9, zv_5_9, zv_6_9, zv_7_9, zv_8_9, zv_0_330, zv_0_4544, zv_1_4544, zv_2_4544, zv_3_4544, zv_4_4544, zv_5_4544, zv_6_4544, zv_7_4544, zv_8_4544, zv_9_4544, zv_10_4544, zv_11_4544, zv_12_4544, zv_13_4544, zv_14_4544, zv_15_4544, zv_16_4544, zv_17_4544, zv_18_4544, zv_19_4544, zv_20_4544, zv_21_4544, zv_22_4544, zv_23_4544, zv_24_4544, zv_25_4544, zv_26_4544, zv_27_4544, zv_28_4544, zv_29_4544, zv_0_11, zv_1_11, zv_0_160, true_and, and_true, Nat.reduceAdd]
  refine zm_R_eq (pt 4 (by decide) 0 _) ?_
  simp only [bX12_wrongNow_0, zw_0, zw_1, zs_aloadn0, zs_aloadNn0, zg_12_7, zs_bipush, zs_iaload, zs_istore4, zs_iload4, zs_iconst, zs_iloadn1, zi_12_319, zs_iloadn2, zs_iloadn3, zs_dup2, zs_iadd, zs_iastore, zs_return, zc_none, zc_int, zc_ref, zc_null, zc_long, zh_0, zh_1, zh_2, zh_3, zh_4, zt_i, zt_l, zt_r, zt_n, zn_int, zn_b0, zn_b1, zb_0, za_1, za_2, za_3, za_4, za_5, za_6, za_7, za_8, za_9, za_10, za_11, za_12, za_13, za_14, zu_0, zu_1, zu_2, zu_3, zu_4, zu_5, zu_6, zu_7, zu_8, zu_9, zu_10, zu_11, zu_12, zu_13, zu_14, zu_15, zu_16, zu_17, zu_18, zu_19, zu_20, zu_21, zu_22, zu_23, zu_24, zu_25, zu_26, zu_27, zu_28, zu_29, zu_30, zu_90, zv_0_9, zv_1_9, zv_2_9, zv_3_9, zv_4_9, zv_5_9, zv_6_9, zv_7_9, zv_8_9, zv_0_330, zv_0_4544, zv_1_4544, zv_2_4544, zv_3_4544, zv_4_4544, zv_5_4544, zv_6_4544, zv_7_4544, zv_8_4544, zv_9_4544, zv_10_4544, zv_11_4544, zv_12_4544, zv_13_4544, zv_14_4544, zv_15_4544, zv_16_4544, zv_17_4544, zv_18_4544, zv_19_4544, zv_20_4544, zv_21_4544, zv_22_4544, zv_23_4544, zv_24_4544, zv_25_4544, zv_26_4544, zv_27_4544, zv_28_4544, zv_29_4544, zv_0_11, zv_1_11, zv_0_160, true_and, and_true, Nat.reduceAdd]
  refine zm_R_eq (pt 5 (by decide) _ _) ?_
  simp only [bX12_wrongNow_0, zw_0, zw_1, zs_aloadn0, zs_aloadNn0, zg_12_7, zs_bipush, zs_iaload, zs_istore4, zs_iload4, zs_iconst, zs_iloadn1, zi_12_319, zs_iloadn2, zs_iloadn3, zs_dup2, zs_iadd, zs_iastore, zs_return, zc_none, zc_int, zc_ref, zc_null, zc_long, zh_0, zh_1, zh_2, zh_3, zh_4, zt_i, zt_l, zt_r, zt_n, zn_int, zn_b0, zn_b1, zb_0, za_1, za_2, za_3, za_4, za_5, za_6, za_7, za_8, za_9, za_10, za_11, za_12, za_13, za_14, zu_0, zu_1, zu_2, zu_3, zu_4, zu_5, zu_6, zu_7, zu_8, zu_9, zu_10, zu_11, zu_12, zu_13, zu_14, zu_15, zu_16, zu_17, zu_18, zu_19, zu_20, zu_21, zu_22, zu_23, zu_24, zu_25, zu_26, zu_27, zu_28, zu_29, zu_30, zu_90, zv_0_9, zv_1_9, zv_2_9, zv_3_9, zv_4_9, zv_5_9, zv_6_9, zv_7_9, zv_8_9, zv_0_330, zv_0_4544, zv_1_4544, zv_2_4544, zv_3_4544, zv_4_4544, zv_5_4544, zv_6_4544, zv_7_4544, zv_8_4544, zv_9_4544, zv_10_4544, zv_11_4544, zv_12_4544, zv_13_4544, zv_14_4544, zv_15_4544, zv_16_4544, zv_17_4544, zv_18_4544, zv_19_4544, zv_20_4544, zv_21_4544, zv_22_4544, zv_23_4544, zv_24_4544, zv_25_4544, zv_26_4544, zv_27_4544, zv_28_4544, zv_29_4544, zv_0_11, zv_1_11, zv_0_160, true_and, and_true, Nat.reduceAdd]
  refine zm_R_eq (pt 6 (by decide) 0 _) ?_
  have d6 : M.1 1 6 = zWd S := h1
  have r6 := fun M x v => rd M x v 6 (by decide)
  have r8 := fun M x v => rd M x v 8 (by decide)
  simp only [bX12_wrongNow_0, zw_0, zw_1, zs_aloadn0, zs_aloadNn0, zg_12_7, zs_bipush, zs_iaload, zs_istore4, zs_iload4, zs_iconst, zs_iloadn1, zi_12_319, zs_iloadn2, zs_iloadn3, zs_dup2, zs_iadd, zs_iastore, zs_return, zc_none, zc_int, zc_ref, zc_null, zc_long, zh_0, zh_1, zh_2, zh_3, zh_4, zt_i, zt_l, zt_r, zt_n, zn_int, zn_b0, zn_b1, zb_0, za_1, za_2, za_3, za_4, za_5, za_6, za_7, za_8, za_9, za_10, za_11, za_12, za_13, za_14, zu_0, zu_1, zu_2, zu_3, zu_4, zu_5, zu_6, zu_7, zu_8, zu_9, zu_10, zu_11, zu_12, zu_13, zu_14, zu_15, zu_16, zu_17, zu_18, zu_19, zu_20, zu_21, zu_22, zu_23, zu_24, zu_25, zu_26, zu_27, zu_28, zu_29, zu_30, zu_90, zv_0_9, zv_1_9, zv_2_9, zv_3_9, zv_4_9, zv_5_9, zv_6_9, zv_7_9, zv_8_9, zv_0_330, zv_0_4544, zv_1_4544, zv_2_4544, zv_3_4544, zv_4_4544, zv_5_4544, zv_6_4544, zv_7_4544, zv_8_4544, zv_9_4544, zv_10_4544, zv_11_4544, zv_12_4544, zv_13_4544, zv_14_4544, zv_15_4544, zv_16_4544, zv_17_4544, zv_18_4544, zv_19_4544, zv_20_4544, zv_21_4544, zv_22_4544, zv_23_4544, zv_24_4544, zv_25_4544, zv_26_4544, zv_27_4544, zv_28_4544, zv_29_4544, zv_0_11, zv_1_11, zv_0_160, true_and, and_true, Nat.reduceAdd, r6, r8, e8, nI_1, d6]
  have low : ∀ j, j ≠ 8 → (j < 20 + 7 * N ∨ 27 + 7 * N ≤ j) → (zm_wi (zm_wi (zm_wi (zm_wi (zm_wi (zm_wi (zm_wi (zm_wi M 1 (20 + 7 * N + 0) fr) 1 (20 + 7 * N + 1) to) 1 (20 + 7 * N + 2) fr) 1 (20 + 7 * N + 3) sz) 1 (20 + 7 * N + 4) 0) 1 (20 + 7 * N + 5) (zWd S)) 1 (20 + 7 * N + 6) 0) 1 8 (nI (N + 1))).1 1 j = M.1 1 j := by
    intro j a b
    rw [zm_wi_same, if_neg a, zm_wi_same, if_neg (by omega), zm_wi_same, if_neg (by omega), zm_wi_same, if_neg (by omega), zm_wi_same, if_neg (by omega), zm_wi_same, if_neg (by omega), zm_wi_same, if_neg (by omega), zm_wi_same, if_neg (by omega)]
  have hs2 := hs.2
  refine q _ ⟨(low _ (by omega) (by omega)).trans h1, (low _ (by omega) (by omega)).trans h2, ?_, (low _ (by omega) (by omega)).trans h4, fun p hp => (low _ (by omega) (by omega)).trans (h5 p hp), fun x i hx hi => ?_, fun i hi => ⟨(low _ (by omega) (by omega)).trans (h7 i hi).1, (low _ (by omega) (by omega)).trans (h7 i hi).2⟩⟩ ?_
  · show (zm_wi _ 1 8 (nI (N + 1))).1 1 8 = nI (zWn S + 1)
    rw [zm_wi_same, if_pos rfl, hN]
  · have hi : i < zWn S + 1 := hi
    rw [hN] at hi
    by_cases c : i = N
    · subst c
      have t0 : zWa (zw_beg S fr to sz) 0 i = fr := if_pos hN.symm
      have t1 : zWa (zw_beg S fr to sz) 1 i = to := if_pos hN.symm
      have t2 : zWa (zw_beg S fr to sz) 2 i = fr := if_pos hN.symm
      have t3 : zWa (zw_beg S fr to sz) 3 i = sz := if_pos hN.symm
      have t4 : zWa (zw_beg S fr to sz) 4 i = 0 := if_pos hN.symm
      have t5 : zWa (zw_beg S fr to sz) 5 i = zWd S := if_pos hN.symm
      have t6 : zWa (zw_beg S fr to sz) 6 i = 0 := if_pos hN.symm
      rcases (show x = 0 ∨ x = 1 ∨ x = 2 ∨ x = 3 ∨ x = 4 ∨ x = 5 ∨ x = 6 by omega) with rfl | rfl | rfl | rfl | rfl | rfl | rfl
      all_goals
        simp only [t0, t1, t2, t3, t4, t5, t6]
        repeat (first | rw [zm_wi_same, if_neg (by omega)] | rw [zm_wi_same, if_pos (by omega)])
    · have t : zWa (zw_beg S fr to sz) x i = zWa S x i := zw_beg_o (by rw [hN]; exact c)
      rw [t]
      exact (low _ (by omega) (by omega)).trans (h6 x i hx (by omega))
  · refine zh_wi (zh_wi (zh_wi (zh_wi (zh_wi (zh_wi (zh_wi (zh_wi zh_refl ?_) ?_) ?_) ?_) ?_) ?_) ?_) ?_ <;> exact Or.inl (by omega)
