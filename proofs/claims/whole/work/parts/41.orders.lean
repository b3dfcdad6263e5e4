/-! ===== orders ===== -/
def zo_pr (c : Nat → Nat) : Nat → Nat
  | 0 => 1
  | k + 1 => zo_pr c k * c k
def zo_q (x : Nat) (c : Nat → Nat) : Nat → Nat
  | 0 => x
  | k + 1 => zo_q x c k / c k
theorem zo_q_pr (x : Nat) (c : Nat → Nat) : ∀ k, zo_q x c k = x / zo_pr c k := by
  intro k
  induction k with
  | zero => simp [zo_q, zo_pr]
  | succ k ih => simp only [zo_q, zo_pr]; rw [ih, Nat.div_div_eq_div_mul]
theorem zo_pr_c {c c' : Nat → Nat} : ∀ k, (∀ i, i < k → c i = c' i) → zo_pr c k = zo_pr c' k := by
  intro k
  induction k with
  | zero => intro _; rfl
  | succ k ih => intro h; simp only [zo_pr]; rw [ih (fun i hi => h i (by omega)), h k (by omega)]
theorem zo_q_c {x : Nat} {c c' : Nat → Nat} (k : Nat) (h : ∀ i, i < k → c i = c' i) : zo_q x c k = zo_q x c' k := by rw [zo_q_pr, zo_q_pr, zo_pr_c k h]
theorem zo_pr_bd {c : Nat → Nat} : ∀ k, (∀ i, i < k → 1 ≤ c i ∧ c i ≤ 10) → 1 ≤ zo_pr c k ∧ zo_pr c k ≤ 10 ^ k := by
  intro k
  induction k with
  | zero => intro _; simp [zo_pr]
  | succ k ih =>
    intro h
    obtain ⟨a, b⟩ := ih (fun i hi => h i (by omega))
    obtain ⟨e, f⟩ := h k (by omega)
    simp only [zo_pr]
    refine ⟨Nat.mul_pos a e, ?_⟩
    rw [Nat.pow_succ]
    exact Nat.mul_le_mul b f
theorem zo_q_le {x : Nat} {c : Nat → Nat} : ∀ k, zo_q x c k ≤ x := by
  intro k
  rw [zo_q_pr]
  exact Nat.div_le_self _ _
def zo_ft (n : Nat) : Nat := zo_pr (fun i => i + 1) n
theorem zo_ft_bd {n : Nat} (hn : n ≤ 10) : zo_ft n ≤ 10000000000 := by
  have := (zo_pr_bd (c := fun i => i + 1) n (fun i hi => ⟨by omega, by omega⟩)).2
  have h2 : 10 ^ n ≤ 10 ^ 10 := Nat.pow_le_pow_right (by decide) hn
  unfold zo_ft
  omega
theorem c_orders {E : zm_E} (hE : zm_ok E.2.2.1 E.2.2.2.2) (d : Nat) {n : Nat} {M : zm_M} (hw : zt_wf n (fun i => M.1 1 (90 + i))) (hc : M.1 1 0 = nI n) : zm_R E (d + 3) mX12_orders [.ref 0] M (fun r M' => r = some (.long (lN (zo_q (zo_ft n) (zt_cn (fun i => M.1 1 (90 + i)) n) n))) ∧ M' = M) := by
  refine zX12_orders hE rfl (fun G h0 h4 h25 h27 h55 => ?_)
  show G 0 [some (.ref 0), none, none, none] [] M
  have hn := hw.1
  have hft := zo_ft_bd hn
  have loop2 : ∀ (f k : Nat), k + f = n → G 27 [some (.ref 0), some (.long (lN (zo_q (zo_ft n) (zt_cn (fun i => M.1 1 (90 + i)) n) k))), none, some (.int (nI k))] [] M := by
    intro f
    induction f with
    | zero =>
      intro k hk
      have hk : k = n := by omega
      subst hk
      refine h27 _ _ _ ?_
      simp only [bX12_orders_27, zw_0, zw_1, zs_iloadn3, zs_aloadn0, zs_aloadNn0, zg_12_7, zs_iconst, zs_iaload, zs_icge, zs_lloadn1, zi_12_398, zi_12_449, zs_i2l, zs_ldiv, zs_lstoren1, zs_iinc3, zs_goto, zc_none, zc_int, zc_ref, zc_null, zc_long, zh_0, zh_1, zh_2, zh_3, zh_4, zt_i, zt_l, zt_r, zt_n, zb_0, za_1, za_2, za_3, za_4, za_5, za_6, za_7, za_8, za_9, za_10, za_11, za_12, za_13, za_14, zu_0, zu_1, zu_2, zu_3, zu_4, zu_5, zu_6, zu_7, zu_8, zu_9, zu_10, zu_11, zu_12, zu_13, zu_14, zu_15, zu_16, zu_17, zu_18, zu_19, zu_20, zu_21, zu_22, zu_23, zu_24, zu_25, zu_26, zu_27, zu_28, zu_29, zu_30, zu_90, zv_0_9, zv_1_9, zv_2_9, zv_3_9, zv_4_9, zv_5_9, zv_6_9, zv_7_9, zv_8_9, zv_0_330, zv_0_4544, zv_1_4544, zv_2_4544, zv_3_4544, zv_4_4544, zv_5_4544, zv_6_4544, zv_7_4544, zv_8_4544, zv_9_4544, zv_10_4544, zv_11_4544, zv_12_4544, zv_13_4544, zv_14_4544, zv_15_4544, zv_16_4544, zv_17_4544, zv_18_4544, zv_19_4544, zv_20_4544, zv_21_4544, zv_22_4544, zv_23_4544, zv_24_4544, zv_25_4544, zv_26_4544, zv_27_4544, zv_28_4544, zv_29_4544, zv_0_11, zv_1_11, zv_0_160, true_and, and_true, Nat.reduceAdd, hc]
      refine ⟨fun _ => ?_, fun h => absurd (nI_le (Nat.le_refl _) (by omega)) h⟩
      refine h55 _ _ _ ?_
      simp only [bX12_orders_55, zw_0, zw_1, zs_lloadn1, zs_lreturn, zn_int, zn_b0, zn_b1, zb_0, za_1, za_2, za_3, za_4, za_5, za_6, za_7, za_8, za_9, za_10, za_11, za_12, za_13, za_14, true_and, and_true, Nat.reduceAdd]
    | succ f ih =>
      intro k hk
      refine h27 _ _ _ ?_
      simp only [bX12_orders_27, zw_0, zw_1, zs_iloadn3, zs_aloadn0, zs_aloadNn0, zg_12_7, zs_iconst, zs_iaload, zs_icge, zs_lloadn1, zi_12_398, zi_12_449, zs_i2l, zs_ldiv, zs_lstoren1, zs_iinc3, zs_goto, zc_none, zc_int, zc_ref, zc_null, zc_long, zh_0, zh_1, zh_2, zh_3, zh_4, zt_i, zt_l, zt_r, zt_n, zb_0, za_1, za_2, za_3, za_4, za_5, za_6, za_7, za_8, za_9, za_10, za_11, za_12, za_13, za_14, zu_0, zu_1, zu_2, zu_3, zu_4, zu_5, zu_6, zu_7, zu_8, zu_9, zu_10, zu_11, zu_12, zu_13, zu_14, zu_15, zu_16, zu_17, zu_18, zu_19, zu_20, zu_21, zu_22, zu_23, zu_24, zu_25, zu_26, zu_27, zu_28, zu_29, zu_30, zu_90, zv_0_9, zv_1_9, zv_2_9, zv_3_9, zv_4_9, zv_5_9, zv_6_9, zv_7_9, zv_8_9, zv_0_330, zv_0_4544, zv_1_4544, zv_2_4544, zv_3_4544, zv_4_4544, zv_5_4544, zv_6_4544, zv_7_4544, zv_8_4544, zv_9_4544, zv_10_4544, zv_11_4544, zv_12_4544, zv_13_4544, zv_14_4544, zv_15_4544, zv_16_4544, zv_17_4544, zv_18_4544, zv_19_4544, zv_20_4544, zv_21_4544, zv_22_4544, zv_23_4544, zv_24_4544, zv_25_4544, zv_26_4544, zv_27_4544, zv_28_4544, zv_29_4544, zv_0_11, zv_1_11, zv_0_160, true_and, and_true, Nat.reduceAdd, hc]
      refine ⟨fun h => absurd h (nI_ge (by omega) (by omega)), fun _ => ?_⟩
      refine zm_R_eq (c_belowOf hE d hw hc (show k < n by omega)) ?_
      simp only [bX12_orders_27, zw_0, zw_1, zs_iloadn3, zs_aloadn0, zs_aloadNn0, zg_12_7, zs_iconst, zs_iaload, zs_icge, zs_lloadn1, zi_12_398, zi_12_449, zs_i2l, zs_ldiv, zs_lstoren1, zs_iinc3, zs_goto, zc_none, zc_int, zc_ref, zc_null, zc_long, zh_0, zh_1, zh_2, zh_3, zh_4, zt_i, zt_l, zt_r, zt_n, zb_0, za_1, za_2, za_3, za_4, za_5, za_6, za_7, za_8, za_9, za_10, za_11, za_12, za_13, za_14, zu_0, zu_1, zu_2, zu_3, zu_4, zu_5, zu_6, zu_7, zu_8, zu_9, zu_10, zu_11, zu_12, zu_13, zu_14, zu_15, zu_16, zu_17, zu_18, zu_19, zu_20, zu_21, zu_22, zu_23, zu_24, zu_25, zu_26, zu_27, zu_28, zu_29, zu_30, zu_90, zv_0_9, zv_1_9, zv_2_9, zv_3_9, zv_4_9, zv_5_9, zv_6_9, zv_7_9, zv_8_9, zv_0_330, zv_0_4544, zv_1_4544, zv_2_4544, zv_3_4544, zv_4_4544, zv_5_4544, zv_6_4544, zv_7_4544, zv_8_4544, zv_9_4544, zv_10_4544, zv_11_4544, zv_12_4544, zv_13_4544, zv_14_4544, zv_15_4544, zv_16_4544, zv_17_4544, zv_18_4544, zv_19_4544, zv_20_4544, zv_21_4544, zv_22_4544, zv_23_4544, zv_24_4544, zv_25_4544, zv_26_4544, zv_27_4544, zv_28_4544, zv_29_4544, zv_0_11, zv_1_11, zv_0_160, true_and, and_true, Nat.reduceAdd]
      refine zm_R_eq (c_bitsB hE (d + 1) _ hn k M) ?_
      obtain ⟨b1, b2⟩ := zt_cn_bd hw (show k < n by omega)
      have e1 : (nI (zt_cn (fun i => M.1 1 (90 + i)) n k)).toInt64 = lN (zt_cn (fun i => M.1 1 (90 + i)) n k) := nI_l (by omega)
      have hq := zo_q_le (x := zo_ft n) (c := zt_cn (fun i => M.1 1 (90 + i)) n) k
      simp only [bX12_orders_27, zw_0, zw_1, zs_iloadn3, zs_aloadn0, zs_aloadNn0, zg_12_7, zs_iconst, zs_iaload, zs_icge, zs_lloadn1, zi_12_398, zi_12_449, zs_i2l, zs_ldiv, zs_lstoren1, zs_iinc3, zs_goto, zc_none, zc_int, zc_ref, zc_null, zc_long, zh_0, zh_1, zh_2, zh_3, zh_4, zt_i, zt_l, zt_r, zt_n, zb_0, za_1, za_2, za_3, za_4, za_5, za_6, za_7, za_8, za_9, za_10, za_11, za_12, za_13, za_14, zu_0, zu_1, zu_2, zu_3, zu_4, zu_5, zu_6, zu_7, zu_8, zu_9, zu_10, zu_11, zu_12, zu_13, zu_14, zu_15, zu_16, zu_17, zu_18, zu_19, zu_20, zu_21, zu_22, zu_23, zu_24, zu_25, zu_26, zu_27, zu_28, zu_29, zu_30, zu_90, zv_0_9, zv_1_9, zv_2_9, zv_3_9, zv_4_9, zv_5_9, zv_6_9, zv_7_9, zv_8_9, zv_0_330, zv_0_4544, zv_1_4544, zv_2_4544, zv_3_4544, zv_4_4544, zv_5_4544, zv_6_4544, zv_7_4544, zv_8_4544, zv_9_4544, zv_10_4544, zv_11_4544, zv_12_4544, zv_13_4544, zv_14_4544, zv_15_4544, zv_16_4544, zv_17_4544, zv_18_4544, zv_19_4544, zv_20_4544, zv_21_4544, zv_22_4544, zv_23_4544, zv_24_4544, zv_25_4544, zv_26_4544, zv_27_4544, zv_28_4544, zv_29_4544, zv_0_11, zv_1_11, zv_0_160, true_and, and_true, Nat.reduceAdd, e1]
      refine ⟨fun z => absurd ((pk_lEQ (b := 0) (by omega) (by decide)).mp z) (by omega), ?_⟩
      rw [pk_lDiv (by omega) b1 (by omega), nI_1]
      exact ih (k + 1) (by omega)
  have mid : ∀ l3, G 25 [some (.ref 0), some (.long (lN (zo_ft n))), none, l3] [] M := by
    intro l3
    refine h25 _ _ _ ?_
    simp only [bX12_orders_25, zw_0, zw_1, zs_iconst, zs_istoren3, zc_none, zc_int, zc_ref, zc_null, zc_long, zb_0, za_1, za_2, za_3, za_4, za_5, za_6, za_7, za_8, za_9, za_10, za_11, za_12, za_13, za_14, true_and, and_true, Nat.reduceAdd]
    exact loop2 n 0 (by omega)
  have loop : ∀ (f k : Nat), k + f = n → G 4 [some (.ref 0), some (.long (lN (zo_ft k))), none, some (.int (nI (k + 1)))] [] M := by
    intro f
    induction f with
    | zero =>
      intro k hk
      have hk : k = n := by omega
      subst hk
      refine h4 _ _ _ ?_
      simp only [bX12_orders_4, zw_0, zw_1, zs_iloadn3, zs_aloadn0, zs_aloadNn0, zg_12_7, zs_iconst, zs_iaload, zs_icgt, zs_lloadn1, zs_i2l, zs_lmul, zs_lstoren1, zs_iinc3, zs_goto, zc_none, zc_int, zc_ref, zc_null, zc_long, zb_0, za_1, za_2, za_3, za_4, za_5, za_6, za_7, za_8, za_9, za_10, za_11, za_12, za_13, za_14, zu_0, zu_1, zu_2, zu_3, zu_4, zu_5, zu_6, zu_7, zu_8, zu_9, zu_10, zu_11, zu_12, zu_13, zu_14, zu_15, zu_16, zu_17, zu_18, zu_19, zu_20, zu_21, zu_22, zu_23, zu_24, zu_25, zu_26, zu_27, zu_28, zu_29, zu_30, zu_90, zv_0_9, zv_1_9, zv_2_9, zv_3_9, zv_4_9, zv_5_9, zv_6_9, zv_7_9, zv_8_9, zv_0_330, zv_0_4544, zv_1_4544, zv_2_4544, zv_3_4544, zv_4_4544, zv_5_4544, zv_6_4544, zv_7_4544, zv_8_4544, zv_9_4544, zv_10_4544, zv_11_4544, zv_12_4544, zv_13_4544, zv_14_4544, zv_15_4544, zv_16_4544, zv_17_4544, zv_18_4544, zv_19_4544, zv_20_4544, zv_21_4544, zv_22_4544, zv_23_4544, zv_24_4544, zv_25_4544, zv_26_4544, zv_27_4544, zv_28_4544, zv_29_4544, zv_0_11, zv_1_11, zv_0_160, true_and, and_true, Nat.reduceAdd, hc]
      exact ⟨fun _ => mid _, fun h => absurd (nI_lt (by omega) (by omega)) h⟩
    | succ f ih =>
      intro k hk
      have e1 : (nI (k + 1)).toInt64 = lN (k + 1) := nI_l (by omega)
      refine h4 _ _ _ ?_
      simp only [bX12_orders_4, zw_0, zw_1, zs_iloadn3, zs_aloadn0, zs_aloadNn0, zg_12_7, zs_iconst, zs_iaload, zs_icgt, zs_lloadn1, zs_i2l, zs_lmul, zs_lstoren1, zs_iinc3, zs_goto, zc_none, zc_int, zc_ref, zc_null, zc_long, zb_0, za_1, za_2, za_3, za_4, za_5, za_6, za_7, za_8, za_9, za_10, za_11, za_12, za_13, za_14, zu_0, zu_1, zu_2, zu_3, zu_4, zu_5, zu_6, zu_7, zu_8, zu_9, zu_10, zu_11, zu_12, zu_13, zu_14, zu_15, zu_16, zu_17, zu_18, zu_19, zu_20, zu_21, zu_22, zu_23, zu_24, zu_25, zu_26, zu_27, zu_28, zu_29, zu_30, zu_90, zv_0_9, zv_1_9, zv_2_9, zv_3_9, zv_4_9, zv_5_9, zv_6_9, zv_7_9, zv_8_9, zv_0_330, zv_0_4544, zv_1_4544, zv_2_4544, zv_3_4544, zv_4_4544, zv_5_4544, zv_6_4544, zv_7_4544, zv_8_4544, zv_9_4544, zv_10_4544, zv_11_4544, zv_12_4544, zv_13_4544, zv_14_4544, zv_15_4544, zv_16_4544, zv_17_4544, zv_18_4544, zv_19_4544, zv_20_4544, zv_21_4544, zv_22_4544, zv_23_4544, zv_24_4544, zv_25_4544, zv_26_4544, zv_27_4544, zv_28_4544, zv_29_4544, zv_0_11, zv_1_11, zv_0_160, true_and, and_true, Nat.reduceAdd, hc, e1]
      refine ⟨fun h => absurd h (nI_nlt (by omega) (by omega)), fun _ => ?_⟩
      rw [lN_mul, nI_1]
      exact ih (k + 1) (by omega)
  refine h0 _ _ _ ?_
  simp only [bX12_orders_0, zw_0, zw_1, zs_lconst1, zs_lstoren1, zs_iconst, zs_istoren3, zc_none, zc_int, zc_ref, zc_null, zc_long, zb_0, za_1, za_2, za_3, za_4, za_5, za_6, za_7, za_8, za_9, za_10, za_11, za_12, za_13, za_14, true_and, and_true, Nat.reduceAdd]
  by_cases h0 : n = 0
  · subst h0
    refine h4 _ _ _ ?_
    simp only [bX12_orders_4, zw_0, zw_1, zs_iloadn3, zs_aloadn0, zs_aloadNn0, zg_12_7, zs_iconst, zs_iaload, zs_icgt, zs_lloadn1, zs_i2l, zs_lmul, zs_lstoren1, zs_iinc3, zs_goto, zc_none, zc_int, zc_ref, zc_null, zc_long, zb_0, za_1, za_2, za_3, za_4, za_5, za_6, za_7, za_8, za_9, za_10, za_11, za_12, za_13, za_14, zu_0, zu_1, zu_2, zu_3, zu_4, zu_5, zu_6, zu_7, zu_8, zu_9, zu_10, zu_11, zu_12, zu_13, zu_14, zu_15, zu_16, zu_17, zu_18, zu_19, zu_20, zu_21, zu_22, zu_23, zu_24, zu_25, zu_26, zu_27, zu_28, zu_29, zu_30, zu_90, zv_0_9, zv_1_9, zv_2_9, zv_3_9, zv_4_9, zv_5_9, zv_6_9, zv_7_9, zv_8_9, zv_0_330, zv_0_4544, zv_1_4544, zv_2_4544, zv_3_4544, zv_4_4544, zv_5_4544, zv_6_4544, zv_7_4544, zv_8_4544, zv_9_4544, zv_10_4544, zv_11_4544, zv_12_4544, zv_13_4544, zv_14_4544, zv_15_4544, zv_16_4544, zv_17_4544, zv_18_4544, zv_19_4544, zv_20_4544, zv_21_4544, zv_22_4544, zv_23_4544, zv_24_4544, zv_25_4544, zv_26_4544, zv_27_4544, zv_28_4544, zv_29_4544, zv_0_11, zv_1_11, zv_0_160, true_and, and_true, Nat.reduceAdd, hc]
    exact ⟨fun _ => mid _, fun h => absurd (by decide) h⟩
  · exact loop (n - 1) 1 (by omega)
theorem c8_promotions {E : zm_E} (hE : zm_ok E.2.2.1 E.2.2.2.2) (d : Nat) {n : Nat} {M : zm_M} (hw : zt_wf n (M.1 18)) (hc : M.1 17 0 = nI n) : zm_R E (d + 3) mX8_promotions [.ref 752] M (fun r M' => r = some (.long (lN (zo_q (zo_ft n) (zt_cn (M.1 18) n) n))) ∧ zf [753] M M') := by
  refine zX8_promotions hE rfl (fun G h0 h11 h48 h58 h61 => ?_)
  show G 0 [some (.ref 752), none, none, none, none, none] [] M
  have hn := hw.1
  have hft := zo_ft_bd hn
  refine h0 _ _ _ ?_
  simp only [bX8_promotions_0, zw_0, zw_1, zs_aloadn0, zs_aloadNn0, zi_8_43, zs_lconst1, zs_lstoren1, zs_lstoren3, zs_iconst, zs_istore5, zc_none, zc_int, zc_ref, zc_null, zc_long, zh_0, zh_1, zh_2, zh_3, zh_4, zt_i, zt_l, zt_r, zt_n, zb_15, zb_16, zb_17, za_18, za_19, za_20, za_21, za_22, zb_23, za_24, za_25, za_26, za_27, za_28, za_29, za_30, za_31, za_32, zb_35, za_36, za_37, za_38, za_39, za_40, zb_377, zb_378, za_379, za_380, za_381, za_382, za_383, zb_384, za_385, za_386, za_387, za_388, za_389, za_390, za_391, za_392, za_393, zb_396, za_397, za_398, za_399, za_400, za_401, zb_738, za_739, za_740, za_741, za_742, za_743, za_744, za_745, za_746, za_747, zb_748, za_749, za_750, zb_751, zb_752, za_753, za_754, za_755, za_756, zb_757, za_758, za_759, za_760, zb_761, za_763, za_764, za_765, true_and, and_true, Nat.reduceAdd]
  refine zm_R_mono (c8_measure hE d hw hc) ?_
  rintro _ M1 ⟨rfl, f1, f2⟩
  have hc' : M1.1 17 0 = nI n := by rw [(f1 17 (by decide)).1]; exact hc
  have pbd := zo_pr_bd (c := zt_cn (M.1 18) n) n (fun i hi => ⟨(zt_cn_bd hw hi).1, by have := (zt_cn_bd hw hi).2; omega⟩)
  have h2 : 10 ^ n ≤ 10 ^ 10 := Nat.pow_le_pow_right (by decide) hn
  have fin : ∀ v l, v = lN (zo_q (zo_ft n) (zt_cn (M.1 18) n) n) → G 61 l [.long v] M1 := by
    intro v l hv
    refine h61 _ _ _ ?_
    simp only [bX8_promotions_61, zw_0, zw_1, zs_lreturn, zn_int, zn_b0, zn_b1, zb_15, zb_16, zb_17, za_18, za_19, za_20, za_21, za_22, zb_23, za_24, za_25, za_26, za_27, za_28, za_29, za_30, za_31, za_32, zb_35, za_36, za_37, za_38, za_39, za_40, zb_377, zb_378, za_379, za_380, za_381, za_382, za_383, zb_384, za_385, za_386, za_387, za_388, za_389, za_390, za_391, za_392, za_393, zb_396, za_397, za_398, za_399, za_400, za_401, zb_738, za_739, za_740, za_741, za_742, za_743, za_744, za_745, za_746, za_747, zb_748, za_749, za_750, zb_751, zb_752, za_753, za_754, za_755, za_756, zb_757, za_758, za_759, za_760, zb_761, za_763, za_764, za_765, true_and, and_true, Nat.reduceAdd]
    exact ⟨by rw [hv], f1⟩
  have loop : ∀ (f k : Nat), k + f = n → G 11 [some (.ref 752), some (.long (lN (zo_ft k))), none, some (.long (lN (zo_pr (zt_cn (M.1 18) n) k))), none, some (.int (nI k))] [] M1 := by
    intro f
    induction f with
    | zero =>
      intro k hk
      have hk : k = n := by omega
      subst hk
      refine h11 _ _ _ ?_
      simp only [bX8_promotions_11, zw_0, zw_1, zs_iload5, zs_aloadn0, zs_aloadNn0, zg_8_24, zg_8_34, zs_icge, zs_lloadn1, zs_iconst, zs_iadd, zs_i2l, zs_lmul, zs_lstoren1, zs_lloadn3, zg_8_9, zs_iaload, zs_lstoren3, zs_iinc5, zs_goto, zc_none, zc_int, zc_ref, zc_null, zc_long, zb_15, zb_16, zb_17, za_18, za_19, za_20, za_21, za_22, zb_23, za_24, za_25, za_26, za_27, za_28, za_29, za_30, za_31, za_32, zb_35, za_36, za_37, za_38, za_39, za_40, zb_377, zb_378, za_379, za_380, za_381, za_382, za_383, zb_384, za_385, za_386, za_387, za_388, za_389, za_390, za_391, za_392, za_393, zb_396, za_397, za_398, za_399, za_400, za_401, zb_738, za_739, za_740, za_741, za_742, za_743, za_744, za_745, za_746, za_747, zb_748, za_749, za_750, zb_751, zb_752, za_753, za_754, za_755, za_756, zb_757, za_758, za_759, za_760, zb_761, za_763, za_764, za_765, zu_0, zu_1, zu_2, zu_3, zu_4, zu_5, zu_6, zu_7, zu_8, zu_9, zu_10, zu_11, zu_12, zu_13, zu_14, zu_15, zu_16, zu_17, zu_18, zu_19, zu_20, zu_21, zu_22, zu_23, zu_24, zu_25, zu_26, zu_27, zu_28, zu_29, zu_30, zu_90, zv_0_9, zv_1_9, zv_2_9, zv_3_9, zv_4_9, zv_5_9, zv_6_9, zv_7_9, zv_8_9, zv_0_330, zv_0_4544, zv_1_4544, zv_2_4544, zv_3_4544, zv_4_4544, zv_5_4544, zv_6_4544, zv_7_4544, zv_8_4544, zv_9_4544, zv_10_4544, zv_11_4544, zv_12_4544, zv_13_4544, zv_14_4544, zv_15_4544, zv_16_4544, zv_17_4544, zv_18_4544, zv_19_4544, zv_20_4544, zv_21_4544, zv_22_4544, zv_23_4544, zv_24_4544, zv_25_4544, zv_26_4544, zv_27_4544, zv_28_4544, zv_29_4544, zv_0_11, zv_1_11, zv_0_160, true_and, and_true, Nat.reduceAdd, hc']
      refine ⟨fun _ => ?_, fun h => absurd (nI_le (Nat.le_refl _) (by omega)) h⟩
      refine h48 _ _ _ ?_
      simp only [bX8_promotions_48, zw_0, zw_1, zs_lloadn3, zs_lconst0, zs_lcmp, zs_ifne, zs_goto, zb_15, zb_16, zb_17, za_18, za_19, za_20, za_21, za_22, zb_23, za_24, za_25, za_26, za_27, za_28, za_29, za_30, za_31, za_32, zb_35, za_36, za_37, za_38, za_39, za_40, zb_377, zb_378, za_379, za_380, za_381, za_382, za_383, zb_384, za_385, za_386, za_387, za_388, za_389, za_390, za_391, za_392, za_393, zb_396, za_397, za_398, za_399, za_400, za_401, zb_738, za_739, za_740, za_741, za_742, za_743, za_744, za_745, za_746, za_747, zb_748, za_749, za_750, zb_751, zb_752, za_753, za_754, za_755, za_756, zb_757, za_758, za_759, za_760, zb_761, za_763, za_764, za_765, true_and, and_true, Nat.reduceAdd, lg_cmp_eq]
      have nz : ¬ lN (zo_pr (zt_cn (M.1 18) k) k) = 0 := fun z => absurd ((pk_lEQ (b := 0) (by omega) (by decide)).mp z) (by omega)
      refine ⟨fun _ => ?_, fun h => absurd h nz⟩
      refine h58 _ _ _ ?_
      simp only [bX8_promotions_58, zw_0, zw_1, zs_lloadn1, zs_lloadn3, zs_ldiv, zb_15, zb_16, zb_17, za_18, za_19, za_20, za_21, za_22, zb_23, za_24, za_25, za_26, za_27, za_28, za_29, za_30, za_31, za_32, zb_35, za_36, za_37, za_38, za_39, za_40, zb_377, zb_378, za_379, za_380, za_381, za_382, za_383, zb_384, za_385, za_386, za_387, za_388, za_389, za_390, za_391, za_392, za_393, zb_396, za_397, za_398, za_399, za_400, za_401, zb_738, za_739, za_740, za_741, za_742, za_743, za_744, za_745, za_746, za_747, zb_748, za_749, za_750, zb_751, zb_752, za_753, za_754, za_755, za_756, zb_757, za_758, za_759, za_760, zb_761, za_763, za_764, za_765, true_and, and_true, Nat.reduceAdd]
      refine ⟨nz, fin _ _ ?_⟩
      rw [pk_lDiv (by omega) pbd.1 (by omega), zo_q_pr]
    | succ f ih =>
      intro k hk
      have i1 : vp_in (nI k) 10 := vp_in_nI (by omega) (by decide)
      have i2 : (nI k).toNatClampNeg = k := nI_clamp (by omega)
      obtain ⟨b1, b2⟩ := zt_cn_bd hw (show k < n by omega)
      have e1 : (nI (k + 1)).toInt64 = lN (k + 1) := nI_l (by omega)
      have e2 : (nI (zt_cn (M.1 18) n k)).toInt64 = lN (zt_cn (M.1 18) n k) := nI_l (by omega)
      have s1 := f2 k (by omega)
      refine h11 _ _ _ ?_
      simp only [bX8_promotions_11, zw_0, zw_1, zs_iload5, zs_aloadn0, zs_aloadNn0, zg_8_24, zg_8_34, zs_icge, zs_lloadn1, zs_iconst, zs_iadd, zs_i2l, zs_lmul, zs_lstoren1, zs_lloadn3, zg_8_9, zs_iaload, zs_lstoren3, zs_iinc5, zs_goto, zc_none, zc_int, zc_ref, zc_null, zc_long, zb_15, zb_16, zb_17, za_18, za_19, za_20, za_21, za_22, zb_23, za_24, za_25, za_26, za_27, za_28, za_29, za_30, za_31, za_32, zb_35, za_36, za_37, za_38, za_39, za_40, zb_377, zb_378, za_379, za_380, za_381, za_382, za_383, zb_384, za_385, za_386, za_387, za_388, za_389, za_390, za_391, za_392, za_393, zb_396, za_397, za_398, za_399, za_400, za_401, zb_738, za_739, za_740, za_741, za_742, za_743, za_744, za_745, za_746, za_747, zb_748, za_749, za_750, zb_751, zb_752, za_753, za_754, za_755, za_756, zb_757, za_758, za_759, za_760, zb_761, za_763, za_764, za_765, zu_0, zu_1, zu_2, zu_3, zu_4, zu_5, zu_6, zu_7, zu_8, zu_9, zu_10, zu_11, zu_12, zu_13, zu_14, zu_15, zu_16, zu_17, zu_18, zu_19, zu_20, zu_21, zu_22, zu_23, zu_24, zu_25, zu_26, zu_27, zu_28, zu_29, zu_30, zu_90, zv_0_9, zv_1_9, zv_2_9, zv_3_9, zv_4_9, zv_5_9, zv_6_9, zv_7_9, zv_8_9, zv_0_330, zv_0_4544, zv_1_4544, zv_2_4544, zv_3_4544, zv_4_4544, zv_5_4544, zv_6_4544, zv_7_4544, zv_8_4544, zv_9_4544, zv_10_4544, zv_11_4544, zv_12_4544, zv_13_4544, zv_14_4544, zv_15_4544, zv_16_4544, zv_17_4544, zv_18_4544, zv_19_4544, zv_20_4544, zv_21_4544, zv_22_4544, zv_23_4544, zv_24_4544, zv_25_4544, zv_26_4544, zv_27_4544, zv_28_4544, zv_29_4544, zv_0_11, zv_1_11, zv_0_160, true_and, and_true, Nat.reduceAdd, hc', i1, i2, nI_1, e1, s1, e2, lN_mul]
      refine ⟨fun h => absurd h (nI_ge (by omega) (by omega)), fun _ => ih (k + 1) (by omega)⟩
  simp only [bX8_promotions_0, zw_0, zw_1, zs_aloadn0, zs_aloadNn0, zi_8_43, zs_lconst1, zs_lstoren1, zs_lstoren3, zs_iconst, zs_istore5, zc_none, zc_int, zc_ref, zc_null, zc_long, zh_0, zh_1, zh_2, zh_3, zh_4, zt_i, zt_l, zt_r, zt_n, zb_15, zb_16, zb_17, za_18, za_19, za_20, za_21, za_22, zb_23, za_24, za_25, za_26, za_27, za_28, za_29, za_30, za_31, za_32, zb_35, za_36, za_37, za_38, za_39, za_40, zb_377, zb_378, za_379, za_380, za_381, za_382, za_383, zb_384, za_385, za_386, za_387, za_388, za_389, za_390, za_391, za_392, za_393, zb_396, za_397, za_398, za_399, za_400, za_401, zb_738, za_739, za_740, za_741, za_742, za_743, za_744, za_745, za_746, za_747, zb_748, za_749, za_750, zb_751, zb_752, za_753, za_754, za_755, za_756, zb_757, za_758, za_759, za_760, zb_761, za_763, za_764, za_765, true_and, and_true, Nat.reduceAdd]
  exact loop n 0 (by omega)
theorem c11_orders {E : zm_E} (hE : zm_ok E.2.2.1 E.2.2.2.2) (d : Nat) {n : Nat} {M : zm_M} (hw : zt_wf n (M.1 18)) (hc : M.1 17 0 = nI n) : zm_R E (d + 4) mX11_orders [.ref 15] M (fun r M' => r = some (.long (lN (zo_q (zo_ft n) (zt_cn (M.1 18) n) n))) ∧ zf [753] M M') := by
  refine zX11_orders hE rfl (fun G h0 => ?_)
  show G 0 [some (.ref 15)] [] M
  refine h0 _ _ _ ?_
  simp only [bX11_orders_0, zw_0, zw_1, zs_aloadn0, zs_aloadNn0, zg_11_51, zi_11_327, zs_lreturn, zh_0, zh_1, zh_2, zh_3, zh_4, zt_i, zt_l, zt_r, zt_n, zn_int, zn_b0, zn_b1, zb_15, zb_16, zb_17, za_18, za_19, za_20, za_21, za_22, zb_23, za_24, za_25, za_26, za_27, za_28, za_29, za_30, za_31, za_32, zb_35, za_36, za_37, za_38, za_39, za_40, zb_377, zb_378, za_379, za_380, za_381, za_382, za_383, zb_384, za_385, za_386, za_387, za_388, za_389, za_390, za_391, za_392, za_393, zb_396, za_397, za_398, za_399, za_400, za_401, zb_738, za_739, za_740, za_741, za_742, za_743, za_744, za_745, za_746, za_747, zb_748, za_749, za_750, zb_751, zb_752, za_753, za_754, za_755, za_756, zb_757, za_758, za_759, za_760, zb_761, za_763, za_764, za_765, true_and, and_true, Nat.reduceAdd]
  refine zm_R_mono (c8_promotions hE d hw hc) ?_
  rintro _ M1 ⟨rfl, f1⟩
  simp only [bX11_orders_0, zw_0, zw_1, zs_aloadn0, zs_aloadNn0, zg_11_51, zi_11_327, zs_lreturn, zh_0, zh_1, zh_2, zh_3, zh_4, zt_i, zt_l, zt_r, zt_n, zn_int, zn_b0, zn_b1, zb_15, zb_16, zb_17, za_18, za_19, za_20, za_21, za_22, zb_23, za_24, za_25, za_26, za_27, za_28, za_29, za_30, za_31, za_32, zb_35, za_36, za_37, za_38, za_39, za_40, zb_377, zb_378, za_379, za_380, za_381, za_382, za_383, zb_384, za_385, za_386, za_387, za_388, za_389, za_390, za_391, za_392, za_393, zb_396, za_397, za_398, za_399, za_400, za_401, zb_738, za_739, za_740, za_741, za_742, za_743, za_744, za_745, za_746, za_747, zb_748, za_749, za_750, zb_751, zb_752, za_753, za_754, za_755, za_756, zb_757, za_758, za_759, za_760, zb_761, za_763, za_764, za_765, true_and, and_true, Nat.reduceAdd]
  exact f1
/-! ===== first ===== -/
/-- who may come next: not had, its boss had -/
def zp_ok (b : Nat → Int32) (H p : Nat) : Bool := !H.testBit p && (decide (p = 0) || H.testBit (b p).toNatClampNeg)
def zp_gt (pr : Nat → Int32) (o : Option Nat) (k : Nat) : Bool := match o with
  | none => true
  | some j => decide (pr j < pr k)
def zp_nx (b pr : Nat → Int32) (H : Nat) : Nat → Option Nat
  | 0 => none
  | k + 1 => if zp_ok b H k = true ∧ zp_gt pr (zp_nx b pr H k) k = true then some k else zp_nx b pr H k
def zp_k (o : Option Nat) : Int32 := match o with
  | none => -1
  | some j => nI j
def zp_or (H : Nat) (o : Option Nat) : Nat := match o with
  | none => H
  | some j => H ||| 2 ^ j
def zp_H (b pr : Nat → Int32) (n : Nat) : Nat → Nat
  | 0 => 0
  | k + 1 => zp_or (zp_H b pr n k) (zp_nx b pr (zp_H b pr n k) n)
theorem zp_nx_some (b pr : Nat → Int32) (H : Nat) : ∀ k j, zp_nx b pr H k = some j → j < k ∧ zp_ok b H j = true := by
  intro k
  induction k with
  | zero => intro j h; simp [zp_nx] at h
  | succ k ih =>
    intro j h
    simp only [zp_nx] at h
    split at h
    · next c => have := Option.some.inj h; subst this; exact ⟨by omega, c.1⟩
    · obtain ⟨a, b⟩ := ih j h; exact ⟨by omega, b⟩
theorem zp_nx_none (b pr : Nat → Int32) (H : Nat) : ∀ k, zp_nx b pr H k = none → ∀ j, j < k → zp_ok b H j = false := by
  intro k
  induction k with
  | zero => intro _ j hj; omega
  | succ k ih =>
    intro h j hj
    simp only [zp_nx] at h
    split at h
    · exact absurd h (by simp)
    · next c =>
      by_cases e : j = k
      · subst e
        rw [h] at c
        cases hz : zp_ok b H j with
        | false => rfl
        | true => exact absurd ⟨hz, rfl⟩ c
      · exact ih h j (by omega)
theorem zp_all {n : Nat} {b pr : Nat → Int32} (hw : zt_wf n b) {H : Nat} (h : zp_nx b pr H n = none) : ∀ p, p < n → H.testBit p = true := by
  intro p
  induction p using Nat.strongRecOn with
  | _ p ih =>
    intro hp
    have hz := zp_nx_none b pr H n h p hp
    unfold zp_ok at hz
    cases hb : H.testBit p with
    | true => rfl
    | false =>
      rw [hb] at hz
      by_cases e : p = 0
      · subst e; simp at hz
      · obtain ⟨j, h1, h2⟩ := hw.2.2 p (by omega) hp
        have := hw.1
        rw [h2, nI_clamp (by omega), ih j h1 (by omega)] at hz
        simp at hz
theorem zc_n_all {P : Nat → Bool} : ∀ n, (∀ i, i < n → P i = true) → zc_n P n = n := by
  intro n
  induction n with
  | zero => intro _; rfl
  | succ n ih => intro h; simp only [zc_n]; rw [ih (fun i hi => h i (by omega)), h n (by omega)]; rfl
theorem zc_n_add1 {P R : Nat → Bool} {j : Nat} : ∀ n, j < n → (∀ i, i < n → i ≠ j → R i = P i) → P j = false → R j = true → zc_n R n = zc_n P n + 1 := by
  intro n
  induction n with
  | zero => intro h; omega
  | succ n ih =>
    intro hj h1 h2 h3
    simp only [zc_n]
    by_cases e : j = n
    · subst e
      rw [zc_n_c j (fun i hi => h1 i (by omega) (by omega)), h2, h3]
      rfl
    · rw [ih (by omega) (fun i hi hne => h1 i (by omega) hne) h2 h3, h1 n (by omega) (fun z => e z.symm)]
      omega
theorem zp_step {n : Nat} {b pr : Nat → Int32} (hw : zt_wf n b) : ∀ k, k ≤ n → zp_H b pr n k < 2 ^ n ∧ zc_n (zp_H b pr n k).testBit n = k := by
  intro k
  induction k with
  | zero =>
    intro _
    refine ⟨Nat.two_pow_pos n, ?_⟩
    show zc_n (Nat.testBit 0) n = 0
    rw [zc_n_c (g := fun _ => false) n (fun i _ => Nat.zero_testBit i)]
    exact zc_n_0 n
  | succ k ih =>
    intro hk
    obtain ⟨h1, h2⟩ := ih (by omega)
    simp only [zp_H]
    cases hx : zp_nx b pr (zp_H b pr n k) n with
    | none =>
      have := zc_n_all n (zp_all hw hx)
      omega
    | some j =>
      obtain ⟨hj, hok⟩ := zp_nx_some b pr _ n j hx
      have hnb : (zp_H b pr n k).testBit j = false := by
        unfold zp_ok at hok
        cases hb : (zp_H b pr n k).testBit j with
        | false => rfl
        | true => rw [hb] at hok; simp at hok
      show zp_H b pr n k ||| 2 ^ j < 2 ^ n ∧ _
      refine ⟨Nat.or_lt_two_pow h1 (Nat.pow_lt_pow_right (by decide) hj), ?_⟩
      show zc_n (zp_H b pr n k ||| 2 ^ j).testBit n = k + 1
      rw [zc_n_add1 (P := (zp_H b pr n k).testBit) (j := j) n hj, h2]
      · intro i hi hne
        rw [Nat.testBit_or, Nat.testBit_two_pow_of_ne (fun z => hne z.symm)]
        simp
      · exact hnb
      · rw [Nat.testBit_or, Nat.testBit_two_pow_self]; simp
theorem zp_ex {n : Nat} {b pr : Nat → Int32} (hw : zt_wf n b) {k : Nat} (hk : k < n) : ∃ j, j < n ∧ zp_nx b pr (zp_H b pr n k) n = some j := by
  cases hx : zp_nx b pr (zp_H b pr n k) n with
  | none =>
    have := zc_n_all n (zp_all hw hx)
    have := (zp_step (pr := pr) hw k (by omega)).2
    omega
  | some j => exact ⟨j, (zp_nx_some b pr _ n j hx).1, rfl⟩
theorem zp_nx_c {n : Nat} {b c pr qr : Nat → Int32} {H : Nat} (e : zt_eq n b c) (e2 : zt_eq n pr qr) : ∀ k, k ≤ n → zp_nx b pr H k = zp_nx c qr H k := by
  intro k
  induction k with
  | zero => intro _; rfl
  | succ k ih =>
    intro hk
    simp only [zp_nx]
    have e1 : zp_ok b H k = zp_ok c H k := by unfold zp_ok; rw [e k (by omega)]
    have e3 : zp_gt pr (zp_nx b pr H k) k = zp_gt qr (zp_nx c qr H k) k := by
      rw [← ih (by omega)]
      cases hx : zp_nx b pr H k with
      | none => rfl
      | some j =>
        have := (zp_nx_some b pr H k j hx).1
        show decide (pr j < pr k) = decide (qr j < qr k)
        rw [e2 j (by omega), e2 k (by omega)]
    rw [e1, e3, ih (by omega)]
theorem zp_H_c {n : Nat} {b c pr qr : Nat → Int32} (e : zt_eq n b c) (e2 : zt_eq n pr qr) : ∀ k, zp_H b pr n k = zp_H c qr n k := by
  intro k
  induction k with
  | zero => rfl
  | succ k ih => simp only [zp_H]; rw [ih, zp_nx_c e e2 n (Nat.le_refl _)]
theorem c_first {E : zm_E} (hE : zm_ok E.2.2.1 E.2.2.2.2) (d : Nat) {n : Nat} (o : Int32) {M : zm_M} (hw : zt_wf n (fun i => M.1 1 (90 + i))) (hc : M.1 1 0 = nI n) {Q : Option Value → zm_M → Prop} (q1 : zo_is n o = false → Q (some (.int (-1))) M) (q2 : ∀ i, i < n → o = nI i → Q (some (.int (zp_k (zp_nx (fun i => M.1 1 (90 + i)) (fun i => M.1 1 (100 + i)) (zp_H (fun i => M.1 1 (90 + i)) (fun i => M.1 1 (100 + i)) n i) n)))) M) : zm_R E (d + 3) mX12_first [.ref 0, .int o] M Q := by
  refine zX12_first hE rfl (fun G h0 h10 h17 h28 h82 h109 h112 h118 h130 => ?_)
  show G 0 [some (.ref 0), some (.int o), none, none, none, none] [] M
  have hn := hw.1
  refine h0 _ _ _ ?_
  simp only [bX12_first_0, zw_0, zw_1, zs_aloadn0, zs_aloadNn0, zs_iloadn1, zi_12_73, zs_ifne, zs_iconst, zs_ireturn, zh_0, zh_1, zh_2, zh_3, zh_4, zt_i, zt_l, zt_r, zt_n, zn_int, zn_b0, zn_b1, zb_0, za_1, za_2, za_3, za_4, za_5, za_6, za_7, za_8, za_9, za_10, za_11, za_12, za_13, za_14, true_and, and_true, Nat.reduceAdd]
  refine zm_R_eq (c_isOfficer hE d o M) ?_
  rw [hc, zo_in (by omega)]
  simp only [bX12_first_0, zw_0, zw_1, zs_aloadn0, zs_aloadNn0, zs_iloadn1, zi_12_73, zs_ifne, zs_iconst, zs_ireturn, zh_0, zh_1, zh_2, zh_3, zh_4, zt_i, zt_l, zt_r, zt_n, zn_int, zn_b0, zn_b1, zb_0, za_1, za_2, za_3, za_4, za_5, za_6, za_7, za_8, za_9, za_10, za_11, za_12, za_13, za_14, true_and, and_true, Nat.reduceAdd, zi_b1]
  refine ⟨fun hp => ?_, fun h => q1 (by simpa [zi_b0] using h)⟩
  obtain ⟨i, hi, rfl⟩ := zo_of hp (by omega)
  have q2 := q2 i hi rfl
  obtain ⟨b, hb⟩ : ∃ b, b = (fun i => M.1 1 (90 + i)) := ⟨_, rfl⟩
  obtain ⟨pr, hpr⟩ : ∃ b, b = (fun i => M.1 1 (100 + i)) := ⟨_, rfl⟩
  rw [← hb] at q2 hw
  rw [← hpr] at q2
  have hbv : ∀ k, M.1 1 (90 + k) = b k := fun k => by rw [hb]
  have hpv : ∀ k, M.1 1 (100 + k) = pr k := fun k => by rw [hpr]
  have loop : ∀ (f k : Nat) (l5 : Option Value) (v : Int32), k + f = i + 1 → (k = i + 1 → v = zp_k (zp_nx b pr (zp_H b pr n i) n)) → G 17 [some (.ref 0), some (.int (nI i)), some (.int (nI (zp_H b pr n k))), some (.int v), some (.int (nI k)), l5] [] M := by
    intro f
    induction f with
    | zero =>
      intro k l5 v hk hv
      have hk : k = i + 1 := by omega
      subst hk
      refine h17 _ _ _ ?_
      simp only [bX12_first_17, zw_0, zw_1, zs_iload4, zs_iloadn1, zs_icgt, zs_iconst, zs_istoren3, zs_istore5, zc_none, zc_int, zc_ref, zc_null, zc_long, zb_0, za_1, za_2, za_3, za_4, za_5, za_6, za_7, za_8, za_9, za_10, za_11, za_12, za_13, za_14, true_and, and_true, Nat.reduceAdd]
      refine ⟨fun _ => ?_, fun h => absurd (nI_lt (by omega) (by omega)) h⟩
      refine h130 _ _ _ ?_
      simp only [bX12_first_130, zw_0, zw_1, zs_iloadn3, zs_ireturn, zn_int, zn_b0, zn_b1, zb_0, za_1, za_2, za_3, za_4, za_5, za_6, za_7, za_8, za_9, za_10, za_11, za_12, za_13, za_14, true_and, and_true, Nat.reduceAdd]
      rw [hv rfl]
      exact q2
    | succ f ih =>
      intro k l5 v hk hv
      obtain ⟨hH, -⟩ := zp_step (pr := pr) hw k (by omega)
      have hH2 : 2 ^ n ≤ 2 ^ 10 := Nat.pow_le_pow_right (by decide) hn
      obtain ⟨x, hx, ex⟩ := zp_ex (pr := pr) hw (show k < n by omega)
      have inner : ∀ (g p : Nat), p + g = n → G 28 [some (.ref 0), some (.int (nI i)), some (.int (nI (zp_H b pr n k))), some (.int (zp_k (zp_nx b pr (zp_H b pr n k) p))), some (.int (nI k)), some (.int (nI p))] [] M := by
        intro g
        induction g with
        | zero =>
          intro p hp
          have hp : p = n := by omega
          subst hp
          refine h28 _ _ _ ?_
          simp only [bX12_first_28, zw_0, zw_1, zs_iload5, zs_aloadn0, zs_aloadNn0, zg_12_7, zs_iconst, zs_iaload, zs_icge, zs_iloadn2, zi_12_77, zs_ifne, zs_bipush, zs_iadd, zs_iceq, zs_goto, zh_0, zh_1, zh_2, zh_3, zh_4, zt_i, zt_l, zt_r, zt_n, zb_0, za_1, za_2, za_3, za_4, za_5, za_6, za_7, za_8, za_9, za_10, za_11, za_12, za_13, za_14, zu_0, zu_1, zu_2, zu_3, zu_4, zu_5, zu_6, zu_7, zu_8, zu_9, zu_10, zu_11, zu_12, zu_13, zu_14, zu_15, zu_16, zu_17, zu_18, zu_19, zu_20, zu_21, zu_22, zu_23, zu_24, zu_25, zu_26, zu_27, zu_28, zu_29, zu_30, zu_90, zv_0_9, zv_1_9, zv_2_9, zv_3_9, zv_4_9, zv_5_9, zv_6_9, zv_7_9, zv_8_9, zv_0_330, zv_0_4544, zv_1_4544, zv_2_4544, zv_3_4544, zv_4_4544, zv_5_4544, zv_6_4544, zv_7_4544, zv_8_4544, zv_9_4544, zv_10_4544, zv_11_4544, zv_12_4544, zv_13_4544, zv_14_4544, zv_15_4544, zv_16_4544, zv_17_4544, zv_18_4544, zv_19_4544, zv_20_4544, zv_21_4544, zv_22_4544, zv_23_4544, zv_24_4544, zv_25_4544, zv_26_4544, zv_27_4544, zv_28_4544, zv_29_4544, zv_0_11, zv_1_11, zv_0_160, true_and, and_true, Nat.reduceAdd, hc]
          refine ⟨fun _ => ?_, fun h => absurd (nI_le (Nat.le_refl _) (by omega)) h⟩
          refine h118 _ _ _ ?_
          simp only [bX12_first_118, zw_0, zw_1, zs_iloadn2, zs_iconst, zs_iloadn3, zs_ishl, zs_ior, zs_istoren2, zs_iinc4, zs_goto, zc_none, zc_int, zc_ref, zc_null, zc_long, zb_0, za_1, za_2, za_3, za_4, za_5, za_6, za_7, za_8, za_9, za_10, za_11, za_12, za_13, za_14, true_and, and_true, Nat.reduceAdd]
          have e2 : zp_H b pr p (k + 1) = zp_H b pr p k ||| 2 ^ x := by simp only [zp_H]; rw [ex]; rfl
          rw [ex]
          show G 17 [_, _, some (.int (nI (zp_H b pr p k) ||| 1 <<< (nI x &&& 31))), some (.int (nI x)), _, _] _ _
          rw [zx_1s x (by omega), nx_or, ← e2, nI_1]
          refine ih (k + 1) _ _ (by omega) (fun e => ?_)
          have : k = i := by omega
          rw [← this, ex]; rfl
        | succ g ihg =>
          intro p hp
          obtain ⟨i1, i2⟩ := zx_ck (k := 90) (p := p) (N := 4544) (by omega) (by decide)
          obtain ⟨i3, i4⟩ := zx_ck (k := 100) (p := p) (N := 4544) (by omega) (by decide)
          have next : ∀ o, o = zp_nx b pr (zp_H b pr n k) (p + 1) → G 112 [some (.ref 0), some (.int (nI i)), some (.int (nI (zp_H b pr n k))), some (.int (zp_k o)), some (.int (nI k)), some (.int (nI p))] [] M := by
            intro o ho
            refine h112 _ _ _ ?_
            simp only [bX12_first_112, zw_0, zw_1, zs_iinc5, zs_goto, zc_none, zc_int, zc_ref, zc_null, zc_long, zb_0, za_1, za_2, za_3, za_4, za_5, za_6, za_7, za_8, za_9, za_10, za_11, za_12, za_13, za_14, true_and, and_true, Nat.reduceAdd]
            rw [ho, nI_1]
            exact ihg (p + 1) (by omega)
          have no : zp_ok b (zp_H b pr n k) p = false → G 112 [some (.ref 0), some (.int (nI i)), some (.int (nI (zp_H b pr n k))), some (.int (zp_k (zp_nx b pr (zp_H b pr n k) p))), some (.int (nI k)), some (.int (nI p))] [] M := by
            intro h
            refine next _ ?_
            simp only [zp_nx]
            rw [if_neg (fun z => by rw [h] at z; exact absurd z.1 (by decide))]
          have yes : zp_ok b (zp_H b pr n k) p = true → G 82 [some (.ref 0), some (.int (nI i)), some (.int (nI (zp_H b pr n k))), some (.int (zp_k (zp_nx b pr (zp_H b pr n k) p))), some (.int (nI k)), some (.int (nI p))] [] M := by
            intro hok
            have take : zp_gt pr (zp_nx b pr (zp_H b pr n k) p) p = true → G 109 [some (.ref 0), some (.int (nI i)), some (.int (nI (zp_H b pr n k))), some (.int (zp_k (zp_nx b pr (zp_H b pr n k) p))), some (.int (nI k)), some (.int (nI p))] [] M := by
              intro hg
              refine h109 _ _ _ ?_
              simp only [bX12_first_109, zw_0, zw_1, zs_iload5, zs_istoren3, zc_none, zc_int, zc_ref, zc_null, zc_long, zb_0, za_1, za_2, za_3, za_4, za_5, za_6, za_7, za_8, za_9, za_10, za_11, za_12, za_13, za_14, true_and, and_true, Nat.reduceAdd]
              refine next (some p) ?_
              simp only [zp_nx]
              rw [if_pos ⟨hok, hg⟩]
            refine h82 _ _ _ ?_
            cases hz : zp_nx b pr (zp_H b pr n k) p with
            | none =>
              rw [hz] at take
              simp only [bX12_first_82, zw_0, zw_1, zs_iloadn3, zs_iconst, zs_iceq, zs_aloadn0, zs_aloadNn0, zg_12_7, zs_bipush, zs_iload5, zs_iadd, zs_iaload, zs_icle, zb_0, za_1, za_2, za_3, za_4, za_5, za_6, za_7, za_8, za_9, za_10, za_11, za_12, za_13, za_14, zu_0, zu_1, zu_2, zu_3, zu_4, zu_5, zu_6, zu_7, zu_8, zu_9, zu_10, zu_11, zu_12, zu_13, zu_14, zu_15, zu_16, zu_17, zu_18, zu_19, zu_20, zu_21, zu_22, zu_23, zu_24, zu_25, zu_26, zu_27, zu_28, zu_29, zu_30, zu_90, zv_0_9, zv_1_9, zv_2_9, zv_3_9, zv_4_9, zv_5_9, zv_6_9, zv_7_9, zv_8_9, zv_0_330, zv_0_4544, zv_1_4544, zv_2_4544, zv_3_4544, zv_4_4544, zv_5_4544, zv_6_4544, zv_7_4544, zv_8_4544, zv_9_4544, zv_10_4544, zv_11_4544, zv_12_4544, zv_13_4544, zv_14_4544, zv_15_4544, zv_16_4544, zv_17_4544, zv_18_4544, zv_19_4544, zv_20_4544, zv_21_4544, zv_22_4544, zv_23_4544, zv_24_4544, zv_25_4544, zv_26_4544, zv_27_4544, zv_28_4544, zv_29_4544, zv_0_11, zv_1_11, zv_0_160, true_and, and_true, Nat.reduceAdd, zp_k]
              exact ⟨fun _ => take rfl, fun h => (h (by trivial)).elim⟩
            | some j =>
              have hj := (zp_nx_some b pr _ p j hz).1
              rw [hz] at take no
              obtain ⟨i5, i6⟩ := zx_ck (k := 100) (p := j) (N := 4544) (by omega) (by decide)
              have ne : (nI j = -1) = False := eq_false (zt_ne (by omega))
              simp only [bX12_first_82, zw_0, zw_1, zs_iloadn3, zs_iconst, zs_iceq, zs_aloadn0, zs_aloadNn0, zg_12_7, zs_bipush, zs_iload5, zs_iadd, zs_iaload, zs_icle, zb_0, za_1, za_2, za_3, za_4, za_5, za_6, za_7, za_8, za_9, za_10, za_11, za_12, za_13, za_14, zu_0, zu_1, zu_2, zu_3, zu_4, zu_5, zu_6, zu_7, zu_8, zu_9, zu_10, zu_11, zu_12, zu_13, zu_14, zu_15, zu_16, zu_17, zu_18, zu_19, zu_20, zu_21, zu_22, zu_23, zu_24, zu_25, zu_26, zu_27, zu_28, zu_29, zu_30, zu_90, zv_0_9, zv_1_9, zv_2_9, zv_3_9, zv_4_9, zv_5_9, zv_6_9, zv_7_9, zv_8_9, zv_0_330, zv_0_4544, zv_1_4544, zv_2_4544, zv_3_4544, zv_4_4544, zv_5_4544, zv_6_4544, zv_7_4544, zv_8_4544, zv_9_4544, zv_10_4544, zv_11_4544, zv_12_4544, zv_13_4544, zv_14_4544, zv_15_4544, zv_16_4544, zv_17_4544, zv_18_4544, zv_19_4544, zv_20_4544, zv_21_4544, zv_22_4544, zv_23_4544, zv_24_4544, zv_25_4544, zv_26_4544, zv_27_4544, zv_28_4544, zv_29_4544, zv_0_11, zv_1_11, zv_0_160, true_and, and_true, Nat.reduceAdd, zp_k, zx_100, i3, i4, i5, i6, hpv]
              refine ⟨fun h => absurd h (zt_ne (by omega)), fun _ => ⟨fun h => next (some j) ?_, fun h => take (by show decide (pr j < pr p) = true; exact decide_eq_true (Int32.not_le.mp h))⟩⟩
              simp only [zp_nx]
              rw [hz, if_neg (fun z => absurd (of_decide_eq_true (show decide (pr j < pr p) = true from z.2)) (Int32.not_lt.mpr h))]
          refine h28 _ _ _ ?_
          simp only [bX12_first_28, zw_0, zw_1, zs_iload5, zs_aloadn0, zs_aloadNn0, zg_12_7, zs_iconst, zs_iaload, zs_icge, zs_iloadn2, zi_12_77, zs_ifne, zs_bipush, zs_iadd, zs_iceq, zs_goto, zh_0, zh_1, zh_2, zh_3, zh_4, zt_i, zt_l, zt_r, zt_n, zb_0, za_1, za_2, za_3, za_4, za_5, za_6, za_7, za_8, za_9, za_10, za_11, za_12, za_13, za_14, zu_0, zu_1, zu_2, zu_3, zu_4, zu_5, zu_6, zu_7, zu_8, zu_9, zu_10, zu_11, zu_12, zu_13, zu_14, zu_15, zu_16, zu_17, zu_18, zu_19, zu_20, zu_21, zu_22, zu_23, zu_24, zu_25, zu_26, zu_27, zu_28, zu_29, zu_30, zu_90, zv_0_9, zv_1_9, zv_2_9, zv_3_9, zv_4_9, zv_5_9, zv_6_9, zv_7_9, zv_8_9, zv_0_330, zv_0_4544, zv_1_4544, zv_2_4544, zv_3_4544, zv_4_4544, zv_5_4544, zv_6_4544, zv_7_4544, zv_8_4544, zv_9_4544, zv_10_4544, zv_11_4544, zv_12_4544, zv_13_4544, zv_14_4544, zv_15_4544, zv_16_4544, zv_17_4544, zv_18_4544, zv_19_4544, zv_20_4544, zv_21_4544, zv_22_4544, zv_23_4544, zv_24_4544, zv_25_4544, zv_26_4544, zv_27_4544, zv_28_4544, zv_29_4544, zv_0_11, zv_1_11, zv_0_160, true_and, and_true, Nat.reduceAdd, hc]
          refine ⟨fun h => absurd h (nI_ge (by omega) (by omega)), fun _ => ?_⟩
          refine zm_R_eq (c_has hE (d + 1) (nI (zp_H b pr n k)) (nI p) M) ?_
          rw [zx_has (by omega) (by omega)]
          simp only [bX12_first_28, zw_0, zw_1, zs_iload5, zs_aloadn0, zs_aloadNn0, zg_12_7, zs_iconst, zs_iaload, zs_icge, zs_iloadn2, zi_12_77, zs_ifne, zs_bipush, zs_iadd, zs_iceq, zs_goto, zh_0, zh_1, zh_2, zh_3, zh_4, zt_i, zt_l, zt_r, zt_n, zb_0, za_1, za_2, za_3, za_4, za_5, za_6, za_7, za_8, za_9, za_10, za_11, za_12, za_13, za_14, zu_0, zu_1, zu_2, zu_3, zu_4, zu_5, zu_6, zu_7, zu_8, zu_9, zu_10, zu_11, zu_12, zu_13, zu_14, zu_15, zu_16, zu_17, zu_18, zu_19, zu_20, zu_21, zu_22, zu_23, zu_24, zu_25, zu_26, zu_27, zu_28, zu_29, zu_30, zu_90, zv_0_9, zv_1_9, zv_2_9, zv_3_9, zv_4_9, zv_5_9, zv_6_9, zv_7_9, zv_8_9, zv_0_330, zv_0_4544, zv_1_4544, zv_2_4544, zv_3_4544, zv_4_4544, zv_5_4544, zv_6_4544, zv_7_4544, zv_8_4544, zv_9_4544, zv_10_4544, zv_11_4544, zv_12_4544, zv_13_4544, zv_14_4544, zv_15_4544, zv_16_4544, zv_17_4544, zv_18_4544, zv_19_4544, zv_20_4544, zv_21_4544, zv_22_4544, zv_23_4544, zv_24_4544, zv_25_4544, zv_26_4544, zv_27_4544, zv_28_4544, zv_29_4544, zv_0_11, zv_1_11, zv_0_160, true_and, and_true, Nat.reduceAdd, zx_boss, i1, i2, zi_b1, hbv]
          refine ⟨fun h => no (by unfold zp_ok; rw [h]; rfl), fun h => ?_⟩
          have hnb : (zp_H b pr n k).testBit p = false := by simpa [zi_b0] using h
          refine ⟨fun h2 => yes ?_, fun h2 => ?_⟩
          · have : p = 0 := by
              rcases Nat.eq_zero_or_pos p with z | z
              · exact z
              · obtain ⟨j, h3, h4⟩ := hw.2.2 p z (by omega)
                rw [h4] at h2
                exact absurd h2 (zt_ne (by omega))
            unfold zp_ok
            rw [hnb]; simp [this]
          · have hp0 : 0 < p := by
              rcases Nat.eq_zero_or_pos p with z | z
              · rw [z] at h2; exact absurd (hw.2.1 (by omega)) h2
              · exact z
            obtain ⟨j, h3, h4⟩ := hw.2.2 p hp0 (by omega)
            rw [h4]
            refine zm_R_eq (c_has hE (d + 1) (nI (zp_H b pr n k)) (nI j) M) ?_
            rw [zx_has (by omega) (by omega)]
            simp only [bX12_first_28, zw_0, zw_1, zs_iload5, zs_aloadn0, zs_aloadNn0, zg_12_7, zs_iconst, zs_iaload, zs_icge, zs_iloadn2, zi_12_77, zs_ifne, zs_bipush, zs_iadd, zs_iceq, zs_goto, zh_0, zh_1, zh_2, zh_3, zh_4, zt_i, zt_l, zt_r, zt_n, zb_0, za_1, za_2, za_3, za_4, za_5, za_6, za_7, za_8, za_9, za_10, za_11, za_12, za_13, za_14, zu_0, zu_1, zu_2, zu_3, zu_4, zu_5, zu_6, zu_7, zu_8, zu_9, zu_10, zu_11, zu_12, zu_13, zu_14, zu_15, zu_16, zu_17, zu_18, zu_19, zu_20, zu_21, zu_22, zu_23, zu_24, zu_25, zu_26, zu_27, zu_28, zu_29, zu_30, zu_90, zv_0_9, zv_1_9, zv_2_9, zv_3_9, zv_4_9, zv_5_9, zv_6_9, zv_7_9, zv_8_9, zv_0_330, zv_0_4544, zv_1_4544, zv_2_4544, zv_3_4544, zv_4_4544, zv_5_4544, zv_6_4544, zv_7_4544, zv_8_4544, zv_9_4544, zv_10_4544, zv_11_4544, zv_12_4544, zv_13_4544, zv_14_4544, zv_15_4544, zv_16_4544, zv_17_4544, zv_18_4544, zv_19_4544, zv_20_4544, zv_21_4544, zv_22_4544, zv_23_4544, zv_24_4544, zv_25_4544, zv_26_4544, zv_27_4544, zv_28_4544, zv_29_4544, zv_0_11, zv_1_11, zv_0_160, true_and, and_true, Nat.reduceAdd, zi_b1]
            refine ⟨fun h5 => yes ?_, fun h5 => no ?_⟩
            · unfold zp_ok
              rw [hnb, h4, nI_clamp (by omega), h5]; simp
            · have h5 : (zp_H b pr n k).testBit j = false := by simpa [zi_b0] using h5
              unfold zp_ok
              rw [hnb, h4, nI_clamp (by omega), h5]
              have : ¬ p = 0 := by omega
              simp [this]
      refine h17 _ _ _ ?_
      simp only [bX12_first_17, zw_0, zw_1, zs_iload4, zs_iloadn1, zs_icgt, zs_iconst, zs_istoren3, zs_istore5, zc_none, zc_int, zc_ref, zc_null, zc_long, zb_0, za_1, za_2, za_3, za_4, za_5, za_6, za_7, za_8, za_9, za_10, za_11, za_12, za_13, za_14, true_and, and_true, Nat.reduceAdd]
      exact ⟨fun h => absurd h (nI_nlt (by omega) (by omega)), fun _ => inner n 0 (by omega)⟩
  refine h10 _ _ _ ?_
  simp only [bX12_first_10, zw_0, zw_1, zs_iconst, zs_istoren2, zs_istoren3, zs_istore4, zc_none, zc_int, zc_ref, zc_null, zc_long, zb_0, za_1, za_2, za_3, za_4, za_5, za_6, za_7, za_8, za_9, za_10, za_11, za_12, za_13, za_14, true_and, and_true, Nat.reduceAdd]
  exact loop (i + 1) 0 none (-1) (by omega) (fun e => absurd e (by omega))
theorem zb_10 {n : Nat} (hn : n ≤ 10) {H : Nat} (h : H < 2 ^ n) : H < 1024 := Nat.lt_of_lt_of_le h (Nat.pow_le_pow_right (n := 2) (by decide) hn)
theorem c8_proudest {E : zm_E} (hE : zm_ok E.2.2.1 E.2.2.2.2) (d : Nat) {n H : Nat} (hH : H < 1024) {M : zm_M} (hw : zt_wf n (M.1 18)) (hc : M.1 17 0 = nI n) : zm_R E (d + 1) mX8_proudest [.ref 752, .int (nI H)] M (fun r M' => r = some (.int (zp_k (zp_nx (M.1 18) (M.1 19) H n))) ∧ M' = M) := by
  refine zX8_proudest hE rfl (fun G h0 h4 h36 h40 h41 h55 h56 h94 h96 h102 => ?_)
  show G 0 [some (.ref 752), some (.int (nI H)), none, none, none, none] [] M
  have hn := hw.1
  have inner : ∀ (g p : Nat) (l4 l5 : Option Value), p + g = n → G 4 [some (.ref 752), some (.int (nI H)), some (.int (zp_k (zp_nx (M.1 18) (M.1 19) H p))), some (.int (nI p)), l4, l5] [] M := by
    intro g
    induction g with
    | zero =>
      intro p l4 l5 hp
      have hp : p = n := by omega
      subst hp
      refine h4 _ _ _ ?_
      simp only [bX8_proudest_4, zw_0, zw_1, zs_iloadn3, zs_aloadn0, zs_aloadNn0, zg_8_24, zg_8_34, zs_icge, zs_ifeq, zs_iloadn1, zg_8_40, zs_iaload, zs_ishr, zs_iconst, zs_iand, zs_icne, zb_15, zb_16, zb_17, za_18, za_19, za_20, za_21, za_22, zb_23, za_24, za_25, za_26, za_27, za_28, za_29, za_30, za_31, za_32, zb_35, za_36, za_37, za_38, za_39, za_40, zb_377, zb_378, za_379, za_380, za_381, za_382, za_383, zb_384, za_385, za_386, za_387, za_388, za_389, za_390, za_391, za_392, za_393, zb_396, za_397, za_398, za_399, za_400, za_401, zb_738, za_739, za_740, za_741, za_742, za_743, za_744, za_745, za_746, za_747, zb_748, za_749, za_750, zb_751, zb_752, za_753, za_754, za_755, za_756, zb_757, za_758, za_759, za_760, zb_761, za_763, za_764, za_765, zu_0, zu_1, zu_2, zu_3, zu_4, zu_5, zu_6, zu_7, zu_8, zu_9, zu_10, zu_11, zu_12, zu_13, zu_14, zu_15, zu_16, zu_17, zu_18, zu_19, zu_20, zu_21, zu_22, zu_23, zu_24, zu_25, zu_26, zu_27, zu_28, zu_29, zu_30, zu_90, zv_0_9, zv_1_9, zv_2_9, zv_3_9, zv_4_9, zv_5_9, zv_6_9, zv_7_9, zv_8_9, zv_0_330, zv_0_4544, zv_1_4544, zv_2_4544, zv_3_4544, zv_4_4544, zv_5_4544, zv_6_4544, zv_7_4544, zv_8_4544, zv_9_4544, zv_10_4544, zv_11_4544, zv_12_4544, zv_13_4544, zv_14_4544, zv_15_4544, zv_16_4544, zv_17_4544, zv_18_4544, zv_19_4544, zv_20_4544, zv_21_4544, zv_22_4544, zv_23_4544, zv_24_4544, zv_25_4544, zv_26_4544, zv_27_4544, zv_28_4544, zv_29_4544, zv_0_11, zv_1_11, zv_0_160, true_and, and_true, Nat.reduceAdd, hc]
      refine ⟨fun _ => ?_, fun h => absurd (nI_le (Nat.le_refl _) (by omega)) h⟩
      refine h102 _ _ _ ?_
      simp only [bX8_proudest_102, zw_0, zw_1, zs_iloadn2, zs_ireturn, zn_int, zn_b0, zn_b1, zb_15, zb_16, zb_17, za_18, za_19, za_20, za_21, za_22, zb_23, za_24, za_25, za_26, za_27, za_28, za_29, za_30, za_31, za_32, zb_35, za_36, za_37, za_38, za_39, za_40, zb_377, zb_378, za_379, za_380, za_381, za_382, za_383, zb_384, za_385, za_386, za_387, za_388, za_389, za_390, za_391, za_392, za_393, zb_396, za_397, za_398, za_399, za_400, za_401, zb_738, za_739, za_740, za_741, za_742, za_743, za_744, za_745, za_746, za_747, zb_748, za_749, za_750, zb_751, zb_752, za_753, za_754, za_755, za_756, zb_757, za_758, za_759, za_760, zb_761, za_763, za_764, za_765, true_and, and_true, Nat.reduceAdd]
    | succ g ihg =>
      intro p l4 l5 hp
      have i1 : vp_in (nI p) 10 := vp_in_nI (by omega) (by decide)
      have i2 : (nI p).toNatClampNeg = p := nI_clamp (by omega)
      have next : ∀ o l4 l5, o = zp_nx (M.1 18) (M.1 19) H (p + 1) → G 96 [some (.ref 752), some (.int (nI H)), some (.int (zp_k o)), some (.int (nI p)), l4, l5] [] M := by
        intro o l4 l5 ho
        refine h96 _ _ _ ?_
        simp only [bX8_proudest_96, zw_0, zw_1, zs_iinc3, zs_goto, zc_none, zc_int, zc_ref, zc_null, zc_long, zb_15, zb_16, zb_17, za_18, za_19, za_20, za_21, za_22, zb_23, za_24, za_25, za_26, za_27, za_28, za_29, za_30, za_31, za_32, zb_35, za_36, za_37, za_38, za_39, za_40, zb_377, zb_378, za_379, za_380, za_381, za_382, za_383, zb_384, za_385, za_386, za_387, za_388, za_389, za_390, za_391, za_392, za_393, zb_396, za_397, za_398, za_399, za_400, za_401, zb_738, za_739, za_740, za_741, za_742, za_743, za_744, za_745, za_746, za_747, zb_748, za_749, za_750, zb_751, zb_752, za_753, za_754, za_755, za_756, zb_757, za_758, za_759, za_760, zb_761, za_763, za_764, za_765, true_and, and_true, Nat.reduceAdd]
        rw [ho, nI_1]
        exact ihg (p + 1) _ _ (by omega)
      have no : ∀ l4 l5, zp_ok (M.1 18) H p = false → G 96 [some (.ref 752), some (.int (nI H)), some (.int (zp_k (zp_nx (M.1 18) (M.1 19) H p))), some (.int (nI p)), l4, l5] [] M := by
        intro l4 l5 h
        refine next _ _ _ ?_
        simp only [zp_nx]
        rw [if_neg (fun z => by rw [h] at z; exact absurd z.1 (by decide))]
      have after : ∀ (r s : Bool), zp_ok (M.1 18) H p = (s && r) → G 56 [some (.ref 752), some (.int (nI H)), some (.int (zp_k (zp_nx (M.1 18) (M.1 19) H p))), some (.int (nI p)), some (.int (zi_b r)), l5] [.int (zi_b s)] M := by
        intro r s hrs
        refine h56 _ _ _ ?_
        have take : ∀ l4 l5, zp_ok (M.1 18) H p = true → zp_gt (M.1 19) (zp_nx (M.1 18) (M.1 19) H p) p = true → G 94 [some (.ref 752), some (.int (nI H)), some (.int (zp_k (zp_nx (M.1 18) (M.1 19) H p))), some (.int (nI p)), l4, l5] [] M := by
          intro l4 l5 hok hg
          refine h94 _ _ _ ?_
          simp only [bX8_proudest_94, zw_0, zw_1, zs_iloadn3, zs_istoren2, zc_none, zc_int, zc_ref, zc_null, zc_long, zb_15, zb_16, zb_17, za_18, za_19, za_20, za_21, za_22, zb_23, za_24, za_25, za_26, za_27, za_28, za_29, za_30, za_31, za_32, zb_35, za_36, za_37, za_38, za_39, za_40, zb_377, zb_378, za_379, za_380, za_381, za_382, za_383, zb_384, za_385, za_386, za_387, za_388, za_389, za_390, za_391, za_392, za_393, zb_396, za_397, za_398, za_399, za_400, za_401, zb_738, za_739, za_740, za_741, za_742, za_743, za_744, za_745, za_746, za_747, zb_748, za_749, za_750, zb_751, zb_752, za_753, za_754, za_755, za_756, zb_757, za_758, za_759, za_760, zb_761, za_763, za_764, za_765, true_and, and_true, Nat.reduceAdd]
          refine next (some p) _ _ ?_
          simp only [zp_nx]
          rw [if_pos ⟨hok, hg⟩]
        cases hz : zp_nx (M.1 18) (M.1 19) H p with
        | none =>
          rw [hz] at take no
          simp only [bX8_proudest_56, zw_0, zw_1, zs_istore5, zs_iload4, zs_ifeq, zs_iload5, zs_iloadn2, zs_iconst, zs_iceq, zs_aloadn0, zs_aloadNn0, zg_8_24, zg_8_50, zs_iloadn3, zs_iaload, zs_icle, zc_none, zc_int, zc_ref, zc_null, zc_long, zb_15, zb_16, zb_17, za_18, za_19, za_20, za_21, za_22, zb_23, za_24, za_25, za_26, za_27, za_28, za_29, za_30, za_31, za_32, zb_35, za_36, za_37, za_38, za_39, za_40, zb_377, zb_378, za_379, za_380, za_381, za_382, za_383, zb_384, za_385, za_386, za_387, za_388, za_389, za_390, za_391, za_392, za_393, zb_396, za_397, za_398, za_399, za_400, za_401, zb_738, za_739, za_740, za_741, za_742, za_743, za_744, za_745, za_746, za_747, zb_748, za_749, za_750, zb_751, zb_752, za_753, za_754, za_755, za_756, zb_757, za_758, za_759, za_760, zb_761, za_763, za_764, za_765, zu_0, zu_1, zu_2, zu_3, zu_4, zu_5, zu_6, zu_7, zu_8, zu_9, zu_10, zu_11, zu_12, zu_13, zu_14, zu_15, zu_16, zu_17, zu_18, zu_19, zu_20, zu_21, zu_22, zu_23, zu_24, zu_25, zu_26, zu_27, zu_28, zu_29, zu_30, zu_90, zv_0_9, zv_1_9, zv_2_9, zv_3_9, zv_4_9, zv_5_9, zv_6_9, zv_7_9, zv_8_9, zv_0_330, zv_0_4544, zv_1_4544, zv_2_4544, zv_3_4544, zv_4_4544, zv_5_4544, zv_6_4544, zv_7_4544, zv_8_4544, zv_9_4544, zv_10_4544, zv_11_4544, zv_12_4544, zv_13_4544, zv_14_4544, zv_15_4544, zv_16_4544, zv_17_4544, zv_18_4544, zv_19_4544, zv_20_4544, zv_21_4544, zv_22_4544, zv_23_4544, zv_24_4544, zv_25_4544, zv_26_4544, zv_27_4544, zv_28_4544, zv_29_4544, zv_0_11, zv_1_11, zv_0_160, true_and, and_true, Nat.reduceAdd, zp_k, zi_b0]
          refine ⟨fun h => no _ _ (by rw [hrs, h]; simp), fun h => ⟨fun h2 => no _ _ (by rw [hrs, h2]; rfl), fun h2 => ⟨fun _ => take _ _ (by rw [hrs]; simp_all) rfl, fun h => (h (by trivial)).elim⟩⟩⟩
        | some j =>
          have hj := (zp_nx_some _ _ _ p j hz).1
          rw [hz] at take no
          have i3 : vp_in (nI j) 10 := vp_in_nI (by omega) (by decide)
          have i4 : (nI j).toNatClampNeg = j := nI_clamp (by omega)
          simp only [bX8_proudest_56, zw_0, zw_1, zs_istore5, zs_iload4, zs_ifeq, zs_iload5, zs_iloadn2, zs_iconst, zs_iceq, zs_aloadn0, zs_aloadNn0, zg_8_24, zg_8_50, zs_iloadn3, zs_iaload, zs_icle, zc_none, zc_int, zc_ref, zc_null, zc_long, zb_15, zb_16, zb_17, za_18, za_19, za_20, za_21, za_22, zb_23, za_24, za_25, za_26, za_27, za_28, za_29, za_30, za_31, za_32, zb_35, za_36, za_37, za_38, za_39, za_40, zb_377, zb_378, za_379, za_380, za_381, za_382, za_383, zb_384, za_385, za_386, za_387, za_388, za_389, za_390, za_391, za_392, za_393, zb_396, za_397, za_398, za_399, za_400, za_401, zb_738, za_739, za_740, za_741, za_742, za_743, za_744, za_745, za_746, za_747, zb_748, za_749, za_750, zb_751, zb_752, za_753, za_754, za_755, za_756, zb_757, za_758, za_759, za_760, zb_761, za_763, za_764, za_765, zu_0, zu_1, zu_2, zu_3, zu_4, zu_5, zu_6, zu_7, zu_8, zu_9, zu_10, zu_11, zu_12, zu_13, zu_14, zu_15, zu_16, zu_17, zu_18, zu_19, zu_20, zu_21, zu_22, zu_23, zu_24, zu_25, zu_26, zu_27, zu_28, zu_29, zu_30, zu_90, zv_0_9, zv_1_9, zv_2_9, zv_3_9, zv_4_9, zv_5_9, zv_6_9, zv_7_9, zv_8_9, zv_0_330, zv_0_4544, zv_1_4544, zv_2_4544, zv_3_4544, zv_4_4544, zv_5_4544, zv_6_4544, zv_7_4544, zv_8_4544, zv_9_4544, zv_10_4544, zv_11_4544, zv_12_4544, zv_13_4544, zv_14_4544, zv_15_4544, zv_16_4544, zv_17_4544, zv_18_4544, zv_19_4544, zv_20_4544, zv_21_4544, zv_22_4544, zv_23_4544, zv_24_4544, zv_25_4544, zv_26_4544, zv_27_4544, zv_28_4544, zv_29_4544, zv_0_11, zv_1_11, zv_0_160, true_and, and_true, Nat.reduceAdd, zp_k, zi_b0, i1, i2, i3, i4]
          refine ⟨fun h => no _ _ (by rw [hrs, h]; simp), fun h => ⟨fun h2 => no _ _ (by rw [hrs, h2]; rfl), fun h2 => ⟨fun h => absurd h (zt_ne (by omega)), fun _ => ⟨fun h3 => next (some j) _ _ ?_, fun h3 => take _ _ (by rw [hrs]; simp_all) (decide_eq_true (Int32.not_le.mp h3))⟩⟩⟩⟩
          simp only [zp_nx]
          rw [hz, if_neg (fun z => absurd (of_decide_eq_true (show decide (M.1 19 j < M.1 19 p) = true from z.2)) (Int32.not_lt.mpr h3))]
      have mid : ∀ (r : Bool) l4, zp_ok (M.1 18) H p = (!H.testBit p && r) → G 41 [some (.ref 752), some (.int (nI H)), some (.int (zp_k (zp_nx (M.1 18) (M.1 19) H p))), some (.int (nI p)), l4, l5] [.int (zi_b r)] M := by
        intro r l4 hr
        have eb := zx_bit (S := H) (q := p) (by omega) (by omega)
        refine h41 _ _ _ ?_
        simp only [bX8_proudest_41, zw_0, zw_1, zs_istore4, zs_iloadn1, zs_iloadn3, zs_ishr, zs_iconst, zs_iand, zs_ifne, zs_goto, zc_none, zc_int, zc_ref, zc_null, zc_long, zb_15, zb_16, zb_17, za_18, za_19, za_20, za_21, za_22, zb_23, za_24, za_25, za_26, za_27, za_28, za_29, za_30, za_31, za_32, zb_35, za_36, za_37, za_38, za_39, za_40, zb_377, zb_378, za_379, za_380, za_381, za_382, za_383, zb_384, za_385, za_386, za_387, za_388, za_389, za_390, za_391, za_392, za_393, zb_396, za_397, za_398, za_399, za_400, za_401, zb_738, za_739, za_740, za_741, za_742, za_743, za_744, za_745, za_746, za_747, zb_748, za_749, za_750, zb_751, zb_752, za_753, za_754, za_755, za_756, zb_757, za_758, za_759, za_760, zb_761, za_763, za_764, za_765, true_and, and_true, Nat.reduceAdd, eb]
        cases hb : H.testBit p with
        | true =>
          refine ⟨fun _ => ?_, fun h => absurd (show (if true = true then (1 : Int32) else 0) = 0 from h) (by decide)⟩
          refine h55 _ _ _ ?_
          simp only [bX8_proudest_55, zw_0, zw_1, zs_iconst, zb_15, zb_16, zb_17, za_18, za_19, za_20, za_21, za_22, zb_23, za_24, za_25, za_26, za_27, za_28, za_29, za_30, za_31, za_32, zb_35, za_36, za_37, za_38, za_39, za_40, zb_377, zb_378, za_379, za_380, za_381, za_382, za_383, zb_384, za_385, za_386, za_387, za_388, za_389, za_390, za_391, za_392, za_393, zb_396, za_397, za_398, za_399, za_400, za_401, zb_738, za_739, za_740, za_741, za_742, za_743, za_744, za_745, za_746, za_747, zb_748, za_749, za_750, zb_751, zb_752, za_753, za_754, za_755, za_756, zb_757, za_758, za_759, za_760, zb_761, za_763, za_764, za_765, true_and, and_true, Nat.reduceAdd]
          exact after r false (by rw [hr, hb]; rfl)
        | false =>
          refine ⟨fun h => (h (by simp)).elim, fun _ => ?_⟩
          exact after r true (by rw [hr, hb]; rfl)
      have one : ∀ l4, zp_ok (M.1 18) H p = (!H.testBit p) → G 36 [some (.ref 752), some (.int (nI H)), some (.int (zp_k (zp_nx (M.1 18) (M.1 19) H p))), some (.int (nI p)), l4, l5] [] M := by
        intro l4 h
        refine h36 _ _ _ ?_
        simp only [bX8_proudest_36, zw_0, zw_1, zs_iconst, zs_goto, zb_15, zb_16, zb_17, za_18, za_19, za_20, za_21, za_22, zb_23, za_24, za_25, za_26, za_27, za_28, za_29, za_30, za_31, za_32, zb_35, za_36, za_37, za_38, za_39, za_40, zb_377, zb_378, za_379, za_380, za_381, za_382, za_383, zb_384, za_385, za_386, za_387, za_388, za_389, za_390, za_391, za_392, za_393, zb_396, za_397, za_398, za_399, za_400, za_401, zb_738, za_739, za_740, za_741, za_742, za_743, za_744, za_745, za_746, za_747, zb_748, za_749, za_750, zb_751, zb_752, za_753, za_754, za_755, za_756, zb_757, za_758, za_759, za_760, zb_761, za_763, za_764, za_765, true_and, and_true, Nat.reduceAdd]
        exact mid true _ (by rw [h]; simp)
      refine h4 _ _ _ ?_
      by_cases hp0 : p = 0
      · subst hp0
        simp only [bX8_proudest_4, zw_0, zw_1, zs_iloadn3, zs_aloadn0, zs_aloadNn0, zg_8_24, zg_8_34, zs_icge, zs_ifeq, zs_iloadn1, zg_8_40, zs_iaload, zs_ishr, zs_iconst, zs_iand, zs_icne, zb_15, zb_16, zb_17, za_18, za_19, za_20, za_21, za_22, zb_23, za_24, za_25, za_26, za_27, za_28, za_29, za_30, za_31, za_32, zb_35, za_36, za_37, za_38, za_39, za_40, zb_377, zb_378, za_379, za_380, za_381, za_382, za_383, zb_384, za_385, za_386, za_387, za_388, za_389, za_390, za_391, za_392, za_393, zb_396, za_397, za_398, za_399, za_400, za_401, zb_738, za_739, za_740, za_741, za_742, za_743, za_744, za_745, za_746, za_747, zb_748, za_749, za_750, zb_751, zb_752, za_753, za_754, za_755, za_756, zb_757, za_758, za_759, za_760, zb_761, za_763, za_764, za_765, zu_0, zu_1, zu_2, zu_3, zu_4, zu_5, zu_6, zu_7, zu_8, zu_9, zu_10, zu_11, zu_12, zu_13, zu_14, zu_15, zu_16, zu_17, zu_18, zu_19, zu_20, zu_21, zu_22, zu_23, zu_24, zu_25, zu_26, zu_27, zu_28, zu_29, zu_30, zu_90, zv_0_9, zv_1_9, zv_2_9, zv_3_9, zv_4_9, zv_5_9, zv_6_9, zv_7_9, zv_8_9, zv_0_330, zv_0_4544, zv_1_4544, zv_2_4544, zv_3_4544, zv_4_4544, zv_5_4544, zv_6_4544, zv_7_4544, zv_8_4544, zv_9_4544, zv_10_4544, zv_11_4544, zv_12_4544, zv_13_4544, zv_14_4544, zv_15_4544, zv_16_4544, zv_17_4544, zv_18_4544, zv_19_4544, zv_20_4544, zv_21_4544, zv_22_4544, zv_23_4544, zv_24_4544, zv_25_4544, zv_26_4544, zv_27_4544, zv_28_4544, zv_29_4544, zv_0_11, zv_1_11, zv_0_160, true_and, and_true, Nat.reduceAdd, hc]
        refine ⟨fun h => absurd h (nI_ge (by omega) (by omega)), fun _ => ⟨fun _ => one _ (by unfold zp_ok; simp), fun h => absurd rfl h⟩⟩
      · obtain ⟨j, h3, h4⟩ := hw.2.2 p (by omega) (by omega)
        have eb := zx_bit (S := H) (q := j) (by omega) (by omega)
        simp only [bX8_proudest_4, zw_0, zw_1, zs_iloadn3, zs_aloadn0, zs_aloadNn0, zg_8_24, zg_8_34, zs_icge, zs_ifeq, zs_iloadn1, zg_8_40, zs_iaload, zs_ishr, zs_iconst, zs_iand, zs_icne, zb_15, zb_16, zb_17, za_18, za_19, za_20, za_21, za_22, zb_23, za_24, za_25, za_26, za_27, za_28, za_29, za_30, za_31, za_32, zb_35, za_36, za_37, za_38, za_39, za_40, zb_377, zb_378, za_379, za_380, za_381, za_382, za_383, zb_384, za_385, za_386, za_387, za_388, za_389, za_390, za_391, za_392, za_393, zb_396, za_397, za_398, za_399, za_400, za_401, zb_738, za_739, za_740, za_741, za_742, za_743, za_744, za_745, za_746, za_747, zb_748, za_749, za_750, zb_751, zb_752, za_753, za_754, za_755, za_756, zb_757, za_758, za_759, za_760, zb_761, za_763, za_764, za_765, zu_0, zu_1, zu_2, zu_3, zu_4, zu_5, zu_6, zu_7, zu_8, zu_9, zu_10, zu_11, zu_12, zu_13, zu_14, zu_15, zu_16, zu_17, zu_18, zu_19, zu_20, zu_21, zu_22, zu_23, zu_24, zu_25, zu_26, zu_27, zu_28, zu_29, zu_30, zu_90, zv_0_9, zv_1_9, zv_2_9, zv_3_9, zv_4_9, zv_5_9, zv_6_9, zv_7_9, zv_8_9, zv_0_330, zv_0_4544, zv_1_4544, zv_2_4544, zv_3_4544, zv_4_4544, zv_5_4544, zv_6_4544, zv_7_4544, zv_8_4544, zv_9_4544, zv_10_4544, zv_11_4544, zv_12_4544, zv_13_4544, zv_14_4544, zv_15_4544, zv_16_4544, zv_17_4544, zv_18_4544, zv_19_4544, zv_20_4544, zv_21_4544, zv_22_4544, zv_23_4544, zv_24_4544, zv_25_4544, zv_26_4544, zv_27_4544, zv_28_4544, zv_29_4544, zv_0_11, zv_1_11, zv_0_160, true_and, and_true, Nat.reduceAdd, hc, i1, i2, h4, eb]
        have hok : zp_ok (M.1 18) H p = (!H.testBit p && H.testBit j) := by
          unfold zp_ok
          rw [h4, nI_clamp (by omega)]
          simp [hp0]
        refine ⟨fun h => absurd h (nI_ge (by omega) (by omega)), fun _ => ⟨fun h => absurd ((nI_eq (b := 0) (by omega) (by decide)).mp h) hp0, fun _ => ?_⟩⟩
        cases hb : H.testBit j with
        | true =>
          rw [hb] at hok
          exact ⟨fun h => (h (by simp)).elim, fun _ => one _ (by rw [hok]; simp)⟩
        | false =>
          rw [hb] at hok
          refine ⟨fun _ => ?_, fun h => absurd (show (if false = true then (1 : Int32) else 0) = 1 from h) (by decide)⟩
          refine h40 _ _ _ ?_
          simp only [bX8_proudest_40, zw_0, zw_1, zs_iconst, zb_15, zb_16, zb_17, za_18, za_19, za_20, za_21, za_22, zb_23, za_24, za_25, za_26, za_27, za_28, za_29, za_30, za_31, za_32, zb_35, za_36, za_37, za_38, za_39, za_40, zb_377, zb_378, za_379, za_380, za_381, za_382, za_383, zb_384, za_385, za_386, za_387, za_388, za_389, za_390, za_391, za_392, za_393, zb_396, za_397, za_398, za_399, za_400, za_401, zb_738, za_739, za_740, za_741, za_742, za_743, za_744, za_745, za_746, za_747, zb_748, za_749, za_750, zb_751, zb_752, za_753, za_754, za_755, za_756, zb_757, za_758, za_759, za_760, zb_761, za_763, za_764, za_765, true_and, and_true, Nat.reduceAdd]
          exact mid false _ hok
  refine h0 _ _ _ ?_
  simp only [bX8_proudest_0, zw_0, zw_1, zs_iconst, zs_istoren2, zs_istoren3, zc_none, zc_int, zc_ref, zc_null, zc_long, zb_15, zb_16, zb_17, za_18, za_19, za_20, za_21, za_22, zb_23, za_24, za_25, za_26, za_27, za_28, za_29, za_30, za_31, za_32, zb_35, za_36, za_37, za_38, za_39, za_40, zb_377, zb_378, za_379, za_380, za_381, za_382, za_383, zb_384, za_385, za_386, za_387, za_388, za_389, za_390, za_391, za_392, za_393, zb_396, za_397, za_398, za_399, za_400, za_401, zb_738, za_739, za_740, za_741, za_742, za_743, za_744, za_745, za_746, za_747, zb_748, za_749, za_750, zb_751, zb_752, za_753, za_754, za_755, za_756, zb_757, za_758, za_759, za_760, zb_761, za_763, za_764, za_765, true_and, and_true, Nat.reduceAdd]
  exact inner n 0 none none (by omega)
theorem c11_first {E : zm_E} (hE : zm_ok E.2.2.1 E.2.2.2.2) (d : Nat) {n : Nat} (o : Int32) {M : zm_M} (hw : zt_wf n (M.1 18)) (hc : M.1 17 0 = nI n) {Q : Option Value → zm_M → Prop} (q1 : zo_is n o = false → Q (some (.int (-1))) M) (q2 : ∀ i, i < n → o = nI i → Q (some (.int (zp_k (zp_nx (M.1 18) (M.1 19) (zp_H (M.1 18) (M.1 19) n i) n)))) M) : zm_R E (d + 3) mX11_first [.ref 15, .int o] M Q := by
  have hn := hw.1
  have prom : ∀ i, i < n → zm_R E (d + 2) mX8_promotedAt [.ref 752, .int (nI i)] M (fun r M' => r = some (.int (zp_k (zp_nx (M.1 18) (M.1 19) (zp_H (M.1 18) (M.1 19) n i) n))) ∧ M' = M) := by
    intro i hi
    refine zX8_promotedAt hE rfl (fun G h0 h7 h38 h50 => ?_)
    show G 0 [some (.ref 752), some (.int (nI i)), none, none, none] [] M
    have loop : ∀ (f k : Nat) (v : Int32), k + f = i + 1 → (k = i + 1 → v = zp_k (zp_nx (M.1 18) (M.1 19) (zp_H (M.1 18) (M.1 19) n i) n)) → G 7 [some (.ref 752), some (.int (nI i)), some (.int (nI (zp_H (M.1 18) (M.1 19) n k))), some (.int v), some (.int (nI k))] [] M := by
      intro f
      induction f with
      | zero =>
        intro k v hk hv
        have hk : k = i + 1 := by omega
        subst hk
        refine h7 _ _ _ ?_
        simp only [bX8_promotedAt_7, zw_0, zw_1, zs_iload4, zs_iloadn1, zs_icgt, zs_aloadn0, zs_aloadNn0, zg_8_24, zg_8_34, zs_icge, zs_iloadn2, zi_8_46, zs_istoren3, zs_iloadn3, zs_iconst, zs_icne, zs_ireturn, zc_none, zc_int, zc_ref, zc_null, zc_long, zh_0, zh_1, zh_2, zh_3, zh_4, zt_i, zt_l, zt_r, zt_n, zn_int, zn_b0, zn_b1, zb_15, zb_16, zb_17, za_18, za_19, za_20, za_21, za_22, zb_23, za_24, za_25, za_26, za_27, za_28, za_29, za_30, za_31, za_32, zb_35, za_36, za_37, za_38, za_39, za_40, zb_377, zb_378, za_379, za_380, za_381, za_382, za_383, zb_384, za_385, za_386, za_387, za_388, za_389, za_390, za_391, za_392, za_393, zb_396, za_397, za_398, za_399, za_400, za_401, zb_738, za_739, za_740, za_741, za_742, za_743, za_744, za_745, za_746, za_747, zb_748, za_749, za_750, zb_751, zb_752, za_753, za_754, za_755, za_756, zb_757, za_758, za_759, za_760, zb_761, za_763, za_764, za_765, true_and, and_true, Nat.reduceAdd, hc]
        refine ⟨fun _ => ?_, fun h => absurd (nI_lt (by omega) (by omega)) h⟩
        refine h50 _ _ _ ?_
        simp only [bX8_promotedAt_50, zw_0, zw_1, zs_iloadn3, zs_ireturn, zn_int, zn_b0, zn_b1, zb_15, zb_16, zb_17, za_18, za_19, za_20, za_21, za_22, zb_23, za_24, za_25, za_26, za_27, za_28, za_29, za_30, za_31, za_32, zb_35, za_36, za_37, za_38, za_39, za_40, zb_377, zb_378, za_379, za_380, za_381, za_382, za_383, zb_384, za_385, za_386, za_387, za_388, za_389, za_390, za_391, za_392, za_393, zb_396, za_397, za_398, za_399, za_400, za_401, zb_738, za_739, za_740, za_741, za_742, za_743, za_744, za_745, za_746, za_747, zb_748, za_749, za_750, zb_751, zb_752, za_753, za_754, za_755, za_756, zb_757, za_758, za_759, za_760, zb_761, za_763, za_764, za_765, true_and, and_true, Nat.reduceAdd]
        rw [hv rfl]
      | succ f ih =>
        intro k v hk hv
        obtain ⟨hH, -⟩ := zp_step (pr := M.1 19) hw k (by omega)
        obtain ⟨x, hx, ex⟩ := zp_ex (pr := M.1 19) hw (show k < n by omega)
        refine h7 _ _ _ ?_
        simp only [bX8_promotedAt_7, zw_0, zw_1, zs_iload4, zs_iloadn1, zs_icgt, zs_aloadn0, zs_aloadNn0, zg_8_24, zg_8_34, zs_icge, zs_iloadn2, zi_8_46, zs_istoren3, zs_iloadn3, zs_iconst, zs_icne, zs_ireturn, zc_none, zc_int, zc_ref, zc_null, zc_long, zh_0, zh_1, zh_2, zh_3, zh_4, zt_i, zt_l, zt_r, zt_n, zn_int, zn_b0, zn_b1, zb_15, zb_16, zb_17, za_18, za_19, za_20, za_21, za_22, zb_23, za_24, za_25, za_26, za_27, za_28, za_29, za_30, za_31, za_32, zb_35, za_36, za_37, za_38, za_39, za_40, zb_377, zb_378, za_379, za_380, za_381, za_382, za_383, zb_384, za_385, za_386, za_387, za_388, za_389, za_390, za_391, za_392, za_393, zb_396, za_397, za_398, za_399, za_400, za_401, zb_738, za_739, za_740, za_741, za_742, za_743, za_744, za_745, za_746, za_747, zb_748, za_749, za_750, zb_751, zb_752, za_753, za_754, za_755, za_756, zb_757, za_758, za_759, za_760, zb_761, za_763, za_764, za_765, true_and, and_true, Nat.reduceAdd, hc]
        refine ⟨fun h => absurd h (nI_nlt (by omega) (by omega)), fun _ => ⟨fun h => absurd h (nI_ge (by omega) (by omega)), fun _ => ?_⟩⟩
        refine zm_R_eq (c8_proudest hE d (zb_10 hn hH) hw hc) ?_
        rw [ex]
        simp only [bX8_promotedAt_7, zw_0, zw_1, zs_iload4, zs_iloadn1, zs_icgt, zs_aloadn0, zs_aloadNn0, zg_8_24, zg_8_34, zs_icge, zs_iloadn2, zi_8_46, zs_istoren3, zs_iloadn3, zs_iconst, zs_icne, zs_ireturn, zc_none, zc_int, zc_ref, zc_null, zc_long, zh_0, zh_1, zh_2, zh_3, zh_4, zt_i, zt_l, zt_r, zt_n, zn_int, zn_b0, zn_b1, zb_15, zb_16, zb_17, za_18, za_19, za_20, za_21, za_22, zb_23, za_24, za_25, za_26, za_27, za_28, za_29, za_30, za_31, za_32, zb_35, za_36, za_37, za_38, za_39, za_40, zb_377, zb_378, za_379, za_380, za_381, za_382, za_383, zb_384, za_385, za_386, za_387, za_388, za_389, za_390, za_391, za_392, za_393, zb_396, za_397, za_398, za_399, za_400, za_401, zb_738, za_739, za_740, za_741, za_742, za_743, za_744, za_745, za_746, za_747, zb_748, za_749, za_750, zb_751, zb_752, za_753, za_754, za_755, za_756, zb_757, za_758, za_759, za_760, zb_761, za_763, za_764, za_765, true_and, and_true, Nat.reduceAdd, zp_k]
        refine ⟨fun _ => ?_, fun h => absurd h (zt_ne (by omega))⟩
        have e2 : zp_H (M.1 18) (M.1 19) n (k + 1) = zp_H (M.1 18) (M.1 19) n k ||| 2 ^ x := by simp only [zp_H]; rw [ex]; rfl
        refine h38 _ _ _ ?_
        simp only [bX8_promotedAt_38, zw_0, zw_1, zs_iloadn2, zs_iconst, zs_iloadn3, zs_ishl, zs_ior, zs_istoren2, zs_iinc4, zs_goto, zc_none, zc_int, zc_ref, zc_null, zc_long, zb_15, zb_16, zb_17, za_18, za_19, za_20, za_21, za_22, zb_23, za_24, za_25, za_26, za_27, za_28, za_29, za_30, za_31, za_32, zb_35, za_36, za_37, za_38, za_39, za_40, zb_377, zb_378, za_379, za_380, za_381, za_382, za_383, zb_384, za_385, za_386, za_387, za_388, za_389, za_390, za_391, za_392, za_393, zb_396, za_397, za_398, za_399, za_400, za_401, zb_738, za_739, za_740, za_741, za_742, za_743, za_744, za_745, za_746, za_747, zb_748, za_749, za_750, zb_751, zb_752, za_753, za_754, za_755, za_756, zb_757, za_758, za_759, za_760, zb_761, za_763, za_764, za_765, true_and, and_true, Nat.reduceAdd]
        rw [zx_1s x (by omega), nx_or, ← e2, nI_1]
        refine ih (k + 1) _ (by omega) (fun e => ?_)
        have : k = i := by omega
        rw [← this, ex]; rfl
    refine h0 _ _ _ ?_
    simp only [bX8_promotedAt_0, zw_0, zw_1, zs_iconst, zs_istoren2, zs_istoren3, zs_istore4, zc_none, zc_int, zc_ref, zc_null, zc_long, zb_15, zb_16, zb_17, za_18, za_19, za_20, za_21, za_22, zb_23, za_24, za_25, za_26, za_27, za_28, za_29, za_30, za_31, za_32, zb_35, za_36, za_37, za_38, za_39, za_40, zb_377, zb_378, za_379, za_380, za_381, za_382, za_383, zb_384, za_385, za_386, za_387, za_388, za_389, za_390, za_391, za_392, za_393, zb_396, za_397, za_398, za_399, za_400, za_401, zb_738, za_739, za_740, za_741, za_742, za_743, za_744, za_745, za_746, za_747, zb_748, za_749, za_750, zb_751, zb_752, za_753, za_754, za_755, za_756, zb_757, za_758, za_759, za_760, zb_761, za_763, za_764, za_765, true_and, and_true, Nat.reduceAdd]
    exact loop (i + 1) 0 (-1) (by omega) (fun e => absurd e (by omega))
  refine zX11_first hE rfl (fun G h0 h31 h32 => ?_)
  show G 0 [some (.ref 15), some (.int o)] [] M
  refine h0 _ _ _ ?_
  simp only [bX11_first_0, zw_0, zw_1, zs_iloadn1, zs_iconst, zs_aloadn0, zs_aloadNn0, zg_11_10, zg_11_28, zg_11_77, zs_isub, zi_11_86, zs_ifeq, zg_11_51, zi_11_331, zs_goto, zh_0, zh_1, zh_2, zh_3, zh_4, zt_i, zt_l, zt_r, zt_n, zb_15, zb_16, zb_17, za_18, za_19, za_20, za_21, za_22, zb_23, za_24, za_25, za_26, za_27, za_28, za_29, za_30, za_31, za_32, zb_35, za_36, za_37, za_38, za_39, za_40, zb_377, zb_378, za_379, za_380, za_381, za_382, za_383, zb_384, za_385, za_386, za_387, za_388, za_389, za_390, za_391, za_392, za_393, zb_396, za_397, za_398, za_399, za_400, za_401, zb_738, za_739, za_740, za_741, za_742, za_743, za_744, za_745, za_746, za_747, zb_748, za_749, za_750, zb_751, zb_752, za_753, za_754, za_755, za_756, zb_757, za_758, za_759, za_760, zb_761, za_763, za_764, za_765, true_and, and_true, Nat.reduceAdd, hc]
  refine zm_R_eq (c11_within hE (d + 1) o 0 _ M) ?_
  rw [zo_in (by omega)]
  simp only [bX11_first_0, zw_0, zw_1, zs_iloadn1, zs_iconst, zs_aloadn0, zs_aloadNn0, zg_11_10, zg_11_28, zg_11_77, zs_isub, zi_11_86, zs_ifeq, zg_11_51, zi_11_331, zs_goto, zh_0, zh_1, zh_2, zh_3, zh_4, zt_i, zt_l, zt_r, zt_n, zb_15, zb_16, zb_17, za_18, za_19, za_20, za_21, za_22, zb_23, za_24, za_25, za_26, za_27, za_28, za_29, za_30, za_31, za_32, zb_35, za_36, za_37, za_38, za_39, za_40, zb_377, zb_378, za_379, za_380, za_381, za_382, za_383, zb_384, za_385, za_386, za_387, za_388, za_389, za_390, za_391, za_392, za_393, zb_396, za_397, za_398, za_399, za_400, za_401, zb_738, za_739, za_740, za_741, za_742, za_743, za_744, za_745, za_746, za_747, zb_748, za_749, za_750, zb_751, zb_752, za_753, za_754, za_755, za_756, zb_757, za_758, za_759, za_760, zb_761, za_763, za_764, za_765, true_and, and_true, Nat.reduceAdd, zi_b0]
  refine ⟨fun h => ?_, fun h => ?_⟩
  · refine h31 _ _ _ ?_
    simp only [bX11_first_31, zw_0, zw_1, zs_iconst, zb_15, zb_16, zb_17, za_18, za_19, za_20, za_21, za_22, zb_23, za_24, za_25, za_26, za_27, za_28, za_29, za_30, za_31, za_32, zb_35, za_36, za_37, za_38, za_39, za_40, zb_377, zb_378, za_379, za_380, za_381, za_382, za_383, zb_384, za_385, za_386, za_387, za_388, za_389, za_390, za_391, za_392, za_393, zb_396, za_397, za_398, za_399, za_400, za_401, zb_738, za_739, za_740, za_741, za_742, za_743, za_744, za_745, za_746, za_747, zb_748, za_749, za_750, zb_751, zb_752, za_753, za_754, za_755, za_756, zb_757, za_758, za_759, za_760, zb_761, za_763, za_764, za_765, true_and, and_true, Nat.reduceAdd]
    refine h32 _ _ _ ?_
    simp only [bX11_first_32, zw_0, zw_1, zs_ireturn, zn_int, zn_b0, zn_b1, zb_15, zb_16, zb_17, za_18, za_19, za_20, za_21, za_22, zb_23, za_24, za_25, za_26, za_27, za_28, za_29, za_30, za_31, za_32, zb_35, za_36, za_37, za_38, za_39, za_40, zb_377, zb_378, za_379, za_380, za_381, za_382, za_383, zb_384, za_385, za_386, za_387, za_388, za_389, za_390, za_391, za_392, za_393, zb_396, za_397, za_398, za_399, za_400, za_401, zb_738, za_739, za_740, za_741, za_742, za_743, za_744, za_745, za_746, za_747, zb_748, za_749, za_750, zb_751, zb_752, za_753, za_754, za_755, za_756, zb_757, za_758, za_759, za_760, zb_761, za_763, za_764, za_765, true_and, and_true, Nat.reduceAdd]
    exact q1 h
  · simp only [Bool.not_eq_false] at h
    obtain ⟨i, hi, rfl⟩ := zo_of h (by omega)
    refine zm_R_eq (prom i hi) ?_
    simp only [bX11_first_0, zw_0, zw_1, zs_iloadn1, zs_iconst, zs_aloadn0, zs_aloadNn0, zg_11_10, zg_11_28, zg_11_77, zs_isub, zi_11_86, zs_ifeq, zg_11_51, zi_11_331, zs_goto, zh_0, zh_1, zh_2, zh_3, zh_4, zt_i, zt_l, zt_r, zt_n, zb_15, zb_16, zb_17, za_18, za_19, za_20, za_21, za_22, zb_23, za_24, za_25, za_26, za_27, za_28, za_29, za_30, za_31, za_32, zb_35, za_36, za_37, za_38, za_39, za_40, zb_377, zb_378, za_379, za_380, za_381, za_382, za_383, zb_384, za_385, za_386, za_387, za_388, za_389, za_390, za_391, za_392, za_393, zb_396, za_397, za_398, za_399, za_400, za_401, zb_738, za_739, za_740, za_741, za_742, za_743, za_744, za_745, za_746, za_747, zb_748, za_749, za_750, zb_751, zb_752, za_753, za_754, za_755, za_756, zb_757, za_758, za_759, za_760, zb_761, za_763, za_764, za_765, true_and, and_true, Nat.reduceAdd]
    refine h32 _ _ _ ?_
    simp only [bX11_first_32, zw_0, zw_1, zs_ireturn, zn_int, zn_b0, zn_b1, zb_15, zb_16, zb_17, za_18, za_19, za_20, za_21, za_22, zb_23, za_24, za_25, za_26, za_27, za_28, za_29, za_30, za_31, za_32, zb_35, za_36, za_37, za_38, za_39, za_40, zb_377, zb_378, za_379, za_380, za_381, za_382, za_383, zb_384, za_385, za_386, za_387, za_388, za_389, za_390, za_391, za_392, za_393, zb_396, za_397, za_398, za_399, za_400, za_401, zb_738, za_739, za_740, za_741, za_742, za_743, za_744, za_745, za_746, za_747, zb_748, za_749, za_750, zb_751, zb_752, za_753, za_754, za_755, za_756, zb_757, za_758, za_759, za_760, zb_761, za_763, za_764, za_765, true_and, and_true, Nat.reduceAdd]
    exact q2 i hi rfl
