/-! ===== apart of both ===== -/
theorem zx_addI {a b : Int32} {x y : Int} (ha : a.toInt = x) (hb : b.toInt = y) (h1 : -2147483648 ≤ x + y) (h2 : x + y < 2147483648) : (a + b).toInt = x + y := by
  rw [Int32.toInt_add, ha, hb, Int.bmod_eq_of_le (by omega) (by omega)]
theorem zx_subI {a b : Int32} {x y : Int} (ha : a.toInt = x) (hb : b.toInt = y) (h1 : -2147483648 ≤ x - y) (h2 : x - y < 2147483648) : (a - b).toInt = x - y := by
  rw [Int32.toInt_sub, ha, hb, Int.bmod_eq_of_le (by omega) (by omega)]
theorem zx_maxI {a b : Int32} {x y : Int} (ha : a.toInt = x) (hb : b.toInt = y) : (if a < b then b else a).toInt = max x y := by
  by_cases c : a < b
  · rw [if_pos c, hb]; rw [Int32.lt_iff_toInt_lt, ha, hb] at c; rw [Int.max_eq_right (by omega)]
  · rw [if_neg c, ha]; rw [Int32.lt_iff_toInt_lt, ha, hb] at c; rw [Int.max_eq_left (by omega)]
theorem zx_minI {a b : Int32} {x y : Int} (ha : a.toInt = x) (hb : b.toInt = y) : (if b < a then b else a).toInt = min x y := by
  by_cases c : b < a
  · rw [if_pos c, hb]; rw [Int32.lt_iff_toInt_lt, ha, hb] at c; rw [Int.min_eq_right (by omega)]
  · rw [if_neg c, ha]; rw [Int32.lt_iff_toInt_lt, ha, hb] at c; rw [Int.min_eq_left (by omega)]
theorem zx_mod10 {x : Int32} {S : Nat} {K : Int} (hS : S < 1024) (h : x.toInt = S + 1024 * K) : x &&& 1023 = nI S := by
  rw [pk_and x 10 rfl]
  congr 1
  have e : x.toInt = x.toBitVec.toInt := rfl
  rw [e, BitVec.toInt_eq_toNat_cond] at h
  have hl := x.toBitVec.isLt
  split at h <;> omega
theorem c_weightOf {E : zm_E} (hE : zm_ok E.2.2.1 E.2.2.2.2) (d : Nat) {n S : Nat} (hn : n ≤ 10) (hS : S < 2 ^ 31) {M : zm_M} (hc : M.1 1 0 = nI n) {g : Nat → Nat} (hg : ∀ i, i < n → M.1 1 (128 + i) = nI (g i)) : zm_R E (d + 2) mX12_weightOf [.ref 0, .int (nI S)] M (fun r M' => r = some (.int (nI (zd_w g S n))) ∧ M' = M) := by
  refine zX12_weightOf hE rfl (fun G h0 h4 h36 h37 h45 => ?_)
  show G 0 [some (.ref 0), some (.int (nI S)), none, none] [] M
  have loop : ∀ (f k : Nat), k + f = n → G 4 [some (.ref 0), some (.int (nI S)), some (.int (nI (zd_w g S k))), some (.int (nI k))] [] M := by
    intro f
    induction f with
    | zero =>
      intro k hk
      have hk : k = n := by omega
      subst hk
      refine h4 _ _ _ ?_
      simp only [bX12_weightOf_4, zw_0, zw_1, zs_iloadn3, zs_aloadn0, zs_aloadNn0, zg_12_7, zs_iconst, zs_iaload, zs_icge, zs_iloadn2, zs_iloadn1, zi_12_77, zs_ifeq, zs_sipush, zs_iadd, zs_goto, zh_0, zh_1, zh_2, zh_3, zh_4, zt_i, zt_l, zt_r, zt_n, zb_0, za_1, za_2, za_3, za_4, za_5, za_6, za_7, za_8, za_9, za_10, za_11, za_12, za_13, za_14, zu_0, zu_1, zu_2, zu_3, zu_4, zu_5, zu_6, zu_7, zu_8, zu_9, zu_10, zu_11, zu_12, zu_13, zu_14, zu_15, zu_16, zu_17, zu_18, zu_19, zu_20, zu_21, zu_22, zu_23, zu_24, zu_25, zu_26, zu_27, zu_28, zu_29, zu_30, zu_90, zv_0_9, zv_1_9, zv_2_9, zv_3_9, zv_4_9, zv_5_9, zv_6_9, zv_7_9, zv_8_9, zv_0_330, zv_0_4544, zv_1_4544, zv_2_4544, zv_3_4544, zv_4_4544, zv_5_4544, zv_6_4544, zv_7_4544, zv_8_4544, zv_9_4544, zv_10_4544, zv_11_4544, zv_12_4544, zv_13_4544, zv_14_4544, zv_15_4544, zv_16_4544, zv_17_4544, zv_18_4544, zv_19_4544, zv_20_4544, zv_21_4544, zv_22_4544, zv_23_4544, zv_24_4544, zv_25_4544, zv_26_4544, zv_27_4544, zv_28_4544, zv_29_4544, zv_0_11, zv_1_11, zv_0_160, true_and, and_true, Nat.reduceAdd, hc]
      refine ⟨fun _ => ?_, fun h => absurd (nI_le (Nat.le_refl _) (by omega)) h⟩
      refine h45 _ _ _ ?_
      simp only [bX12_weightOf_45, zw_0, zw_1, zs_iloadn2, zs_ireturn, zn_int, zn_b0, zn_b1, zb_0, za_1, za_2, za_3, za_4, za_5, za_6, za_7, za_8, za_9, za_10, za_11, za_12, za_13, za_14, true_and, and_true, Nat.reduceAdd]
    | succ f ih =>
      intro k hk
      obtain ⟨i1, i2⟩ := zx_ck (k := 128) (p := k) (N := 4544) (by omega) (by decide)
      have nx : ∀ v, v = nI (if S.testBit k = true then g k else 0) → G 37 [some (.ref 0), some (.int (nI S)), some (.int (nI (zd_w g S k))), some (.int (nI k))] [.int v, .int (nI (zd_w g S k))] M := by
        intro v hv
        refine h37 _ _ _ ?_
        simp only [bX12_weightOf_37, zw_0, zw_1, zs_iadd, zs_istoren2, zs_iinc3, zs_goto, zc_none, zc_int, zc_ref, zc_null, zc_long, zb_0, za_1, za_2, za_3, za_4, za_5, za_6, za_7, za_8, za_9, za_10, za_11, za_12, za_13, za_14, true_and, and_true, Nat.reduceAdd]
        rw [nI_1, hv, nI_add]
        exact ih (k + 1) (by omega)
      refine h4 _ _ _ ?_
      simp only [bX12_weightOf_4, zw_0, zw_1, zs_iloadn3, zs_aloadn0, zs_aloadNn0, zg_12_7, zs_iconst, zs_iaload, zs_icge, zs_iloadn2, zs_iloadn1, zi_12_77, zs_ifeq, zs_sipush, zs_iadd, zs_goto, zh_0, zh_1, zh_2, zh_3, zh_4, zt_i, zt_l, zt_r, zt_n, zb_0, za_1, za_2, za_3, za_4, za_5, za_6, za_7, za_8, za_9, za_10, za_11, za_12, za_13, za_14, zu_0, zu_1, zu_2, zu_3, zu_4, zu_5, zu_6, zu_7, zu_8, zu_9, zu_10, zu_11, zu_12, zu_13, zu_14, zu_15, zu_16, zu_17, zu_18, zu_19, zu_20, zu_21, zu_22, zu_23, zu_24, zu_25, zu_26, zu_27, zu_28, zu_29, zu_30, zu_90, zv_0_9, zv_1_9, zv_2_9, zv_3_9, zv_4_9, zv_5_9, zv_6_9, zv_7_9, zv_8_9, zv_0_330, zv_0_4544, zv_1_4544, zv_2_4544, zv_3_4544, zv_4_4544, zv_5_4544, zv_6_4544, zv_7_4544, zv_8_4544, zv_9_4544, zv_10_4544, zv_11_4544, zv_12_4544, zv_13_4544, zv_14_4544, zv_15_4544, zv_16_4544, zv_17_4544, zv_18_4544, zv_19_4544, zv_20_4544, zv_21_4544, zv_22_4544, zv_23_4544, zv_24_4544, zv_25_4544, zv_26_4544, zv_27_4544, zv_28_4544, zv_29_4544, zv_0_11, zv_1_11, zv_0_160, true_and, and_true, Nat.reduceAdd, hc]
      refine ⟨fun h => absurd h (nI_ge (by omega) (by omega)), fun _ => ?_⟩
      refine zm_R_eq (c_has hE d (nI S) (nI k) M) ?_
      rw [zx_has hS (by omega)]
      simp only [bX12_weightOf_4, zw_0, zw_1, zs_iloadn3, zs_aloadn0, zs_aloadNn0, zg_12_7, zs_iconst, zs_iaload, zs_icge, zs_iloadn2, zs_iloadn1, zi_12_77, zs_ifeq, zs_sipush, zs_iadd, zs_goto, zh_0, zh_1, zh_2, zh_3, zh_4, zt_i, zt_l, zt_r, zt_n, zb_0, za_1, za_2, za_3, za_4, za_5, za_6, za_7, za_8, za_9, za_10, za_11, za_12, za_13, za_14, zu_0, zu_1, zu_2, zu_3, zu_4, zu_5, zu_6, zu_7, zu_8, zu_9, zu_10, zu_11, zu_12, zu_13, zu_14, zu_15, zu_16, zu_17, zu_18, zu_19, zu_20, zu_21, zu_22, zu_23, zu_24, zu_25, zu_26, zu_27, zu_28, zu_29, zu_30, zu_90, zv_0_9, zv_1_9, zv_2_9, zv_3_9, zv_4_9, zv_5_9, zv_6_9, zv_7_9, zv_8_9, zv_0_330, zv_0_4544, zv_1_4544, zv_2_4544, zv_3_4544, zv_4_4544, zv_5_4544, zv_6_4544, zv_7_4544, zv_8_4544, zv_9_4544, zv_10_4544, zv_11_4544, zv_12_4544, zv_13_4544, zv_14_4544, zv_15_4544, zv_16_4544, zv_17_4544, zv_18_4544, zv_19_4544, zv_20_4544, zv_21_4544, zv_22_4544, zv_23_4544, zv_24_4544, zv_25_4544, zv_26_4544, zv_27_4544, zv_28_4544, zv_29_4544, zv_0_11, zv_1_11, zv_0_160, true_and, and_true, Nat.reduceAdd, zx_128, i1, i2, zi_b0, zi_b1]
      refine ⟨fun h => ?_, fun h => nx _ ?_⟩
      · refine h36 _ _ _ ?_
        simp only [bX12_weightOf_36, zw_0, zw_1, zs_iconst, zb_0, za_1, za_2, za_3, za_4, za_5, za_6, za_7, za_8, za_9, za_10, za_11, za_12, za_13, za_14, true_and, and_true, Nat.reduceAdd]
        exact nx _ (by rw [if_neg (by simp [h])]; rfl)
      · rw [if_pos (by simpa using h), hg k (by omega)]
  refine h0 _ _ _ ?_
  simp only [bX12_weightOf_0, zw_0, zw_1, zs_iconst, zs_istoren2, zs_istoren3, zc_none, zc_int, zc_ref, zc_null, zc_long, zb_0, za_1, za_2, za_3, za_4, za_5, za_6, za_7, za_8, za_9, za_10, za_11, za_12, za_13, za_14, true_and, and_true, Nat.reduceAdd]
  exact loop n 0 (by omega)
theorem zd_ap_mono {b : Nat → Int32} {S : Nat} {k : Nat} (h : zd_ap b S k = false) : ∀ m, k ≤ m → zd_ap b S m = false := by
  intro m
  induction m with
  | zero => intro hk; have : k = 0 := by omega
            subst this; exact h
  | succ m ih =>
    intro hk
    by_cases e : k = m + 1
    · subst e; exact h
    · simp only [zd_ap]; rw [ih (by omega)]; rfl
theorem c_areApart {E : zm_E} (hE : zm_ok E.2.2.1 E.2.2.2.2) (d : Nat) {n S : Nat} (hS : S < 2 ^ 31) {M : zm_M} (hw : zt_wf n (fun i => M.1 1 (90 + i))) (hc : M.1 1 0 = nI n) : zm_R E (d + 2) mX12_areApart [.ref 0, .int (nI S)] M (fun r M' => r = some (.int (zi_b (zd_ap (fun i => M.1 1 (90 + i)) S n))) ∧ M' = M) := by
  refine zX12_areApart hE rfl (fun G h0 h2 h38 h44 => ?_)
  show G 0 [some (.ref 0), some (.int (nI S)), none] [] M
  have hn := hw.1
  obtain ⟨b, hb⟩ : ∃ b, b = (fun i => M.1 1 (90 + i)) := ⟨_, rfl⟩
  have hwb : zt_wf n b := hb ▸ hw
  have hbv : ∀ k, M.1 1 (90 + k) = b k := fun k => by rw [hb]
  have loop : ∀ (f k : Nat), k + f = n ∨ (n = 0 ∧ k = 1 ∧ f = 0) → 1 ≤ k → zd_ap b S k = true → G 2 [some (.ref 0), some (.int (nI S)), some (.int (nI k))] [] M := by
    intro f
    induction f with
    | zero =>
      intro k hk h1 ha
      have hnk : n ≤ k := by omega
      refine h2 _ _ _ ?_
      simp only [bX12_areApart_2, zw_0, zw_1, zs_iloadn2, zs_aloadn0, zs_aloadNn0, zg_12_7, zs_iconst, zs_iaload, zs_icge, zs_iloadn1, zi_12_77, zs_ifeq, zs_bipush, zs_iadd, zs_ireturn, zh_0, zh_1, zh_2, zh_3, zh_4, zt_i, zt_l, zt_r, zt_n, zn_int, zn_b0, zn_b1, zb_0, za_1, za_2, za_3, za_4, za_5, za_6, za_7, za_8, za_9, za_10, za_11, za_12, za_13, za_14, zu_0, zu_1, zu_2, zu_3, zu_4, zu_5, zu_6, zu_7, zu_8, zu_9, zu_10, zu_11, zu_12, zu_13, zu_14, zu_15, zu_16, zu_17, zu_18, zu_19, zu_20, zu_21, zu_22, zu_23, zu_24, zu_25, zu_26, zu_27, zu_28, zu_29, zu_30, zu_90, zv_0_9, zv_1_9, zv_2_9, zv_3_9, zv_4_9, zv_5_9, zv_6_9, zv_7_9, zv_8_9, zv_0_330, zv_0_4544, zv_1_4544, zv_2_4544, zv_3_4544, zv_4_4544, zv_5_4544, zv_6_4544, zv_7_4544, zv_8_4544, zv_9_4544, zv_10_4544, zv_11_4544, zv_12_4544, zv_13_4544, zv_14_4544, zv_15_4544, zv_16_4544, zv_17_4544, zv_18_4544, zv_19_4544, zv_20_4544, zv_21_4544, zv_22_4544, zv_23_4544, zv_24_4544, zv_25_4544, zv_26_4544, zv_27_4544, zv_28_4544, zv_29_4544, zv_0_11, zv_1_11, zv_0_160, true_and, and_true, Nat.reduceAdd, hc]
      refine ⟨fun _ => ?_, fun h => absurd (nI_le hnk (by omega)) h⟩
      refine h44 _ _ _ ?_
      simp only [bX12_areApart_44, zw_0, zw_1, zs_iconst, zs_ireturn, zn_int, zn_b0, zn_b1, zb_0, za_1, za_2, za_3, za_4, za_5, za_6, za_7, za_8, za_9, za_10, za_11, za_12, za_13, za_14, true_and, and_true, Nat.reduceAdd]
      have : zd_ap b S n = true := by
        cases hz : zd_ap b S n with
        | true => rfl
        | false => rw [zd_ap_mono hz k hnk] at ha; exact ha
      rw [← hb, this]
      rfl
    | succ f ih =>
      intro k hk h1 ha
      have hk : k + (f + 1) = n := by omega
      obtain ⟨i1, i2⟩ := zx_ck (k := 90) (p := k) (N := 4544) (by omega) (by decide)
      obtain ⟨j, hj, ej⟩ := hwb.2.2 k (by omega) (by omega)
      have eq : zd_q b k = j := by unfold zd_q; rw [ej, nI_clamp (by omega)]
      have k0 : ¬ k = 0 := by omega
      have go : (S.testBit k && S.testBit j) = false → G 38 [some (.ref 0), some (.int (nI S)), some (.int (nI k))] [] M := by
        intro h
        refine h38 _ _ _ ?_
        simp only [bX12_areApart_38, zw_0, zw_1, zs_iinc2, zs_goto, zc_none, zc_int, zc_ref, zc_null, zc_long, zb_0, za_1, za_2, za_3, za_4, za_5, za_6, za_7, za_8, za_9, za_10, za_11, za_12, za_13, za_14, true_and, and_true, Nat.reduceAdd]
        rw [nI_1]
        refine ih (k + 1) (by omega) (by omega) ?_
        simp only [zd_ap]
        rw [ha, eq, h]; simp
      refine h2 _ _ _ ?_
      simp only [bX12_areApart_2, zw_0, zw_1, zs_iloadn2, zs_aloadn0, zs_aloadNn0, zg_12_7, zs_iconst, zs_iaload, zs_icge, zs_iloadn1, zi_12_77, zs_ifeq, zs_bipush, zs_iadd, zs_ireturn, zh_0, zh_1, zh_2, zh_3, zh_4, zt_i, zt_l, zt_r, zt_n, zn_int, zn_b0, zn_b1, zb_0, za_1, za_2, za_3, za_4, za_5, za_6, za_7, za_8, za_9, za_10, za_11, za_12, za_13, za_14, zu_0, zu_1, zu_2, zu_3, zu_4, zu_5, zu_6, zu_7, zu_8, zu_9, zu_10, zu_11, zu_12, zu_13, zu_14, zu_15, zu_16, zu_17, zu_18, zu_19, zu_20, zu_21, zu_22, zu_23, zu_24, zu_25, zu_26, zu_27, zu_28, zu_29, zu_30, zu_90, zv_0_9, zv_1_9, zv_2_9, zv_3_9, zv_4_9, zv_5_9, zv_6_9, zv_7_9, zv_8_9, zv_0_330, zv_0_4544, zv_1_4544, zv_2_4544, zv_3_4544, zv_4_4544, zv_5_4544, zv_6_4544, zv_7_4544, zv_8_4544, zv_9_4544, zv_10_4544, zv_11_4544, zv_12_4544, zv_13_4544, zv_14_4544, zv_15_4544, zv_16_4544, zv_17_4544, zv_18_4544, zv_19_4544, zv_20_4544, zv_21_4544, zv_22_4544, zv_23_4544, zv_24_4544, zv_25_4544, zv_26_4544, zv_27_4544, zv_28_4544, zv_29_4544, zv_0_11, zv_1_11, zv_0_160, true_and, and_true, Nat.reduceAdd, hc]
      refine ⟨fun h => absurd h (nI_ge (by omega) (by omega)), fun _ => ?_⟩
      refine zm_R_eq (c_has hE d (nI S) (nI k) M) ?_
      rw [zx_has hS (by omega)]
      simp only [bX12_areApart_2, zw_0, zw_1, zs_iloadn2, zs_aloadn0, zs_aloadNn0, zg_12_7, zs_iconst, zs_iaload, zs_icge, zs_iloadn1, zi_12_77, zs_ifeq, zs_bipush, zs_iadd, zs_ireturn, zh_0, zh_1, zh_2, zh_3, zh_4, zt_i, zt_l, zt_r, zt_n, zn_int, zn_b0, zn_b1, zb_0, za_1, za_2, za_3, za_4, za_5, za_6, za_7, za_8, za_9, za_10, za_11, za_12, za_13, za_14, zu_0, zu_1, zu_2, zu_3, zu_4, zu_5, zu_6, zu_7, zu_8, zu_9, zu_10, zu_11, zu_12, zu_13, zu_14, zu_15, zu_16, zu_17, zu_18, zu_19, zu_20, zu_21, zu_22, zu_23, zu_24, zu_25, zu_26, zu_27, zu_28, zu_29, zu_30, zu_90, zv_0_9, zv_1_9, zv_2_9, zv_3_9, zv_4_9, zv_5_9, zv_6_9, zv_7_9, zv_8_9, zv_0_330, zv_0_4544, zv_1_4544, zv_2_4544, zv_3_4544, zv_4_4544, zv_5_4544, zv_6_4544, zv_7_4544, zv_8_4544, zv_9_4544, zv_10_4544, zv_11_4544, zv_12_4544, zv_13_4544, zv_14_4544, zv_15_4544, zv_16_4544, zv_17_4544, zv_18_4544, zv_19_4544, zv_20_4544, zv_21_4544, zv_22_4544, zv_23_4544, zv_24_4544, zv_25_4544, zv_26_4544, zv_27_4544, zv_28_4544, zv_29_4544, zv_0_11, zv_1_11, zv_0_160, true_and, and_true, Nat.reduceAdd, zx_boss, i1, i2, zi_b0, hbv, ej]
      refine ⟨fun h => go (by rw [h]; rfl), fun h => ?_⟩
      refine zm_R_eq (c_has hE d (nI S) (nI j) M) ?_
      rw [zx_has hS (by omega)]
      simp only [bX12_areApart_2, zw_0, zw_1, zs_iloadn2, zs_aloadn0, zs_aloadNn0, zg_12_7, zs_iconst, zs_iaload, zs_icge, zs_iloadn1, zi_12_77, zs_ifeq, zs_bipush, zs_iadd, zs_ireturn, zh_0, zh_1, zh_2, zh_3, zh_4, zt_i, zt_l, zt_r, zt_n, zn_int, zn_b0, zn_b1, zb_0, za_1, za_2, za_3, za_4, za_5, za_6, za_7, za_8, za_9, za_10, za_11, za_12, za_13, za_14, zu_0, zu_1, zu_2, zu_3, zu_4, zu_5, zu_6, zu_7, zu_8, zu_9, zu_10, zu_11, zu_12, zu_13, zu_14, zu_15, zu_16, zu_17, zu_18, zu_19, zu_20, zu_21, zu_22, zu_23, zu_24, zu_25, zu_26, zu_27, zu_28, zu_29, zu_30, zu_90, zv_0_9, zv_1_9, zv_2_9, zv_3_9, zv_4_9, zv_5_9, zv_6_9, zv_7_9, zv_8_9, zv_0_330, zv_0_4544, zv_1_4544, zv_2_4544, zv_3_4544, zv_4_4544, zv_5_4544, zv_6_4544, zv_7_4544, zv_8_4544, zv_9_4544, zv_10_4544, zv_11_4544, zv_12_4544, zv_13_4544, zv_14_4544, zv_15_4544, zv_16_4544, zv_17_4544, zv_18_4544, zv_19_4544, zv_20_4544, zv_21_4544, zv_22_4544, zv_23_4544, zv_24_4544, zv_25_4544, zv_26_4544, zv_27_4544, zv_28_4544, zv_29_4544, zv_0_11, zv_1_11, zv_0_160, true_and, and_true, Nat.reduceAdd, zi_b0]
      refine ⟨fun h2 => go (by rw [h2]; simp), fun h2 => ?_⟩
      have : zd_ap b S (k + 1) = false := by
        simp only [zd_ap]
        rw [eq]
        simp only [Bool.not_eq_false] at h h2
        rw [h, h2]; simp [k0]
      have e : zd_ap (fun i => b i) S n = false := zd_ap_mono this n (by omega)
      rw [e]
      rfl
  refine h0 _ _ _ ?_
  simp only [bX12_areApart_0, zw_0, zw_1, zs_iconst, zs_istoren2, zc_none, zc_int, zc_ref, zc_null, zc_long, zb_0, za_1, za_2, za_3, za_4, za_5, za_6, za_7, za_8, za_9, za_10, za_11, za_12, za_13, za_14, true_and, and_true, Nat.reduceAdd]
  by_cases h0 : n = 0
  · exact loop 0 1 (Or.inr ⟨h0, rfl, rfl⟩) (Nat.le_refl _) rfl
  · exact loop (n - 1) 1 (Or.inl (by omega)) (Nat.le_refl _) rfl
def zd_best (b : Nat → Int32) (g : Nat → Nat) (n N : Nat) : Nat := zd_b (fun S => zd_w g S n) (fun S => zd_ap b S n) N
theorem zd_best_lt {b : Nat → Int32} {g : Nat → Nat} {n : Nat} : ∀ N, 0 < N → zd_best b g n N < N := by
  intro N
  induction N with
  | zero => intro h; omega
  | succ N ih =>
    intro _
    unfold zd_best at ih ⊢
    simp only [zd_b]
    split
    · omega
    · rcases Nat.eq_zero_or_pos N with z | z
      · subst z; simp [zd_b]
      · have := ih z; omega
theorem c_apart {E : zm_E} (hE : zm_ok E.2.2.1 E.2.2.2.2) (d : Nat) {n : Nat} (l : Int32) {M : zm_M} (hw : zt_wf n (fun i => M.1 1 (90 + i))) (hc : M.1 1 0 = nI n) {g : Nat → Nat} (hg : ∀ i, i < n → M.1 1 (128 + i) = nI (g i) ∧ g i ≤ 99) : zm_R E (d + 3) mX12_apart [.ref 0, .int l] M (fun r M' => r = some (.int (if l = 0 then nI (zd_best (fun i => M.1 1 (90 + i)) g n (2 ^ n)) else nI (zd_w g (zd_best (fun i => M.1 1 (90 + i)) g n (2 ^ n)) n))) ∧ M' = M) := by
  refine zX12_apart hE rfl (fun G h0 h4 h39 h45 h57 h58 => ?_)
  show G 0 [some (.ref 0), some (.int l), none, none] [] M
  have hn := hw.1
  have hN : 2 ^ n ≤ 1024 := Nat.pow_le_pow_right (n := 2) (by decide) hn
  have hN1 : 1 ≤ 2 ^ n := Nat.two_pow_pos n
  have e1 : (1 : Int32) <<< (nI n &&& 31) = nI (2 ^ n) := zx_1s n (by omega)
  obtain ⟨b, hb⟩ : ∃ b, b = (fun i => M.1 1 (90 + i)) := ⟨_, rfl⟩
  have hg1 : ∀ i, i < n → M.1 1 (128 + i) = nI (g i) := fun i hi => (hg i hi).1
  have wle : ∀ S, zd_w g S n ≤ 990 := fun S => by have := zd_w_le (S := S) n (fun i hi => (hg i hi).2); omega
  have loop : ∀ (f N : Nat), N + f = 2 ^ n → 1 ≤ N → G 4 [some (.ref 0), some (.int l), some (.int (nI (zd_best b g n N))), some (.int (nI N))] [] M := by
    intro f
    induction f with
    | zero =>
      intro N hNf _
      have hNf : N = 2 ^ n := by omega
      subst hNf
      have fin : ∀ v, v = (if l = 0 then nI (zd_best b g n (2 ^ n)) else nI (zd_w g (zd_best b g n (2 ^ n)) n)) → ∀ l', G 58 l' [.int v] M := by
        intro v hv l'
        refine h58 _ _ _ ?_
        simp only [bX12_apart_58, zw_0, zw_1, zs_ireturn, zn_int, zn_b0, zn_b1, zb_0, za_1, za_2, za_3, za_4, za_5, za_6, za_7, za_8, za_9, za_10, za_11, za_12, za_13, za_14, true_and, and_true, Nat.reduceAdd]
        rw [hv, hb]
      have := zd_best_lt (b := b) (g := g) (n := n) (2 ^ n) (by omega)
      refine h4 _ _ _ ?_
      simp only [bX12_apart_4, zw_0, zw_1, zs_iloadn3, zs_iconst, zs_aloadn0, zs_aloadNn0, zg_12_7, zs_iaload, zs_ishl, zs_icge, zi_12_452, zs_iloadn2, zs_icle, zi_12_455, zs_ifeq, zs_istoren2, zc_none, zc_int, zc_ref, zc_null, zc_long, zh_0, zh_1, zh_2, zh_3, zh_4, zt_i, zt_l, zt_r, zt_n, zb_0, za_1, za_2, za_3, za_4, za_5, za_6, za_7, za_8, za_9, za_10, za_11, za_12, za_13, za_14, zu_0, zu_1, zu_2, zu_3, zu_4, zu_5, zu_6, zu_7, zu_8, zu_9, zu_10, zu_11, zu_12, zu_13, zu_14, zu_15, zu_16, zu_17, zu_18, zu_19, zu_20, zu_21, zu_22, zu_23, zu_24, zu_25, zu_26, zu_27, zu_28, zu_29, zu_30, zu_90, zv_0_9, zv_1_9, zv_2_9, zv_3_9, zv_4_9, zv_5_9, zv_6_9, zv_7_9, zv_8_9, zv_0_330, zv_0_4544, zv_1_4544, zv_2_4544, zv_3_4544, zv_4_4544, zv_5_4544, zv_6_4544, zv_7_4544, zv_8_4544, zv_9_4544, zv_10_4544, zv_11_4544, zv_12_4544, zv_13_4544, zv_14_4544, zv_15_4544, zv_16_4544, zv_17_4544, zv_18_4544, zv_19_4544, zv_20_4544, zv_21_4544, zv_22_4544, zv_23_4544, zv_24_4544, zv_25_4544, zv_26_4544, zv_27_4544, zv_28_4544, zv_29_4544, zv_0_11, zv_1_11, zv_0_160, true_and, and_true, Nat.reduceAdd, hc, e1]
      refine ⟨fun _ => ?_, fun h => absurd (nI_le (Nat.le_refl _) (by omega)) h⟩
      refine h45 _ _ _ ?_
      simp only [bX12_apart_45, zw_0, zw_1, zs_iloadn1, zs_ifeq, zs_aloadn0, zs_aloadNn0, zs_iloadn2, zi_12_452, zs_goto, zh_0, zh_1, zh_2, zh_3, zh_4, zt_i, zt_l, zt_r, zt_n, zb_0, za_1, za_2, za_3, za_4, za_5, za_6, za_7, za_8, za_9, za_10, za_11, za_12, za_13, za_14, true_and, and_true, Nat.reduceAdd]
      refine ⟨fun h => ?_, fun h => ?_⟩
      · refine h57 _ _ _ ?_
        simp only [bX12_apart_57, zw_0, zw_1, zs_iloadn2, zb_0, za_1, za_2, za_3, za_4, za_5, za_6, za_7, za_8, za_9, za_10, za_11, za_12, za_13, za_14, true_and, and_true, Nat.reduceAdd]
        exact fin _ (by rw [if_pos h]) _
      · refine zm_R_eq (c_weightOf hE d hn (by omega) hc hg1) ?_
        simp only [bX12_apart_45, zw_0, zw_1, zs_iloadn1, zs_ifeq, zs_aloadn0, zs_aloadNn0, zs_iloadn2, zi_12_452, zs_goto, zh_0, zh_1, zh_2, zh_3, zh_4, zt_i, zt_l, zt_r, zt_n, zb_0, za_1, za_2, za_3, za_4, za_5, za_6, za_7, za_8, za_9, za_10, za_11, za_12, za_13, za_14, true_and, and_true, Nat.reduceAdd]
        exact fin _ (by rw [if_neg h]) _
    | succ f ih =>
      intro N hNf h1
      have hbl := zd_best_lt (b := b) (g := g) (n := n) N (by omega)
      have next : ∀ v, v = zd_best b g n (N + 1) → G 39 [some (.ref 0), some (.int l), some (.int (nI v)), some (.int (nI N))] [] M := by
        intro v hv
        refine h39 _ _ _ ?_
        simp only [bX12_apart_39, zw_0, zw_1, zs_iinc3, zs_goto, zc_none, zc_int, zc_ref, zc_null, zc_long, zb_0, za_1, za_2, za_3, za_4, za_5, za_6, za_7, za_8, za_9, za_10, za_11, za_12, za_13, za_14, true_and, and_true, Nat.reduceAdd]
        rw [hv, nI_1]
        exact ih (N + 1) (by omega) (by omega)
      refine h4 _ _ _ ?_
      simp only [bX12_apart_4, zw_0, zw_1, zs_iloadn3, zs_iconst, zs_aloadn0, zs_aloadNn0, zg_12_7, zs_iaload, zs_ishl, zs_icge, zi_12_452, zs_iloadn2, zs_icle, zi_12_455, zs_ifeq, zs_istoren2, zc_none, zc_int, zc_ref, zc_null, zc_long, zh_0, zh_1, zh_2, zh_3, zh_4, zt_i, zt_l, zt_r, zt_n, zb_0, za_1, za_2, za_3, za_4, za_5, za_6, za_7, za_8, za_9, za_10, za_11, za_12, za_13, za_14, zu_0, zu_1, zu_2, zu_3, zu_4, zu_5, zu_6, zu_7, zu_8, zu_9, zu_10, zu_11, zu_12, zu_13, zu_14, zu_15, zu_16, zu_17, zu_18, zu_19, zu_20, zu_21, zu_22, zu_23, zu_24, zu_25, zu_26, zu_27, zu_28, zu_29, zu_30, zu_90, zv_0_9, zv_1_9, zv_2_9, zv_3_9, zv_4_9, zv_5_9, zv_6_9, zv_7_9, zv_8_9, zv_0_330, zv_0_4544, zv_1_4544, zv_2_4544, zv_3_4544, zv_4_4544, zv_5_4544, zv_6_4544, zv_7_4544, zv_8_4544, zv_9_4544, zv_10_4544, zv_11_4544, zv_12_4544, zv_13_4544, zv_14_4544, zv_15_4544, zv_16_4544, zv_17_4544, zv_18_4544, zv_19_4544, zv_20_4544, zv_21_4544, zv_22_4544, zv_23_4544, zv_24_4544, zv_25_4544, zv_26_4544, zv_27_4544, zv_28_4544, zv_29_4544, zv_0_11, zv_1_11, zv_0_160, true_and, and_true, Nat.reduceAdd, hc, e1]
      refine ⟨fun h => absurd h (nI_ge (by omega) (by omega)), fun _ => ?_⟩
      refine zm_R_eq (c_weightOf hE d hn (by omega) hc hg1) ?_
      simp only [bX12_apart_4, zw_0, zw_1, zs_iloadn3, zs_iconst, zs_aloadn0, zs_aloadNn0, zg_12_7, zs_iaload, zs_ishl, zs_icge, zi_12_452, zs_iloadn2, zs_icle, zi_12_455, zs_ifeq, zs_istoren2, zc_none, zc_int, zc_ref, zc_null, zc_long, zh_0, zh_1, zh_2, zh_3, zh_4, zt_i, zt_l, zt_r, zt_n, zb_0, za_1, za_2, za_3, za_4, za_5, za_6, za_7, za_8, za_9, za_10, za_11, za_12, za_13, za_14, zu_0, zu_1, zu_2, zu_3, zu_4, zu_5, zu_6, zu_7, zu_8, zu_9, zu_10, zu_11, zu_12, zu_13, zu_14, zu_15, zu_16, zu_17, zu_18, zu_19, zu_20, zu_21, zu_22, zu_23, zu_24, zu_25, zu_26, zu_27, zu_28, zu_29, zu_30, zu_90, zv_0_9, zv_1_9, zv_2_9, zv_3_9, zv_4_9, zv_5_9, zv_6_9, zv_7_9, zv_8_9, zv_0_330, zv_0_4544, zv_1_4544, zv_2_4544, zv_3_4544, zv_4_4544, zv_5_4544, zv_6_4544, zv_7_4544, zv_8_4544, zv_9_4544, zv_10_4544, zv_11_4544, zv_12_4544, zv_13_4544, zv_14_4544, zv_15_4544, zv_16_4544, zv_17_4544, zv_18_4544, zv_19_4544, zv_20_4544, zv_21_4544, zv_22_4544, zv_23_4544, zv_24_4544, zv_25_4544, zv_26_4544, zv_27_4544, zv_28_4544, zv_29_4544, zv_0_11, zv_1_11, zv_0_160, true_and, and_true, Nat.reduceAdd]
      refine zm_R_eq (c_weightOf hE d hn (by omega) hc hg1) ?_
      have w1 := wle N
      have w2 := wle (zd_best b g n N)
      have le : (nI (zd_w g N n) ≤ nI (zd_w g (zd_best b g n N) n)) = ¬ (zd_w g (zd_best b g n N) n < zd_w g N n) := propext ((nI_leI (by omega) (by omega)).trans Nat.not_lt.symm)
      simp only [bX12_apart_4, zw_0, zw_1, zs_iloadn3, zs_iconst, zs_aloadn0, zs_aloadNn0, zg_12_7, zs_iaload, zs_ishl, zs_icge, zi_12_452, zs_iloadn2, zs_icle, zi_12_455, zs_ifeq, zs_istoren2, zc_none, zc_int, zc_ref, zc_null, zc_long, zh_0, zh_1, zh_2, zh_3, zh_4, zt_i, zt_l, zt_r, zt_n, zb_0, za_1, za_2, za_3, za_4, za_5, za_6, za_7, za_8, za_9, za_10, za_11, za_12, za_13, za_14, zu_0, zu_1, zu_2, zu_3, zu_4, zu_5, zu_6, zu_7, zu_8, zu_9, zu_10, zu_11, zu_12, zu_13, zu_14, zu_15, zu_16, zu_17, zu_18, zu_19, zu_20, zu_21, zu_22, zu_23, zu_24, zu_25, zu_26, zu_27, zu_28, zu_29, zu_30, zu_90, zv_0_9, zv_1_9, zv_2_9, zv_3_9, zv_4_9, zv_5_9, zv_6_9, zv_7_9, zv_8_9, zv_0_330, zv_0_4544, zv_1_4544, zv_2_4544, zv_3_4544, zv_4_4544, zv_5_4544, zv_6_4544, zv_7_4544, zv_8_4544, zv_9_4544, zv_10_4544, zv_11_4544, zv_12_4544, zv_13_4544, zv_14_4544, zv_15_4544, zv_16_4544, zv_17_4544, zv_18_4544, zv_19_4544, zv_20_4544, zv_21_4544, zv_22_4544, zv_23_4544, zv_24_4544, zv_25_4544, zv_26_4544, zv_27_4544, zv_28_4544, zv_29_4544, zv_0_11, zv_1_11, zv_0_160, true_and, and_true, Nat.reduceAdd, le]
      refine ⟨fun h => next _ ?_, fun h => ?_⟩
      · unfold zd_best; simp only [zd_b]; rw [if_neg (fun z => h z.1)]
      · refine zm_R_eq (c_areApart hE d (by omega) hw hc) ?_
        rw [← hb]
        simp only [bX12_apart_4, zw_0, zw_1, zs_iloadn3, zs_iconst, zs_aloadn0, zs_aloadNn0, zg_12_7, zs_iaload, zs_ishl, zs_icge, zi_12_452, zs_iloadn2, zs_icle, zi_12_455, zs_ifeq, zs_istoren2, zc_none, zc_int, zc_ref, zc_null, zc_long, zh_0, zh_1, zh_2, zh_3, zh_4, zt_i, zt_l, zt_r, zt_n, zb_0, za_1, za_2, za_3, za_4, za_5, za_6, za_7, za_8, za_9, za_10, za_11, za_12, za_13, za_14, zu_0, zu_1, zu_2, zu_3, zu_4, zu_5, zu_6, zu_7, zu_8, zu_9, zu_10, zu_11, zu_12, zu_13, zu_14, zu_15, zu_16, zu_17, zu_18, zu_19, zu_20, zu_21, zu_22, zu_23, zu_24, zu_25, zu_26, zu_27, zu_28, zu_29, zu_30, zu_90, zv_0_9, zv_1_9, zv_2_9, zv_3_9, zv_4_9, zv_5_9, zv_6_9, zv_7_9, zv_8_9, zv_0_330, zv_0_4544, zv_1_4544, zv_2_4544, zv_3_4544, zv_4_4544, zv_5_4544, zv_6_4544, zv_7_4544, zv_8_4544, zv_9_4544, zv_10_4544, zv_11_4544, zv_12_4544, zv_13_4544, zv_14_4544, zv_15_4544, zv_16_4544, zv_17_4544, zv_18_4544, zv_19_4544, zv_20_4544, zv_21_4544, zv_22_4544, zv_23_4544, zv_24_4544, zv_25_4544, zv_26_4544, zv_27_4544, zv_28_4544, zv_29_4544, zv_0_11, zv_1_11, zv_0_160, true_and, and_true, Nat.reduceAdd, zi_b0]
        refine ⟨fun h2 => next _ ?_, fun h2 => next _ ?_⟩
        · unfold zd_best; simp only [zd_b]; rw [if_neg (fun z => by rw [h2] at z; exact absurd z.2 (by decide))]
        · have h3 : zd_w g (zd_best b g n N) n < zd_w g N n := by omega
          unfold zd_best at h3 ⊢; simp only [zd_b]; rw [if_pos ⟨h3, by simpa using h2⟩]
  refine h0 _ _ _ ?_
  simp only [bX12_apart_0, zw_0, zw_1, zs_iconst, zs_istoren2, zs_istoren3, zc_none, zc_int, zc_ref, zc_null, zc_long, zb_0, za_1, za_2, za_3, za_4, za_5, za_6, za_7, za_8, za_9, za_10, za_11, za_12, za_13, za_14, true_and, and_true, Nat.reduceAdd]
  have z1 : zd_best b g n 1 = 0 := by have := zd_best_lt (b := b) (g := g) (n := n) 1 (by omega); omega
  have := loop (2 ^ n - 1) 1 (by omega) (by omega)
  rw [z1] at this
  exact this
theorem c8_weightOf {E : zm_E} (hE : zm_ok E.2.2.1 E.2.2.2.2) (d : Nat) {n S : Nat} (hn : n ≤ 10) (hS : S < 2 ^ 31) {M : zm_M} (hc : M.1 17 0 = nI n) {g : Nat → Nat} (hg : ∀ i, i < n → M.1 22 i = nI (g i)) : zm_R E (d + 1) mX8_weightOf [.ref 752, .int (nI S)] M (fun r M' => r = some (.int (nI (zd_w g S n))) ∧ M' = M) := by
  refine zX8_weightOf hE rfl (fun G h0 h4 h39 => ?_)
  show G 0 [some (.ref 752), some (.int (nI S)), none, none] [] M
  have loop : ∀ (f k : Nat), k + f = n → G 4 [some (.ref 752), some (.int (nI S)), some (.int (nI (zd_w g S k))), some (.int (nI k))] [] M := by
    intro f
    induction f with
    | zero =>
      intro k hk
      have hk : k = n := by omega
      subst hk
      refine h4 _ _ _ ?_
      simp only [bX8_weightOf_4, zw_0, zw_1, zs_iloadn3, zs_aloadn0, zs_aloadNn0, zg_8_24, zg_8_34, zs_icge, zs_iloadn2, zs_iloadn1, zs_ishr, zs_iconst, zs_iand, zg_8_53, zs_iaload, zs_imul, zs_iadd, zs_istoren2, zs_iinc3, zs_goto, zc_none, zc_int, zc_ref, zc_null, zc_long, zb_15, zb_16, zb_17, za_18, za_19, za_20, za_21, za_22, zb_23, za_24, za_25, za_26, za_27, za_28, za_29, za_30, za_31, za_32, zb_35, za_36, za_37, za_38, za_39, za_40, zb_377, zb_378, za_379, za_380, za_381, za_382, za_383, zb_384, za_385, za_386, za_387, za_388, za_389, za_390, za_391, za_392, za_393, zb_396, za_397, za_398, za_399, za_400, za_401, zb_738, za_739, za_740, za_741, za_742, za_743, za_744, za_745, za_746, za_747, zb_748, za_749, za_750, zb_751, zb_752, za_753, za_754, za_755, za_756, zb_757, za_758, za_759, za_760, zb_761, za_763, za_764, za_765, zu_0, zu_1, zu_2, zu_3, zu_4, zu_5, zu_6, zu_7, zu_8, zu_9, zu_10, zu_11, zu_12, zu_13, zu_14, zu_15, zu_16, zu_17, zu_18, zu_19, zu_20, zu_21, zu_22, zu_23, zu_24, zu_25, zu_26, zu_27, zu_28, zu_29, zu_30, zu_90, zv_0_9, zv_1_9, zv_2_9, zv_3_9, zv_4_9, zv_5_9, zv_6_9, zv_7_9, zv_8_9, zv_0_330, zv_0_4544, zv_1_4544, zv_2_4544, zv_3_4544, zv_4_4544, zv_5_4544, zv_6_4544, zv_7_4544, zv_8_4544, zv_9_4544, zv_10_4544, zv_11_4544, zv_12_4544, zv_13_4544, zv_14_4544, zv_15_4544, zv_16_4544, zv_17_4544, zv_18_4544, zv_19_4544, zv_20_4544, zv_21_4544, zv_22_4544, zv_23_4544, zv_24_4544, zv_25_4544, zv_26_4544, zv_27_4544, zv_28_4544, zv_29_4544, zv_0_11, zv_1_11, zv_0_160, true_and, and_true, Nat.reduceAdd, hc]
      refine ⟨fun _ => ?_, fun h => absurd (nI_le (Nat.le_refl _) (by omega)) h⟩
      refine h39 _ _ _ ?_
      simp only [bX8_weightOf_39, zw_0, zw_1, zs_iloadn2, zs_ireturn, zn_int, zn_b0, zn_b1, zb_15, zb_16, zb_17, za_18, za_19, za_20, za_21, za_22, zb_23, za_24, za_25, za_26, za_27, za_28, za_29, za_30, za_31, za_32, zb_35, za_36, za_37, za_38, za_39, za_40, zb_377, zb_378, za_379, za_380, za_381, za_382, za_383, zb_384, za_385, za_386, za_387, za_388, za_389, za_390, za_391, za_392, za_393, zb_396, za_397, za_398, za_399, za_400, za_401, zb_738, za_739, za_740, za_741, za_742, za_743, za_744, za_745, za_746, za_747, zb_748, za_749, za_750, zb_751, zb_752, za_753, za_754, za_755, za_756, zb_757, za_758, za_759, za_760, zb_761, za_763, za_764, za_765, true_and, and_true, Nat.reduceAdd]
    | succ f ih =>
      intro k hk
      have i1 : vp_in (nI k) 10 := vp_in_nI (by omega) (by decide)
      have i2 : (nI k).toNatClampNeg = k := nI_clamp (by omega)
      have eb := zx_bit (S := S) (q := k) hS (by omega)
      have gk := hg k (by omega)
      refine h4 _ _ _ ?_
      simp only [bX8_weightOf_4, zw_0, zw_1, zs_iloadn3, zs_aloadn0, zs_aloadNn0, zg_8_24, zg_8_34, zs_icge, zs_iloadn2, zs_iloadn1, zs_ishr, zs_iconst, zs_iand, zg_8_53, zs_iaload, zs_imul, zs_iadd, zs_istoren2, zs_iinc3, zs_goto, zc_none, zc_int, zc_ref, zc_null, zc_long, zb_15, zb_16, zb_17, za_18, za_19, za_20, za_21, za_22, zb_23, za_24, za_25, za_26, za_27, za_28, za_29, za_30, za_31, za_32, zb_35, za_36, za_37, za_38, za_39, za_40, zb_377, zb_378, za_379, za_380, za_381, za_382, za_383, zb_384, za_385, za_386, za_387, za_388, za_389, za_390, za_391, za_392, za_393, zb_396, za_397, za_398, za_399, za_400, za_401, zb_738, za_739, za_740, za_741, za_742, za_743, za_744, za_745, za_746, za_747, zb_748, za_749, za_750, zb_751, zb_752, za_753, za_754, za_755, za_756, zb_757, za_758, za_759, za_760, zb_761, za_763, za_764, za_765, zu_0, zu_1, zu_2, zu_3, zu_4, zu_5, zu_6, zu_7, zu_8, zu_9, zu_10, zu_11, zu_12, zu_13, zu_14, zu_15, zu_16, zu_17, zu_18, zu_19, zu_20, zu_21, zu_22, zu_23, zu_24, zu_25, zu_26, zu_27, zu_28, zu_29, zu_30, zu_90, zv_0_9, zv_1_9, zv_2_9, zv_3_9, zv_4_9, zv_5_9, zv_6_9, zv_7_9, zv_8_9, zv_0_330, zv_0_4544, zv_1_4544, zv_2_4544, zv_3_4544, zv_4_4544, zv_5_4544, zv_6_4544, zv_7_4544, zv_8_4544, zv_9_4544, zv_10_4544, zv_11_4544, zv_12_4544, zv_13_4544, zv_14_4544, zv_15_4544, zv_16_4544, zv_17_4544, zv_18_4544, zv_19_4544, zv_20_4544, zv_21_4544, zv_22_4544, zv_23_4544, zv_24_4544, zv_25_4544, zv_26_4544, zv_27_4544, zv_28_4544, zv_29_4544, zv_0_11, zv_1_11, zv_0_160, true_and, and_true, Nat.reduceAdd, hc, i1, i2, eb, gk]
      refine ⟨fun h => absurd h (nI_ge (by omega) (by omega)), fun _ => ?_⟩
      have e : nI (zd_w g S k) + (if S.testBit k = true then (1 : Int32) else 0) * nI (g k) = nI (zd_w g S (k + 1)) := by
        simp only [zd_w]
        by_cases c : S.testBit k = true
        · rw [if_pos c, if_pos c, Int32.one_mul, nI_add]
        · rw [if_neg c, if_neg c, Int32.zero_mul, Int32.add_zero, Nat.add_zero]
      rw [e, nI_1]
      exact ih (k + 1) (by omega)
  refine h0 _ _ _ ?_
  simp only [bX8_weightOf_0, zw_0, zw_1, zs_iconst, zs_istoren2, zs_istoren3, zc_none, zc_int, zc_ref, zc_null, zc_long, zb_15, zb_16, zb_17, za_18, za_19, za_20, za_21, za_22, zb_23, za_24, za_25, za_26, za_27, za_28, za_29, za_30, za_31, za_32, zb_35, za_36, za_37, za_38, za_39, za_40, zb_377, zb_378, za_379, za_380, za_381, za_382, za_383, zb_384, za_385, za_386, za_387, za_388, za_389, za_390, za_391, za_392, za_393, zb_396, za_397, za_398, za_399, za_400, za_401, zb_738, za_739, za_740, za_741, za_742, za_743, za_744, za_745, za_746, za_747, zb_748, za_749, za_750, zb_751, zb_752, za_753, za_754, za_755, za_756, zb_757, za_758, za_759, za_760, zb_761, za_763, za_764, za_765, true_and, and_true, Nat.reduceAdd]
  exact loop n 0 (by omega)
theorem c8_heaviestApart {E : zm_E} (hE : zm_ok E.2.2.1 E.2.2.2.2) (d : Nat) {n : Nat} {M : zm_M} (hw : zt_wf n (M.1 18)) (hc : M.1 17 0 = nI n) {g : Nat → Nat} (hg : ∀ i, i < n → M.1 22 i = nI (g i) ∧ g i ≤ 99) : zm_R E (d + 1) mX8_heaviestApart [.ref 752] M (fun r M' => r = some (.int (nI (zd_best (M.1 18) g n (2 ^ n)))) ∧ zf [754, 755] M M') := by
  refine zX8_heaviestApart hE rfl (fun G h0 h12 h14 h61 h71 h130 => ?_)
  show G 0 [some (.ref 752), none, none] [] M
  have hn := hw.1
  have hN : 2 ^ n ≤ 1024 := Nat.pow_le_pow_right (n := 2) (by decide) hn
  refine h0 _ _ _ ?_
  simp only [bX8_heaviestApart_0, zw_0, zw_1, zs_aloadn0, zs_aloadNn0, zg_8_24, zg_8_34, zs_ifne, zs_iconst, zs_ireturn, zn_int, zn_b0, zn_b1, zb_15, zb_16, zb_17, za_18, za_19, za_20, za_21, za_22, zb_23, za_24, za_25, za_26, za_27, za_28, za_29, za_30, za_31, za_32, zb_35, za_36, za_37, za_38, za_39, za_40, zb_377, zb_378, za_379, za_380, za_381, za_382, za_383, zb_384, za_385, za_386, za_387, za_388, za_389, za_390, za_391, za_392, za_393, zb_396, za_397, za_398, za_399, za_400, za_401, zb_738, za_739, za_740, za_741, za_742, za_743, za_744, za_745, za_746, za_747, zb_748, za_749, za_750, zb_751, zb_752, za_753, za_754, za_755, za_756, zb_757, za_758, za_759, za_760, zb_761, za_763, za_764, za_765, true_and, and_true, Nat.reduceAdd, hc]
  refine And.comm.mp ⟨fun hz => ?_, fun hnz => ?_⟩
  · have hz : n = 0 := (nI_eq (b := 0) (by omega) (by decide)).mp hz
    subst hz
    exact ⟨by have := zd_best_lt (b := M.1 18) (g := g) (n := 0) (2 ^ 0) (by decide)
              have : zd_best (M.1 18) g 0 (2 ^ 0) = 0 := by omega
              rw [this]; rfl, zf_refl⟩
  have hn0 : 0 < n := by
    rcases Nat.eq_zero_or_pos n with z | z
    · rw [z] at hnz; exact absurd rfl hnz
    · exact z
  have fin : ∀ (M' : zm_M) (l1 l2 : Option Value), zf [754, 755] M M' → (M'.1 754 0).toInt = (zd_st (M.1 18) g n (n - 1)).1 0 → (M'.1 755 0).toInt = (zd_st (M.1 18) g n (n - 1)).2 0 → G 130 [some (.ref 752), l1, l2] [] M' := by
    intro M' l1 l2 f1 f2 f3
    have v0 : vp_in 0 10 := vp_in_nI (n := 0) (by omega) (by decide)
    refine h130 _ _ _ ?_
    simp only [bX8_heaviestApart_130, zw_0, zw_1, zs_aloadn0, zs_aloadNn0, zg_8_15, zs_iconst, zs_iaload, zg_8_18, zi_8_56, zs_ineg, zs_sipush, zs_iand, zs_ireturn, zh_0, zh_1, zh_2, zh_3, zh_4, zt_i, zt_l, zt_r, zt_n, zn_int, zn_b0, zn_b1, zb_15, zb_16, zb_17, za_18, za_19, za_20, za_21, za_22, zb_23, za_24, za_25, za_26, za_27, za_28, za_29, za_30, za_31, za_32, zb_35, za_36, za_37, za_38, za_39, za_40, zb_377, zb_378, za_379, za_380, za_381, za_382, za_383, zb_384, za_385, za_386, za_387, za_388, za_389, za_390, za_391, za_392, za_393, zb_396, za_397, za_398, za_399, za_400, za_401, zb_738, za_739, za_740, za_741, za_742, za_743, za_744, za_745, za_746, za_747, zb_748, za_749, za_750, zb_751, zb_752, za_753, za_754, za_755, za_756, zb_757, za_758, za_759, za_760, zb_761, za_763, za_764, za_765, zu_0, zu_1, zu_2, zu_3, zu_4, zu_5, zu_6, zu_7, zu_8, zu_9, zu_10, zu_11, zu_12, zu_13, zu_14, zu_15, zu_16, zu_17, zu_18, zu_19, zu_20, zu_21, zu_22, zu_23, zu_24, zu_25, zu_26, zu_27, zu_28, zu_29, zu_30, zu_90, zv_0_9, zv_1_9, zv_2_9, zv_3_9, zv_4_9, zv_5_9, zv_6_9, zv_7_9, zv_8_9, zv_0_330, zv_0_4544, zv_1_4544, zv_2_4544, zv_3_4544, zv_4_4544, zv_5_4544, zv_6_4544, zv_7_4544, zv_8_4544, zv_9_4544, zv_10_4544, zv_11_4544, zv_12_4544, zv_13_4544, zv_14_4544, zv_15_4544, zv_16_4544, zv_17_4544, zv_18_4544, zv_19_4544, zv_20_4544, zv_21_4544, zv_22_4544, zv_23_4544, zv_24_4544, zv_25_4544, zv_26_4544, zv_27_4544, zv_28_4544, zv_29_4544, zv_0_11, zv_1_11, zv_0_160, true_and, and_true, Nat.reduceAdd, v0]
    refine ⟨?_, f1⟩
    have hm := zx_maxI f2 f3
    rw [zd_main hw hn0 g] at hm
    congr 2
    have hbl := zd_best_lt (b := M.1 18) (g := g) (n := n) (2 ^ n) (Nat.two_pow_pos n)
    have hwl := zd_w_le (g := g) (S := zd_best (M.1 18) g n (2 ^ n)) n (fun i hi => (hg i hi).2)
    refine zx_mod10 (S := zd_best (M.1 18) g n (2 ^ n)) (K := - (zd_w g (zd_best (M.1 18) g n (2 ^ n)) n : Int)) (by omega) ?_
    have hm : (if M'.1 754 0 < M'.1 755 0 then M'.1 755 0 else M'.1 754 0).toInt = (zd_w g (zd_best (M.1 18) g n (2 ^ n)) n : Int) * 1024 - (zd_best (M.1 18) g n (2 ^ n) : Int) := hm
    rw [Int32.toInt_neg, hm, Int.bmod_eq_of_le (by omega) (by omega)]
    omega
  have loop2 : ∀ (k : Nat) (M' : zm_M) (l2 : Option Value), k < n → zf [754, 755] M M' → (∀ p, p < n → (M'.1 754 p).toInt = (zd_st (M.1 18) g n (n - 1 - k)).1 p ∧ (M'.1 755 p).toInt = (zd_st (M.1 18) g n (n - 1 - k)).2 p) → G 71 [some (.ref 752), some (.int (nI k)), l2] [] M' := by
    intro k
    induction k with
    | zero =>
      intro M' l2 hk f1 f2
      refine h71 _ _ _ ?_
      simp only [bX8_heaviestApart_71, zw_0, zw_1, zs_iloadn1, zs_ifle, zs_aloadn0, zs_aloadNn0, zg_8_24, zg_8_40, zs_iaload, zs_istoren2, zg_8_15, zs_iloadn2, zs_dup2, zg_8_18, zs_iadd, zs_iastore, zi_8_56, zs_iinc1, zs_goto, zc_none, zc_int, zc_ref, zc_null, zc_long, zh_0, zh_1, zh_2, zh_3, zh_4, zt_i, zt_l, zt_r, zt_n, zb_15, zb_16, zb_17, za_18, za_19, za_20, za_21, za_22, zb_23, za_24, za_25, za_26, za_27, za_28, za_29, za_30, za_31, za_32, zb_35, za_36, za_37, za_38, za_39, za_40, zb_377, zb_378, za_379, za_380, za_381, za_382, za_383, zb_384, za_385, za_386, za_387, za_388, za_389, za_390, za_391, za_392, za_393, zb_396, za_397, za_398, za_399, za_400, za_401, zb_738, za_739, za_740, za_741, za_742, za_743, za_744, za_745, za_746, za_747, zb_748, za_749, za_750, zb_751, zb_752, za_753, za_754, za_755, za_756, zb_757, za_758, za_759, za_760, zb_761, za_763, za_764, za_765, zu_0, zu_1, zu_2, zu_3, zu_4, zu_5, zu_6, zu_7, zu_8, zu_9, zu_10, zu_11, zu_12, zu_13, zu_14, zu_15, zu_16, zu_17, zu_18, zu_19, zu_20, zu_21, zu_22, zu_23, zu_24, zu_25, zu_26, zu_27, zu_28, zu_29, zu_30, zu_90, zv_0_9, zv_1_9, zv_2_9, zv_3_9, zv_4_9, zv_5_9, zv_6_9, zv_7_9, zv_8_9, zv_0_330, zv_0_4544, zv_1_4544, zv_2_4544, zv_3_4544, zv_4_4544, zv_5_4544, zv_6_4544, zv_7_4544, zv_8_4544, zv_9_4544, zv_10_4544, zv_11_4544, zv_12_4544, zv_13_4544, zv_14_4544, zv_15_4544, zv_16_4544, zv_17_4544, zv_18_4544, zv_19_4544, zv_20_4544, zv_21_4544, zv_22_4544, zv_23_4544, zv_24_4544, zv_25_4544, zv_26_4544, zv_27_4544, zv_28_4544, zv_29_4544, zv_0_11, zv_1_11, zv_0_160, true_and, and_true, Nat.reduceAdd]
      exact ⟨fun _ => fin M' _ _ f1 (f2 0 hn0).1 (f2 0 hn0).2, fun h => absurd (by decide) h⟩
    | succ k ih =>
      intro M' l2 hk f1 f2
      have e18 : M'.1 18 = M.1 18 := (f1 18 (by decide)).1
      obtain ⟨q, hq, eq⟩ := hw.2.2 (k + 1) (by omega) hk
      have eq' : M'.1 18 (k + 1) = nI q := by rw [e18]; exact eq
      have i1 : vp_in (nI (k + 1)) 10 := vp_in_nI (by omega) (by decide)
      have i2 : (nI (k + 1)).toNatClampNeg = k + 1 := nI_clamp (by omega)
      have i3 : vp_in (nI q) 10 := vp_in_nI (by omega) (by decide)
      have i4 : (nI q).toNatClampNeg = q := nI_clamp (by omega)
      refine h71 _ _ _ ?_
      simp only [bX8_heaviestApart_71, zw_0, zw_1, zs_iloadn1, zs_ifle, zs_aloadn0, zs_aloadNn0, zg_8_24, zg_8_40, zs_iaload, zs_istoren2, zg_8_15, zs_iloadn2, zs_dup2, zg_8_18, zs_iadd, zs_iastore, zi_8_56, zs_iinc1, zs_goto, zc_none, zc_int, zc_ref, zc_null, zc_long, zh_0, zh_1, zh_2, zh_3, zh_4, zt_i, zt_l, zt_r, zt_n, zb_15, zb_16, zb_17, za_18, za_19, za_20, za_21, za_22, zb_23, za_24, za_25, za_26, za_27, za_28, za_29, za_30, za_31, za_32, zb_35, za_36, za_37, za_38, za_39, za_40, zb_377, zb_378, za_379, za_380, za_381, za_382, za_383, zb_384, za_385, za_386, za_387, za_388, za_389, za_390, za_391, za_392, za_393, zb_396, za_397, za_398, za_399, za_400, za_401, zb_738, za_739, za_740, za_741, za_742, za_743, za_744, za_745, za_746, za_747, zb_748, za_749, za_750, zb_751, zb_752, za_753, za_754, za_755, za_756, zb_757, za_758, za_759, za_760, zb_761, za_763, za_764, za_765, zu_0, zu_1, zu_2, zu_3, zu_4, zu_5, zu_6, zu_7, zu_8, zu_9, zu_10, zu_11, zu_12, zu_13, zu_14, zu_15, zu_16, zu_17, zu_18, zu_19, zu_20, zu_21, zu_22, zu_23, zu_24, zu_25, zu_26, zu_27, zu_28, zu_29, zu_30, zu_90, zv_0_9, zv_1_9, zv_2_9, zv_3_9, zv_4_9, zv_5_9, zv_6_9, zv_7_9, zv_8_9, zv_0_330, zv_0_4544, zv_1_4544, zv_2_4544, zv_3_4544, zv_4_4544, zv_5_4544, zv_6_4544, zv_7_4544, zv_8_4544, zv_9_4544, zv_10_4544, zv_11_4544, zv_12_4544, zv_13_4544, zv_14_4544, zv_15_4544, zv_16_4544, zv_17_4544, zv_18_4544, zv_19_4544, zv_20_4544, zv_21_4544, zv_22_4544, zv_23_4544, zv_24_4544, zv_25_4544, zv_26_4544, zv_27_4544, zv_28_4544, zv_29_4544, zv_0_11, zv_1_11, zv_0_160, true_and, and_true, Nat.reduceAdd, i1, i2, eq', i3, i4]
      refine ⟨fun h => absurd h (nI_nle (by omega) (by omega)), fun _ => ?_⟩
      rw [pk_m1]
      have es : n - 1 - k = (n - 1 - (k + 1)) + 1 := by omega
      have eJ : n - 1 - (n - 1 - (k + 1)) = k + 1 := by omega
      have zq : zd_q (M.1 18) (k + 1) = q := by unfold zd_q; rw [eq, nI_clamp (by omega)]
      have hbd := zd_st_bd (b := M.1 18) (g := g) hn (fun i hi => (hg i hi).2) (n - 1 - (k + 1)) (by omega)
      have hpw : 2 ^ (n - 1 - (k + 1)) ≤ 2 ^ 9 := Nat.pow_le_pow_right (by decide) (by omega)
      obtain ⟨a1, a2, a3, a4⟩ := hbd q (by omega)
      obtain ⟨c1, c2, c3, c4⟩ := hbd (k + 1) hk
      obtain ⟨w1, w2⟩ := f2 q (by omega)
      obtain ⟨w3, w4⟩ := f2 (k + 1) hk
      have neq : ¬ k + 1 = q := by omega
      refine ih _ _ (by omega) (zf_wi (zf_wi f1 (by decide)) (by decide)) (fun p hp => ?_)
      obtain ⟨u1, u2⟩ := f2 p hp
      rw [es]
      simp only [zd_st, eJ, zq]
      generalize zd_st (M.1 18) g n (n - 1 - (k + 1)) = st at *
      generalize 2 ^ (n - 1 - (k + 1)) = X at *
      refine ⟨?_, ?_⟩
      · rw [zm_wi_other (by decide), zm_wi_same]
        by_cases c : p = q
        · subst c
          rw [if_pos rfl, if_pos rfl]
          exact zx_addI w1 w4 (by omega) (by omega)
        · rw [if_neg c, if_neg c]; exact u1
      · rw [zm_wi_same]
        by_cases c : p = q
        · subst c
          rw [if_pos rfl, if_pos rfl]
          have m1 : (zm_wi M' 754 p (M'.1 754 p + M'.1 755 (k + 1))).1 755 = M'.1 755 := zm_wi_other (by decide)
          have m2 : (zm_wi M' 754 p (M'.1 754 p + M'.1 755 (k + 1))).1 754 (k + 1) = M'.1 754 (k + 1) := by rw [zm_wi_same, if_neg neq]
          rw [m1, m2]
          exact zx_addI w2 (zx_maxI w3 w4) (by omega) (by omega)
        · rw [if_neg c, if_neg c, zm_wi_other (by decide)]; exact u2
  have loop : ∀ (f k : Nat) (M' : zm_M), k + f = n → zf [754, 755] M M' → (∀ p, p < k → (M'.1 754 p).toInt = (zd_st (M.1 18) g n 0).1 p ∧ (M'.1 755 p).toInt = 0) → G 14 [some (.ref 752), some (.int (nI k)), none] [] M' := by
    intro f
    induction f with
    | zero =>
      intro k M' hk f1 f2
      have hk : k = n := by omega
      subst hk
      have hc' : M'.1 17 0 = nI k := by rw [(f1 17 (by decide)).1]; exact hc
      refine h14 _ _ _ ?_
      simp only [bX8_heaviestApart_14, zw_0, zw_1, zs_iloadn1, zs_aloadn0, zs_aloadNn0, zg_8_24, zg_8_34, zs_icge, zg_8_15, zg_8_53, zs_iaload, zs_sipush, zs_imul, zs_iconst, zs_ishl, zs_isub, zs_iastore, zg_8_18, zs_iinc1, zs_goto, zc_none, zc_int, zc_ref, zc_null, zc_long, zb_15, zb_16, zb_17, za_18, za_19, za_20, za_21, za_22, zb_23, za_24, za_25, za_26, za_27, za_28, za_29, za_30, za_31, za_32, zb_35, za_36, za_37, za_38, za_39, za_40, zb_377, zb_378, za_379, za_380, za_381, za_382, za_383, zb_384, za_385, za_386, za_387, za_388, za_389, za_390, za_391, za_392, za_393, zb_396, za_397, za_398, za_399, za_400, za_401, zb_738, za_739, za_740, za_741, za_742, za_743, za_744, za_745, za_746, za_747, zb_748, za_749, za_750, zb_751, zb_752, za_753, za_754, za_755, za_756, zb_757, za_758, za_759, za_760, zb_761, za_763, za_764, za_765, zu_0, zu_1, zu_2, zu_3, zu_4, zu_5, zu_6, zu_7, zu_8, zu_9, zu_10, zu_11, zu_12, zu_13, zu_14, zu_15, zu_16, zu_17, zu_18, zu_19, zu_20, zu_21, zu_22, zu_23, zu_24, zu_25, zu_26, zu_27, zu_28, zu_29, zu_30, zu_90, zv_0_9, zv_1_9, zv_2_9, zv_3_9, zv_4_9, zv_5_9, zv_6_9, zv_7_9, zv_8_9, zv_0_330, zv_0_4544, zv_1_4544, zv_2_4544, zv_3_4544, zv_4_4544, zv_5_4544, zv_6_4544, zv_7_4544, zv_8_4544, zv_9_4544, zv_10_4544, zv_11_4544, zv_12_4544, zv_13_4544, zv_14_4544, zv_15_4544, zv_16_4544, zv_17_4544, zv_18_4544, zv_19_4544, zv_20_4544, zv_21_4544, zv_22_4544, zv_23_4544, zv_24_4544, zv_25_4544, zv_26_4544, zv_27_4544, zv_28_4544, zv_29_4544, zv_0_11, zv_1_11, zv_0_160, true_and, and_true, Nat.reduceAdd, hc']
      refine ⟨fun _ => ?_, fun h => absurd (nI_le (Nat.le_refl _) (by omega)) h⟩
      refine h61 _ _ _ ?_
      simp only [bX8_heaviestApart_61, zw_0, zw_1, zs_aloadn0, zs_aloadNn0, zg_8_24, zg_8_34, zs_iconst, zs_isub, zs_istoren1, zc_none, zc_int, zc_ref, zc_null, zc_long, zb_15, zb_16, zb_17, za_18, za_19, za_20, za_21, za_22, zb_23, za_24, za_25, za_26, za_27, za_28, za_29, za_30, za_31, za_32, zb_35, za_36, za_37, za_38, za_39, za_40, zb_377, zb_378, za_379, za_380, za_381, za_382, za_383, zb_384, za_385, za_386, za_387, za_388, za_389, za_390, za_391, za_392, za_393, zb_396, za_397, za_398, za_399, za_400, za_401, zb_738, za_739, za_740, za_741, za_742, za_743, za_744, za_745, za_746, za_747, zb_748, za_749, za_750, zb_751, zb_752, za_753, za_754, za_755, za_756, zb_757, za_758, za_759, za_760, zb_761, za_763, za_764, za_765, true_and, and_true, Nat.reduceAdd, hc']
      rw [show nI k - 1 = nI (k - 1) from pk_sub (a := k) (b := 1) (by omega)]
      refine loop2 (k - 1) M' _ (by omega) f1 (fun p hp => ?_)
      rw [Nat.sub_self]
      exact ⟨(f2 p hp).1, (f2 p hp).2⟩
    | succ f ih =>
      intro k M' hk f1 f2
      have hc' : M'.1 17 0 = nI n := by rw [(f1 17 (by decide)).1]; exact hc
      have i1 : vp_in (nI k) 10 := vp_in_nI (by omega) (by decide)
      have i2 : (nI k).toNatClampNeg = k := nI_clamp (by omega)
      have gk : M'.1 22 k = nI (g k) := by rw [(f1 22 (by decide)).1]; exact (hg k (by omega)).1
      have hp2 : 2 ^ k ≤ 2 ^ 9 := Nat.pow_le_pow_right (by decide) (by omega)
      have gl := (hg k (by omega)).2
      refine h14 _ _ _ ?_
      simp only [bX8_heaviestApart_14, zw_0, zw_1, zs_iloadn1, zs_aloadn0, zs_aloadNn0, zg_8_24, zg_8_34, zs_icge, zg_8_15, zg_8_53, zs_iaload, zs_sipush, zs_imul, zs_iconst, zs_ishl, zs_isub, zs_iastore, zg_8_18, zs_iinc1, zs_goto, zc_none, zc_int, zc_ref, zc_null, zc_long, zb_15, zb_16, zb_17, za_18, za_19, za_20, za_21, za_22, zb_23, za_24, za_25, za_26, za_27, za_28, za_29, za_30, za_31, za_32, zb_35, za_36, za_37, za_38, za_39, za_40, zb_377, zb_378, za_379, za_380, za_381, za_382, za_383, zb_384, za_385, za_386, za_387, za_388, za_389, za_390, za_391, za_392, za_393, zb_396, za_397, za_398, za_399, za_400, za_401, zb_738, za_739, za_740, za_741, za_742, za_743, za_744, za_745, za_746, za_747, zb_748, za_749, za_750, zb_751, zb_752, za_753, za_754, za_755, za_756, zb_757, za_758, za_759, za_760, zb_761, za_763, za_764, za_765, zu_0, zu_1, zu_2, zu_3, zu_4, zu_5, zu_6, zu_7, zu_8, zu_9, zu_10, zu_11, zu_12, zu_13, zu_14, zu_15, zu_16, zu_17, zu_18, zu_19, zu_20, zu_21, zu_22, zu_23, zu_24, zu_25, zu_26, zu_27, zu_28, zu_29, zu_30, zu_90, zv_0_9, zv_1_9, zv_2_9, zv_3_9, zv_4_9, zv_5_9, zv_6_9, zv_7_9, zv_8_9, zv_0_330, zv_0_4544, zv_1_4544, zv_2_4544, zv_3_4544, zv_4_4544, zv_5_4544, zv_6_4544, zv_7_4544, zv_8_4544, zv_9_4544, zv_10_4544, zv_11_4544, zv_12_4544, zv_13_4544, zv_14_4544, zv_15_4544, zv_16_4544, zv_17_4544, zv_18_4544, zv_19_4544, zv_20_4544, zv_21_4544, zv_22_4544, zv_23_4544, zv_24_4544, zv_25_4544, zv_26_4544, zv_27_4544, zv_28_4544, zv_29_4544, zv_0_11, zv_1_11, zv_0_160, true_and, and_true, Nat.reduceAdd, hc', i1, i2, gk]
      refine ⟨fun h => absurd h (nI_ge (by omega) (by omega)), fun _ => ?_⟩
      rw [nI_1]
      refine ih (k + 1) _ (by omega) (zf_wi (zf_wi f1 (by decide)) (by decide)) (fun p hp => ?_)
      refine ⟨?_, ?_⟩
      · rw [zm_wi_other (by decide), zm_wi_same]
        split
        · next c =>
          subst c
          rw [zx_1s p (by omega), show (1024 : Int32) = nI 1024 from rfl, pk_mul, pk_sub_toInt (by omega) (by omega)]
          simp only [zd_st]
          omega
        · next c => exact (f2 p (by omega)).1
      · rw [zm_wi_same]
        split
        · rfl
        · next c => rw [zm_wi_other (by decide)]; exact (f2 p (by omega)).2
  refine h12 _ _ _ ?_
  simp only [bX8_heaviestApart_12, zw_0, zw_1, zs_iconst, zs_istoren1, zc_none, zc_int, zc_ref, zc_null, zc_long, zb_15, zb_16, zb_17, za_18, za_19, za_20, za_21, za_22, zb_23, za_24, za_25, za_26, za_27, za_28, za_29, za_30, za_31, za_32, zb_35, za_36, za_37, za_38, za_39, za_40, zb_377, zb_378, za_379, za_380, za_381, za_382, za_383, zb_384, za_385, za_386, za_387, za_388, za_389, za_390, za_391, za_392, za_393, zb_396, za_397, za_398, za_399, za_400, za_401, zb_738, za_739, za_740, za_741, za_742, za_743, za_744, za_745, za_746, za_747, zb_748, za_749, za_750, zb_751, zb_752, za_753, za_754, za_755, za_756, zb_757, za_758, za_759, za_760, zb_761, za_763, za_764, za_765, true_and, and_true, Nat.reduceAdd]
  exact loop n 0 M (by omega) zf_refl (fun p hp => absurd hp (by omega))
theorem c11_apart {E : zm_E} (hE : zm_ok E.2.2.1 E.2.2.2.2) (d : Nat) {n : Nat} (l : Int32) {M : zm_M} (hw : zt_wf n (M.1 18)) (hc : M.1 17 0 = nI n) {g : Nat → Nat} (hg : ∀ i, i < n → M.1 22 i = nI (g i) ∧ g i ≤ 99) : zm_R E (d + 2) mX11_apart [.ref 15, .int l] M (fun r M' => r = some (.int (if l = 0 then nI (zd_best (M.1 18) g n (2 ^ n)) else nI (zd_w g (zd_best (M.1 18) g n (2 ^ n)) n))) ∧ zf [754, 755] M M') := by
  refine zX11_apart hE rfl (fun G h0 h23 h24 => ?_)
  show G 0 [some (.ref 15), some (.int l), none] [] M
  have hn := hw.1
  have hN : 2 ^ n ≤ 1024 := Nat.pow_le_pow_right (n := 2) (by decide) hn
  have hbl := zd_best_lt (b := M.1 18) (g := g) (n := n) (2 ^ n) (Nat.two_pow_pos n)
  refine h0 _ _ _ ?_
  simp only [bX11_apart_0, zw_0, zw_1, zs_aloadn0, zs_aloadNn0, zg_11_51, zi_11_337, zs_istoren2, zs_iloadn1, zs_ifeq, zs_iloadn2, zi_11_340, zs_goto, zc_none, zc_int, zc_ref, zc_null, zc_long, zh_0, zh_1, zh_2, zh_3, zh_4, zt_i, zt_l, zt_r, zt_n, zb_15, zb_16, zb_17, za_18, za_19, za_20, za_21, za_22, zb_23, za_24, za_25, za_26, za_27, za_28, za_29, za_30, za_31, za_32, zb_35, za_36, za_37, za_38, za_39, za_40, zb_377, zb_378, za_379, za_380, za_381, za_382, za_383, zb_384, za_385, za_386, za_387, za_388, za_389, za_390, za_391, za_392, za_393, zb_396, za_397, za_398, za_399, za_400, za_401, zb_738, za_739, za_740, za_741, za_742, za_743, za_744, za_745, za_746, za_747, zb_748, za_749, za_750, zb_751, zb_752, za_753, za_754, za_755, za_756, zb_757, za_758, za_759, za_760, zb_761, za_763, za_764, za_765, true_and, and_true, Nat.reduceAdd]
  refine zm_R_mono (c8_heaviestApart hE d hw hc hg) ?_
  rintro _ M1 ⟨rfl, f1⟩
  have hc' : M1.1 17 0 = nI n := by rw [(f1 17 (by decide)).1]; exact hc
  have hg' : ∀ i, i < n → M1.1 22 i = nI (g i) := fun i hi => by rw [(f1 22 (by decide)).1]; exact (hg i hi).1
  simp only [bX11_apart_0, zw_0, zw_1, zs_aloadn0, zs_aloadNn0, zg_11_51, zi_11_337, zs_istoren2, zs_iloadn1, zs_ifeq, zs_iloadn2, zi_11_340, zs_goto, zc_none, zc_int, zc_ref, zc_null, zc_long, zh_0, zh_1, zh_2, zh_3, zh_4, zt_i, zt_l, zt_r, zt_n, zb_15, zb_16, zb_17, za_18, za_19, za_20, za_21, za_22, zb_23, za_24, za_25, za_26, za_27, za_28, za_29, za_30, za_31, za_32, zb_35, za_36, za_37, za_38, za_39, za_40, zb_377, zb_378, za_379, za_380, za_381, za_382, za_383, zb_384, za_385, za_386, za_387, za_388, za_389, za_390, za_391, za_392, za_393, zb_396, za_397, za_398, za_399, za_400, za_401, zb_738, za_739, za_740, za_741, za_742, za_743, za_744, za_745, za_746, za_747, zb_748, za_749, za_750, zb_751, zb_752, za_753, za_754, za_755, za_756, zb_757, za_758, za_759, za_760, zb_761, za_763, za_764, za_765, true_and, and_true, Nat.reduceAdd]
  refine ⟨fun h => ?_, fun h => ?_⟩
  · refine h23 _ _ _ ?_
    simp only [bX11_apart_23, zw_0, zw_1, zs_iloadn2, zb_15, zb_16, zb_17, za_18, za_19, za_20, za_21, za_22, zb_23, za_24, za_25, za_26, za_27, za_28, za_29, za_30, za_31, za_32, zb_35, za_36, za_37, za_38, za_39, za_40, zb_377, zb_378, za_379, za_380, za_381, za_382, za_383, zb_384, za_385, za_386, za_387, za_388, za_389, za_390, za_391, za_392, za_393, zb_396, za_397, za_398, za_399, za_400, za_401, zb_738, za_739, za_740, za_741, za_742, za_743, za_744, za_745, za_746, za_747, zb_748, za_749, za_750, zb_751, zb_752, za_753, za_754, za_755, za_756, zb_757, za_758, za_759, za_760, zb_761, za_763, za_764, za_765, true_and, and_true, Nat.reduceAdd]
    refine h24 _ _ _ ?_
    simp only [bX11_apart_24, zw_0, zw_1, zs_ireturn, zn_int, zn_b0, zn_b1, zb_15, zb_16, zb_17, za_18, za_19, za_20, za_21, za_22, zb_23, za_24, za_25, za_26, za_27, za_28, za_29, za_30, za_31, za_32, zb_35, za_36, za_37, za_38, za_39, za_40, zb_377, zb_378, za_379, za_380, za_381, za_382, za_383, zb_384, za_385, za_386, za_387, za_388, za_389, za_390, za_391, za_392, za_393, zb_396, za_397, za_398, za_399, za_400, za_401, zb_738, za_739, za_740, za_741, za_742, za_743, za_744, za_745, za_746, za_747, zb_748, za_749, za_750, zb_751, zb_752, za_753, za_754, za_755, za_756, zb_757, za_758, za_759, za_760, zb_761, za_763, za_764, za_765, true_and, and_true, Nat.reduceAdd]
    exact ⟨by rw [if_pos h], f1⟩
  · refine zm_R_eq (c8_weightOf hE d hn (by omega) hc' hg') ?_
    simp only [bX11_apart_0, zw_0, zw_1, zs_aloadn0, zs_aloadNn0, zg_11_51, zi_11_337, zs_istoren2, zs_iloadn1, zs_ifeq, zs_iloadn2, zi_11_340, zs_goto, zc_none, zc_int, zc_ref, zc_null, zc_long, zh_0, zh_1, zh_2, zh_3, zh_4, zt_i, zt_l, zt_r, zt_n, zb_15, zb_16, zb_17, za_18, za_19, za_20, za_21, za_22, zb_23, za_24, za_25, za_26, za_27, za_28, za_29, za_30, za_31, za_32, zb_35, za_36, za_37, za_38, za_39, za_40, zb_377, zb_378, za_379, za_380, za_381, za_382, za_383, zb_384, za_385, za_386, za_387, za_388, za_389, za_390, za_391, za_392, za_393, zb_396, za_397, za_398, za_399, za_400, za_401, zb_738, za_739, za_740, za_741, za_742, za_743, za_744, za_745, za_746, za_747, zb_748, za_749, za_750, zb_751, zb_752, za_753, za_754, za_755, za_756, zb_757, za_758, za_759, za_760, zb_761, za_763, za_764, za_765, true_and, and_true, Nat.reduceAdd]
    refine h24 _ _ _ ?_
    simp only [bX11_apart_24, zw_0, zw_1, zs_ireturn, zn_int, zn_b0, zn_b1, zb_15, zb_16, zb_17, za_18, za_19, za_20, za_21, za_22, zb_23, za_24, za_25, za_26, za_27, za_28, za_29, za_30, za_31, za_32, zb_35, za_36, za_37, za_38, za_39, za_40, zb_377, zb_378, za_379, za_380, za_381, za_382, za_383, zb_384, za_385, za_386, za_387, za_388, za_389, za_390, za_391, za_392, za_393, zb_396, za_397, za_398, za_399, za_400, za_401, zb_738, za_739, za_740, za_741, za_742, za_743, za_744, za_745, za_746, za_747, zb_748, za_749, za_750, zb_751, zb_752, za_753, za_754, za_755, za_756, zb_757, za_758, za_759, za_760, zb_761, za_763, za_764, za_765, true_and, and_true, Nat.reduceAdd]
    exact ⟨by rw [if_neg h], f1⟩
