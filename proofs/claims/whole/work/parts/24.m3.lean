/-! ===== the reference: sets of officers, where two meet ===== -/
theorem zx_sm : ∀ q, q < 31 → ((nI q &&& 31).toBitVec.smod 32).toNat = q := by decide +kernel
theorem zx_has {S q : Nat} (hS : S < 2 ^ 31) (hq : q < 31) : zi_has (nI S) (nI q) = zi_b (S.testBit q) := by
  unfold zi_has zi_b
  rw [pk_shrN hS _ q (zx_sm q hq), pk_andN (Nat.lt_of_le_of_lt (Nat.div_le_self _ _) (by omega)) 1 (by decide)]
  rw [Nat.testBit_eq_decide_div_mod_eq]
  have h2 : S / 2 ^ q % 2 ^ 1 < 2 := Nat.mod_lt _ (by decide)
  have e : (nI (S / 2 ^ q % 2 ^ 1) = 1) ↔ S / 2 ^ q % 2 = 1 := by
    have : (1 : Int32) = nI 1 := rfl
    rw [this, nI_eq (by omega) (by decide)]
  by_cases z : S / 2 ^ q % 2 = 1
  · rw [if_pos (e.mpr z)]; simp [z]
  · rw [if_neg (fun y => z (e.mp y))]; simp [z]
theorem zb_ae_set {n : Nat} {b : Nat → Int32} (h : zt_wf n b) {p : Nat} (hp : p < n) : 2 ^ p ||| zb_set (zt_ab b p) n = zb_set (zt_ae b p) n := by
  apply Nat.eq_of_testBit_eq
  intro i
  rw [Nat.testBit_or, zb_set_tb, zb_set_tb, Nat.testBit_two_pow]
  unfold zt_ae
  by_cases z : p = i
  · subst z; simp [hp]
  · simp [z]
theorem c_belowOf {E : zm_E} (hE : zm_ok E.2.2.1 E.2.2.2.2) (d : Nat) {n p : Nat} {M : zm_M} (hw : zt_wf n (fun i => M.1 1 (90 + i))) (hc : M.1 1 0 = nI n) (hp : p < n) : zm_R E (d + 2) mX12_belowOf [.ref 0, .int (nI p)] M (fun r M' => r = some (.int (nI (zb_set (zt_ae (fun i => M.1 1 (90 + i)) p) n))) ∧ M' = M) := by
  refine zX12_belowOf hE rfl (fun G h0 h6 h32 h33 h41 => ?_)
  show G 0 [some (.ref 0), some (.int (nI p)), none, none] [] M
  have hn10 := hw.1
  have loop : ∀ (f i : Nat), i + f = n → G 6 [some (.ref 0), some (.int (nI p)), some (.int (nI (2 ^ p ||| zb_set (zt_ab (fun i => M.1 1 (90 + i)) p) i))), some (.int (nI i))] [] M := by
    intro f
    induction f with
    | zero =>
      intro i hi
      refine h6 _ _ _ ?_
      simp only [bX12_belowOf_6, zw_0, zw_1, zs_iloadn3, zs_aloadn0, zs_aloadNn0, zg_12_7, zs_iconst, zs_iaload, zs_icge, zs_iloadn2, zs_iloadn1, zi_12_350, zs_ifeq, zs_ishl, zs_goto, zh_0, zh_1, zh_2, zh_3, zh_4, zt_i, zt_l, zt_r, zt_n, zb_0, za_1, za_2, za_3, za_4, za_5, za_6, za_7, za_8, za_9, za_10, za_11, za_12, za_13, za_14, zu_0, zu_1, zu_2, zu_3, zu_4, zu_5, zu_6, zu_7, zu_8, zu_9, zu_10, zu_11, zu_12, zu_13, zu_14, zu_15, zu_16, zu_17, zu_18, zu_19, zu_20, zu_21, zu_22, zu_23, zu_24, zu_25, zu_26, zu_27, zu_28, zu_29, zu_30, zu_90, zv_0_9, zv_1_9, zv_2_9, zv_3_9, zv_4_9, zv_5_9, zv_6_9, zv_7_9, zv_8_9, zv_0_330, zv_0_4544, zv_1_4544, zv_2_4544, zv_3_4544, zv_4_4544, zv_5_4544, zv_6_4544, zv_7_4544, zv_8_4544, zv_9_4544, zv_10_4544, zv_11_4544, zv_12_4544, zv_13_4544, zv_14_4544, zv_15_4544, zv_16_4544, zv_17_4544, zv_18_4544, zv_19_4544, zv_20_4544, zv_21_4544, zv_22_4544, zv_23_4544, zv_24_4544, zv_25_4544, zv_26_4544, zv_27_4544, zv_28_4544, zv_29_4544, zv_0_11, zv_1_11, zv_0_160, true_and, and_true, Nat.reduceAdd, hc]
      refine ⟨fun _ => ?_, fun h => absurd (nI_le (by omega) (by omega)) h⟩
      refine h41 _ _ _ ?_
      simp only [bX12_belowOf_41, zw_0, zw_1, zs_iloadn2, zs_ireturn, zn_int, zn_b0, zn_b1, zb_0, za_1, za_2, za_3, za_4, za_5, za_6, za_7, za_8, za_9, za_10, za_11, za_12, za_13, za_14, true_and, and_true, Nat.reduceAdd]
      rw [show i = n by omega, zb_ae_set hw hp]
    | succ f ih =>
      intro i hi
      have next : ∀ v, nI (2 ^ p ||| zb_set (zt_ab (fun i => M.1 1 (90 + i)) p) i) ||| v = nI (2 ^ p ||| zb_set (zt_ab (fun i => M.1 1 (90 + i)) p) (i + 1)) → G 33 [some (.ref 0), some (.int (nI p)), some (.int (nI (2 ^ p ||| zb_set (zt_ab (fun i => M.1 1 (90 + i)) p) i))), some (.int (nI i))] [.int v, .int (nI (2 ^ p ||| zb_set (zt_ab (fun i => M.1 1 (90 + i)) p) i))] M := by
        intro v hv
        refine h33 _ _ _ ?_
        simp only [bX12_belowOf_33, zw_0, zw_1, zs_ior, zs_istoren2, zs_iinc3, zs_goto, zc_none, zc_int, zc_ref, zc_null, zc_long, zb_0, za_1, za_2, za_3, za_4, za_5, za_6, za_7, za_8, za_9, za_10, za_11, za_12, za_13, za_14, true_and, and_true, Nat.reduceAdd]
        rw [hv, nI_1]
        exact ih (i + 1) (by omega)
      refine h6 _ _ _ ?_
      simp only [bX12_belowOf_6, zw_0, zw_1, zs_iloadn3, zs_aloadn0, zs_aloadNn0, zg_12_7, zs_iconst, zs_iaload, zs_icge, zs_iloadn2, zs_iloadn1, zi_12_350, zs_ifeq, zs_ishl, zs_goto, zh_0, zh_1, zh_2, zh_3, zh_4, zt_i, zt_l, zt_r, zt_n, zb_0, za_1, za_2, za_3, za_4, za_5, za_6, za_7, za_8, za_9, za_10, za_11, za_12, za_13, za_14, zu_0, zu_1, zu_2, zu_3, zu_4, zu_5, zu_6, zu_7, zu_8, zu_9, zu_10, zu_11, zu_12, zu_13, zu_14, zu_15, zu_16, zu_17, zu_18, zu_19, zu_20, zu_21, zu_22, zu_23, zu_24, zu_25, zu_26, zu_27, zu_28, zu_29, zu_30, zu_90, zv_0_9, zv_1_9, zv_2_9, zv_3_9, zv_4_9, zv_5_9, zv_6_9, zv_7_9, zv_8_9, zv_0_330, zv_0_4544, zv_1_4544, zv_2_4544, zv_3_4544, zv_4_4544, zv_5_4544, zv_6_4544, zv_7_4544, zv_8_4544, zv_9_4544, zv_10_4544, zv_11_4544, zv_12_4544, zv_13_4544, zv_14_4544, zv_15_4544, zv_16_4544, zv_17_4544, zv_18_4544, zv_19_4544, zv_20_4544, zv_21_4544, zv_22_4544, zv_23_4544, zv_24_4544, zv_25_4544, zv_26_4544, zv_27_4544, zv_28_4544, zv_29_4544, zv_0_11, zv_1_11, zv_0_160, true_and, and_true, Nat.reduceAdd, hc]
      refine ⟨fun h => absurd h (nI_ge (by omega) (by omega)), fun _ => ?_⟩
      refine zm_R_mono (c_isAbove hE d hw hp (show i < n by omega)) ?_
      rintro _ M' ⟨rfl, hM⟩
      subst hM
      simp only [bX12_belowOf_6, zw_0, zw_1, zs_iloadn3, zs_aloadn0, zs_aloadNn0, zg_12_7, zs_iconst, zs_iaload, zs_icge, zs_iloadn2, zs_iloadn1, zi_12_350, zs_ifeq, zs_ishl, zs_goto, zh_0, zh_1, zh_2, zh_3, zh_4, zt_i, zt_l, zt_r, zt_n, zb_0, za_1, za_2, za_3, za_4, za_5, za_6, za_7, za_8, za_9, za_10, za_11, za_12, za_13, za_14, zu_0, zu_1, zu_2, zu_3, zu_4, zu_5, zu_6, zu_7, zu_8, zu_9, zu_10, zu_11, zu_12, zu_13, zu_14, zu_15, zu_16, zu_17, zu_18, zu_19, zu_20, zu_21, zu_22, zu_23, zu_24, zu_25, zu_26, zu_27, zu_28, zu_29, zu_30, zu_90, zv_0_9, zv_1_9, zv_2_9, zv_3_9, zv_4_9, zv_5_9, zv_6_9, zv_7_9, zv_8_9, zv_0_330, zv_0_4544, zv_1_4544, zv_2_4544, zv_3_4544, zv_4_4544, zv_5_4544, zv_6_4544, zv_7_4544, zv_8_4544, zv_9_4544, zv_10_4544, zv_11_4544, zv_12_4544, zv_13_4544, zv_14_4544, zv_15_4544, zv_16_4544, zv_17_4544, zv_18_4544, zv_19_4544, zv_20_4544, zv_21_4544, zv_22_4544, zv_23_4544, zv_24_4544, zv_25_4544, zv_26_4544, zv_27_4544, zv_28_4544, zv_29_4544, zv_0_11, zv_1_11, zv_0_160, true_and, and_true, Nat.reduceAdd, hc]
      cases ha : zt_ab (fun i => M'.1 1 (90 + i)) p i with
      | false =>
        refine ⟨fun _ => ?_, fun h => absurd rfl h⟩
        refine h32 _ _ _ ?_
        simp only [bX12_belowOf_32, zw_0, zw_1, zs_iconst, zb_0, za_1, za_2, za_3, za_4, za_5, za_6, za_7, za_8, za_9, za_10, za_11, za_12, za_13, za_14, true_and, and_true, Nat.reduceAdd]
        refine next 0 ?_
        simp only [zb_set, ha, Bool.false_eq_true, if_false, Nat.or_zero]
        exact (nx_or _ 0).trans (by rw [Nat.or_zero])
      | true =>
        refine ⟨fun h => absurd h (by decide), fun _ => next _ ?_⟩
        simp only [zb_set, ha, if_true]
        rw [zx_1s i (by omega), nx_or, Nat.or_assoc]
  refine h0 _ _ _ ?_
  simp only [bX12_belowOf_0, zw_0, zw_1, zs_iconst, zs_iloadn1, zs_ishl, zs_istoren2, zs_istoren3, zc_none, zc_int, zc_ref, zc_null, zc_long, zb_0, za_1, za_2, za_3, za_4, za_5, za_6, za_7, za_8, za_9, za_10, za_11, za_12, za_13, za_14, true_and, and_true, Nat.reduceAdd]
  rw [zx_1s p (by omega)]
  have h := loop n 0 (by omega)
  simp only [zb_set, Nat.or_zero] at h
  exact h
theorem zb_bel_has {n p q : Nat} {b : Nat → Int32} (h : zt_wf n b) (hq : q < n) : zi_has (nI (zb_set (zt_ae b p) n)) (nI q) = zi_b (zt_ae b p q) := by
  have h10 := h.1
  have hl := zb_set_lt (zt_ae b p) n
  have h2 : 2 ^ n ≤ 2 ^ 10 := Nat.pow_le_pow_right (by decide) h10
  rw [zx_has (by omega) (by omega), zb_set_tb]
  simp [hq]
theorem c_meetOf {E : zm_E} (hE : zm_ok E.2.2.1 E.2.2.2.2) (d : Nat) {n p q : Nat} {M : zm_M} (hw : zt_wf n (fun i => M.1 1 (90 + i))) (hc : M.1 1 0 = nI n) (hp : p < n) (hq : q < n) : zm_R E (d + 3) mX12_meetOf [.ref 0, .int (nI p), .int (nI q)] M (fun r M' => r = some (.int (nI (zt_mt (fun i => M.1 1 (90 + i)) p q))) ∧ M' = M) := by
  refine zX12_meetOf hE rfl (fun G h0 h2 h27 => ?_)
  show G 0 [some (.ref 0), some (.int (nI p)), some (.int (nI q)), none] [] M
  have hn10 := hw.1
  have loop : ∀ (y : Nat), y < n → zt_mt (fun i => M.1 1 (90 + i)) y q = zt_mt (fun i => M.1 1 (90 + i)) p q → G 2 [some (.ref 0), some (.int (nI p)), some (.int (nI q)), some (.int (nI y))] [] M := by
    intro y
    induction y using Nat.strongRecOn with
    | _ y ih =>
      intro hy hm
      refine h2 _ _ _ ?_
      simp only [bX12_meetOf_2, zw_0, zw_1, zs_aloadn0, zs_aloadNn0, zs_iloadn3, zi_12_398, zs_iloadn2, zi_12_77, zs_ifne, zg_12_7, zs_bipush, zs_iadd, zs_iaload, zs_istoren3, zs_goto, zc_none, zc_int, zc_ref, zc_null, zc_long, zh_0, zh_1, zh_2, zh_3, zh_4, zt_i, zt_l, zt_r, zt_n, zb_0, za_1, za_2, za_3, za_4, za_5, za_6, za_7, za_8, za_9, za_10, za_11, za_12, za_13, za_14, zu_0, zu_1, zu_2, zu_3, zu_4, zu_5, zu_6, zu_7, zu_8, zu_9, zu_10, zu_11, zu_12, zu_13, zu_14, zu_15, zu_16, zu_17, zu_18, zu_19, zu_20, zu_21, zu_22, zu_23, zu_24, zu_25, zu_26, zu_27, zu_28, zu_29, zu_30, zu_90, zv_0_9, zv_1_9, zv_2_9, zv_3_9, zv_4_9, zv_5_9, zv_6_9, zv_7_9, zv_8_9, zv_0_330, zv_0_4544, zv_1_4544, zv_2_4544, zv_3_4544, zv_4_4544, zv_5_4544, zv_6_4544, zv_7_4544, zv_8_4544, zv_9_4544, zv_10_4544, zv_11_4544, zv_12_4544, zv_13_4544, zv_14_4544, zv_15_4544, zv_16_4544, zv_17_4544, zv_18_4544, zv_19_4544, zv_20_4544, zv_21_4544, zv_22_4544, zv_23_4544, zv_24_4544, zv_25_4544, zv_26_4544, zv_27_4544, zv_28_4544, zv_29_4544, zv_0_11, zv_1_11, zv_0_160, true_and, and_true, Nat.reduceAdd]
      refine zm_R_mono (c_belowOf hE d hw hc hy) ?_
      rintro _ M' ⟨rfl, hM⟩
      subst hM
      simp only [bX12_meetOf_2, zw_0, zw_1, zs_aloadn0, zs_aloadNn0, zs_iloadn3, zi_12_398, zs_iloadn2, zi_12_77, zs_ifne, zg_12_7, zs_bipush, zs_iadd, zs_iaload, zs_istoren3, zs_goto, zc_none, zc_int, zc_ref, zc_null, zc_long, zh_0, zh_1, zh_2, zh_3, zh_4, zt_i, zt_l, zt_r, zt_n, zb_0, za_1, za_2, za_3, za_4, za_5, za_6, za_7, za_8, za_9, za_10, za_11, za_12, za_13, za_14, zu_0, zu_1, zu_2, zu_3, zu_4, zu_5, zu_6, zu_7, zu_8, zu_9, zu_10, zu_11, zu_12, zu_13, zu_14, zu_15, zu_16, zu_17, zu_18, zu_19, zu_20, zu_21, zu_22, zu_23, zu_24, zu_25, zu_26, zu_27, zu_28, zu_29, zu_30, zu_90, zv_0_9, zv_1_9, zv_2_9, zv_3_9, zv_4_9, zv_5_9, zv_6_9, zv_7_9, zv_8_9, zv_0_330, zv_0_4544, zv_1_4544, zv_2_4544, zv_3_4544, zv_4_4544, zv_5_4544, zv_6_4544, zv_7_4544, zv_8_4544, zv_9_4544, zv_10_4544, zv_11_4544, zv_12_4544, zv_13_4544, zv_14_4544, zv_15_4544, zv_16_4544, zv_17_4544, zv_18_4544, zv_19_4544, zv_20_4544, zv_21_4544, zv_22_4544, zv_23_4544, zv_24_4544, zv_25_4544, zv_26_4544, zv_27_4544, zv_28_4544, zv_29_4544, zv_0_11, zv_1_11, zv_0_160, true_and, and_true, Nat.reduceAdd]
      refine zm_R_mono (c_has hE (d + 1) _ _ _) ?_
      rintro _ M' ⟨rfl, hM⟩
      subst hM
      rw [zb_bel_has hw hq]
      simp only [bX12_meetOf_2, zw_0, zw_1, zs_aloadn0, zs_aloadNn0, zs_iloadn3, zi_12_398, zs_iloadn2, zi_12_77, zs_ifne, zg_12_7, zs_bipush, zs_iadd, zs_iaload, zs_istoren3, zs_goto, zc_none, zc_int, zc_ref, zc_null, zc_long, zh_0, zh_1, zh_2, zh_3, zh_4, zt_i, zt_l, zt_r, zt_n, zb_0, za_1, za_2, za_3, za_4, za_5, za_6, za_7, za_8, za_9, za_10, za_11, za_12, za_13, za_14, zu_0, zu_1, zu_2, zu_3, zu_4, zu_5, zu_6, zu_7, zu_8, zu_9, zu_10, zu_11, zu_12, zu_13, zu_14, zu_15, zu_16, zu_17, zu_18, zu_19, zu_20, zu_21, zu_22, zu_23, zu_24, zu_25, zu_26, zu_27, zu_28, zu_29, zu_30, zu_90, zv_0_9, zv_1_9, zv_2_9, zv_3_9, zv_4_9, zv_5_9, zv_6_9, zv_7_9, zv_8_9, zv_0_330, zv_0_4544, zv_1_4544, zv_2_4544, zv_3_4544, zv_4_4544, zv_5_4544, zv_6_4544, zv_7_4544, zv_8_4544, zv_9_4544, zv_10_4544, zv_11_4544, zv_12_4544, zv_13_4544, zv_14_4544, zv_15_4544, zv_16_4544, zv_17_4544, zv_18_4544, zv_19_4544, zv_20_4544, zv_21_4544, zv_22_4544, zv_23_4544, zv_24_4544, zv_25_4544, zv_26_4544, zv_27_4544, zv_28_4544, zv_29_4544, zv_0_11, zv_1_11, zv_0_160, true_and, and_true, Nat.reduceAdd]
      cases ha : zt_ae (fun i => M'.1 1 (90 + i)) y q with
      | true =>
        refine ⟨fun _ => ?_, fun h => absurd h (by decide)⟩
        refine h27 _ _ _ ?_
        simp only [bX12_meetOf_27, zw_0, zw_1, zs_iloadn3, zs_ireturn, zn_int, zn_b0, zn_b1, zb_0, za_1, za_2, za_3, za_4, za_5, za_6, za_7, za_8, za_9, za_10, za_11, za_12, za_13, za_14, true_and, and_true, Nat.reduceAdd]
        rw [← hm, zt_mt_at ha]
      | false =>
        have h0 : y ≠ 0 := fun z => by rw [z, zt_ae_0 hw q hq] at ha; cases ha
        obtain ⟨j, h1, e⟩ := hw.2.2 y (by omega) hy
        refine ⟨fun h => absurd rfl h, fun _ => ⟨zx_in (zx_boss y) (by omega) (by decide), ?_⟩⟩
        rw [zx_cl (zx_boss y) (by omega)]
        have e2 : M'.1 1 (90 + y) = nI j := e
        rw [e2]
        refine ih j h1 (by omega) ?_
        rw [← hm, zt_mt_up hw hy hq h1 e ha]
  refine h0 _ _ _ ?_
  simp only [bX12_meetOf_0, zw_0, zw_1, zs_iloadn1, zs_istoren3, zc_none, zc_int, zc_ref, zc_null, zc_long, zb_0, za_1, za_2, za_3, za_4, za_5, za_6, za_7, za_8, za_9, za_10, za_11, za_12, za_13, za_14, true_and, and_true, Nat.reduceAdd]
  exact loop p hp rfl
theorem c_stepsOf {E : zm_E} (hE : zm_ok E.2.2.1 E.2.2.2.2) (d : Nat) {n p q : Nat} {M : zm_M} (hw : zt_wf n (fun i => M.1 1 (90 + i))) (hc : M.1 1 0 = nI n) (hp : p < n) (hq : q < n) : zm_R E (d + 4) mX12_stepsOf [.ref 0, .int (nI p), .int (nI q)] M (fun r M' => r = some (.int (zt_ds (fun i => M.1 1 (90 + i)) p q)) ∧ M' = M) := by
  refine zX12_stepsOf hE rfl (fun G h0 => ?_)
  show G 0 [some (.ref 0), some (.int (nI p)), some (.int (nI q))] [] M
  refine h0 _ _ _ ?_
  simp only [bX12_stepsOf_0, zw_0, zw_1, zs_aloadn0, zs_aloadNn0, zs_iloadn1, zi_12_262, zs_iloadn2, zs_iadd, zs_iconst, zi_12_411, zs_imul, zs_isub, zs_ireturn, zh_0, zh_1, zh_2, zh_3, zh_4, zt_i, zt_l, zt_r, zt_n, zn_int, zn_b0, zn_b1, zb_0, za_1, za_2, za_3, za_4, za_5, za_6, za_7, za_8, za_9, za_10, za_11, za_12, za_13, za_14, true_and, and_true, Nat.reduceAdd]
  refine zm_R_mono (c_rankOf hE (d + 2) hw hp) ?_
  rintro _ M' ⟨rfl, hM⟩
  subst hM
  simp only [bX12_stepsOf_0, zw_0, zw_1, zs_aloadn0, zs_aloadNn0, zs_iloadn1, zi_12_262, zs_iloadn2, zs_iadd, zs_iconst, zi_12_411, zs_imul, zs_isub, zs_ireturn, zh_0, zh_1, zh_2, zh_3, zh_4, zt_i, zt_l, zt_r, zt_n, zn_int, zn_b0, zn_b1, zb_0, za_1, za_2, za_3, za_4, za_5, za_6, za_7, za_8, za_9, za_10, za_11, za_12, za_13, za_14, true_and, and_true, Nat.reduceAdd]
  refine zm_R_mono (c_rankOf hE (d + 2) hw hq) ?_
  rintro _ M' ⟨rfl, hM⟩
  subst hM
  simp only [bX12_stepsOf_0, zw_0, zw_1, zs_aloadn0, zs_aloadNn0, zs_iloadn1, zi_12_262, zs_iloadn2, zs_iadd, zs_iconst, zi_12_411, zs_imul, zs_isub, zs_ireturn, zh_0, zh_1, zh_2, zh_3, zh_4, zt_i, zt_l, zt_r, zt_n, zn_int, zn_b0, zn_b1, zb_0, za_1, za_2, za_3, za_4, za_5, za_6, za_7, za_8, za_9, za_10, za_11, za_12, za_13, za_14, true_and, and_true, Nat.reduceAdd]
  refine zm_R_mono (c_meetOf hE d hw hc hp hq) ?_
  rintro _ M' ⟨rfl, hM⟩
  subst hM
  simp only [bX12_stepsOf_0, zw_0, zw_1, zs_aloadn0, zs_aloadNn0, zs_iloadn1, zi_12_262, zs_iloadn2, zs_iadd, zs_iconst, zi_12_411, zs_imul, zs_isub, zs_ireturn, zh_0, zh_1, zh_2, zh_3, zh_4, zt_i, zt_l, zt_r, zt_n, zn_int, zn_b0, zn_b1, zb_0, za_1, za_2, za_3, za_4, za_5, za_6, za_7, za_8, za_9, za_10, za_11, za_12, za_13, za_14, true_and, and_true, Nat.reduceAdd]
  have hm := zt_mt_lt hw hq p hp
  refine zm_R_mono (c_rankOf hE (d + 2) hw (show zt_mt (fun i => M'.1 1 (90 + i)) p q < n by omega)) ?_
  rintro _ M' ⟨rfl, hM⟩
  subst hM
  simp only [bX12_stepsOf_0, zw_0, zw_1, zs_aloadn0, zs_aloadNn0, zs_iloadn1, zi_12_262, zs_iloadn2, zs_iadd, zs_iconst, zi_12_411, zs_imul, zs_isub, zs_ireturn, zh_0, zh_1, zh_2, zh_3, zh_4, zt_i, zt_l, zt_r, zt_n, zn_int, zn_b0, zn_b1, zb_0, za_1, za_2, za_3, za_4, za_5, za_6, za_7, za_8, za_9, za_10, za_11, za_12, za_13, za_14, true_and, and_true, Nat.reduceAdd]
  rfl
