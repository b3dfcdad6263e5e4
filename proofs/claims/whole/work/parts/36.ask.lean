/-! ===== ask ===== -/
def zs_off (w F : Nat) : Nat := if F < 2 * w then 2 * w - F else F - 2 * w
def zs_lt (o : Nat) (b : Option (Nat × Nat)) : Bool := match b with
  | none => true
  | some p => decide (o < p.2)
def zs_b (w : Nat → Nat) (F : Nat) : Nat → Option (Nat × Nat)
  | 0 => none
  | k + 1 => if 0 < w k ∧ w k < F ∧ zs_lt (zs_off (w k) F) (zs_b w F k) = true then some (k, zs_off (w k) F) else zs_b w F k
theorem zs_b_bd (w : Nat → Nat) (F : Nat) : ∀ k p, zs_b w F k = some p → p.1 < k ∧ p.2 < F := by
  intro k
  induction k with
  | zero => intro p h; simp [zs_b] at h
  | succ k ih =>
    intro p h
    simp only [zs_b] at h
    split at h
    · next c =>
      have := Option.some.inj h
      subst this
      refine ⟨by simp, ?_⟩
      unfold zs_off
      have := c.1; have := c.2.1
      split <;> simp <;> omega
    · obtain ⟨a, b⟩ := ih p h
      exact ⟨by omega, b⟩
def zs_k (b : Option (Nat × Nat)) : Int32 := match b with
  | none => -1
  | some p => nI p.1
def zs_o (b : Option (Nat × Nat)) (i : Int32) : Int32 := match b with
  | none => i
  | some p => nI p.2
theorem zs_b_c {w w' : Nat → Nat} {F : Nat} : ∀ k, (∀ i, i < k → w i = w' i) → zs_b w F k = zs_b w' F k := by
  intro k
  induction k with
  | zero => intro _; rfl
  | succ k ih => intro h; simp only [zs_b]; rw [ih (fun i hi => h i (by omega)), h k (by omega)]
theorem zs_cmp {o F : Nat} {b : Option (Nat × Nat)} {i : Nat} (hi : i < 2 ^ 31) (ho : o < i) (hb : ∀ p, b = some p → p.2 < i) : (nI o < zs_o b (nI i)) ↔ zs_lt o b = true := by
  cases b with
  | none => exact ⟨fun _ => rfl, fun _ => nI_lt ho hi⟩
  | some p =>
    have := hb p rfl
    show nI o < nI p.2 ↔ decide (o < p.2) = true
    rw [nI_ltI (by omega) (by omega)]
    simp
theorem zs_abs {w F : Nat} (hw : w ≤ 256) (hF : F ≤ 256) : (if (0 : Int32) ≤ 2 * nI w - nI F then 2 * nI w - nI F else 0 - (2 * nI w - nI F)) = nI (zs_off w F) := by
  have e : (2 : Int32) * nI w = nI (2 * w) := by rw [← pk_mul]; rfl
  rw [e]
  unfold zs_off
  by_cases h : F < 2 * w
  · rw [if_pos h, pk_sub (by omega), if_pos (nI_pos' (by omega))]
  · rw [if_neg h]
    by_cases h2 : F = 2 * w
    · subst h2
      rw [pk_sub (Nat.le_refl _), Nat.sub_self]; rfl
    · rw [if_neg (Int32.not_le.mpr (pk_sneg (by omega) (by omega))), Int32.zero_sub, Int32.neg_sub, pk_sub (by omega)]
theorem c4_nearestToHalf {E : zm_E} (hE : zm_ok E.2.2.1 E.2.2.2.2) (d : Nat) {n F : Nat} (hn : n ≤ 8) (hF : F ≤ 256) {M : zm_M} (hc : M.1 35 0 = nI n) (hf : M.1 35 1 = nI F) {w : Nat → Nat} (hw : ∀ k, k < n → M.1 37 k = nI (w k) ∧ w k ≤ 256) : zm_R E (d + 1) mX4_nearestToHalf [.ref 35] M (fun r M' => r = some (.int (zs_k (zs_b w F n))) ∧ M' = M) := by
  refine zX4_nearestToHalf hE rfl (fun G h0 h9 h68 h74 => ?_)
  show G 0 [some (.ref 35), none, none, none, none] [] M
  have loop : ∀ (f k : Nat) (l4 : Option Value), k + f = n → G 9 [some (.ref 35), some (.int (zs_k (zs_b w F k))), some (.int (zs_o (zs_b w F k) (nI F))), some (.int (nI k)), l4] [] M := by
    intro f
    induction f with
    | zero =>
      intro k l4 hk
      have hk : k = n := by omega
      subst hk
      refine h9 _ _ _ ?_
      simp only [bX4_nearestToHalf_9, zw_0, zw_1, zs_iloadn3, zs_aloadn0, zs_aloadNn0, zg_4_9, zs_icge, zs_iconst, zg_4_22, zs_iaload, zs_imul, zg_4_15, zs_isub, zi_4_41, zs_istore4, zs_ifle, zs_iload4, zs_iloadn2, zs_istoren2, zs_istoren1, zc_none, zc_int, zc_ref, zc_null, zc_long, zh_0, zh_1, zh_2, zh_3, zh_4, zt_i, zt_l, zt_r, zt_n, zb_15, zb_16, zb_17, za_18, za_19, za_20, za_21, za_22, zb_23, za_24, za_25, za_26, za_27, za_28, za_29, za_30, za_31, za_32, zb_35, za_36, za_37, za_38, za_39, za_40, zb_377, zb_378, za_379, za_380, za_381, za_382, za_383, zb_384, za_385, za_386, za_387, za_388, za_389, za_390, za_391, za_392, za_393, zb_396, za_397, za_398, za_399, za_400, za_401, zb_738, za_739, za_740, za_741, za_742, za_743, za_744, za_745, za_746, za_747, zb_748, za_749, za_750, zb_751, zb_752, za_753, za_754, za_755, za_756, zb_757, za_758, za_759, za_760, zb_761, za_763, za_764, za_765, zu_0, zu_1, zu_2, zu_3, zu_4, zu_5, zu_6, zu_7, zu_8, zu_9, zu_10, zu_11, zu_12, zu_13, zu_14, zu_15, zu_16, zu_17, zu_18, zu_19, zu_20, zu_21, zu_22, zu_23, zu_24, zu_25, zu_26, zu_27, zu_28, zu_29, zu_30, zu_90, zv_0_9, zv_1_9, zv_2_9, zv_3_9, zv_4_9, zv_5_9, zv_6_9, zv_7_9, zv_8_9, zv_0_330, zv_0_4544, zv_1_4544, zv_2_4544, zv_3_4544, zv_4_4544, zv_5_4544, zv_6_4544, zv_7_4544, zv_8_4544, zv_9_4544, zv_10_4544, zv_11_4544, zv_12_4544, zv_13_4544, zv_14_4544, zv_15_4544, zv_16_4544, zv_17_4544, zv_18_4544, zv_19_4544, zv_20_4544, zv_21_4544, zv_22_4544, zv_23_4544, zv_24_4544, zv_25_4544, zv_26_4544, zv_27_4544, zv_28_4544, zv_29_4544, zv_0_11, zv_1_11, zv_0_160, true_and, and_true, Nat.reduceAdd, hc]
      refine ⟨fun _ => ?_, fun h => absurd (nI_le (Nat.le_refl _) (by omega)) h⟩
      refine h74 _ _ _ ?_
      simp only [bX4_nearestToHalf_74, zw_0, zw_1, zs_iloadn1, zs_ireturn, zn_int, zn_b0, zn_b1, zb_15, zb_16, zb_17, za_18, za_19, za_20, za_21, za_22, zb_23, za_24, za_25, za_26, za_27, za_28, za_29, za_30, za_31, za_32, zb_35, za_36, za_37, za_38, za_39, za_40, zb_377, zb_378, za_379, za_380, za_381, za_382, za_383, zb_384, za_385, za_386, za_387, za_388, za_389, za_390, za_391, za_392, za_393, zb_396, za_397, za_398, za_399, za_400, za_401, zb_738, za_739, za_740, za_741, za_742, za_743, za_744, za_745, za_746, za_747, zb_748, za_749, za_750, zb_751, zb_752, za_753, za_754, za_755, za_756, zb_757, za_758, za_759, za_760, zb_761, za_763, za_764, za_765, true_and, and_true, Nat.reduceAdd]
    | succ f ih =>
      intro k l4 hk
      have i1 : vp_in (nI k) 8 := vp_in_nI (by omega) (by decide)
      have i2 : (nI k).toNatClampNeg = k := nI_clamp (by omega)
      obtain ⟨w1, w2⟩ := hw k (by omega)
      have w0 : (nI (w k) ≤ 0) = ¬ (0 < w k) := propext ((nI_leI (b := 0) (by omega) (by decide)).trans Nat.not_lt.symm)
      have wF : (nI F ≤ nI (w k)) = ¬ (w k < F) := propext ((nI_leI (by omega) (by omega)).trans Nat.not_lt.symm)
      have next : ∀ b l4, b = zs_b w F (k + 1) → G 68 [some (.ref 35), some (.int (zs_k b)), some (.int (zs_o b (nI F))), some (.int (nI k)), l4] [] M := by
        intro b l4 hb
        refine h68 _ _ _ ?_
        simp only [bX4_nearestToHalf_68, zw_0, zw_1, zs_iinc3, zs_goto, zc_none, zc_int, zc_ref, zc_null, zc_long, zb_15, zb_16, zb_17, za_18, za_19, za_20, za_21, za_22, zb_23, za_24, za_25, za_26, za_27, za_28, za_29, za_30, za_31, za_32, zb_35, za_36, za_37, za_38, za_39, za_40, zb_377, zb_378, za_379, za_380, za_381, za_382, za_383, zb_384, za_385, za_386, za_387, za_388, za_389, za_390, za_391, za_392, za_393, zb_396, za_397, za_398, za_399, za_400, za_401, zb_738, za_739, za_740, za_741, za_742, za_743, za_744, za_745, za_746, za_747, zb_748, za_749, za_750, zb_751, zb_752, za_753, za_754, za_755, za_756, zb_757, za_758, za_759, za_760, zb_761, za_763, za_764, za_765, true_and, and_true, Nat.reduceAdd]
        rw [hb, nI_1]
        exact ih (k + 1) l4 (by omega)
      refine h9 _ _ _ ?_
      simp only [bX4_nearestToHalf_9, zw_0, zw_1, zs_iloadn3, zs_aloadn0, zs_aloadNn0, zg_4_9, zs_icge, zs_iconst, zg_4_22, zs_iaload, zs_imul, zg_4_15, zs_isub, zi_4_41, zs_istore4, zs_ifle, zs_iload4, zs_iloadn2, zs_istoren2, zs_istoren1, zc_none, zc_int, zc_ref, zc_null, zc_long, zh_0, zh_1, zh_2, zh_3, zh_4, zt_i, zt_l, zt_r, zt_n, zb_15, zb_16, zb_17, za_18, za_19, za_20, za_21, za_22, zb_23, za_24, za_25, za_26, za_27, za_28, za_29, za_30, za_31, za_32, zb_35, za_36, za_37, za_38, za_39, za_40, zb_377, zb_378, za_379, za_380, za_381, za_382, za_383, zb_384, za_385, za_386, za_387, za_388, za_389, za_390, za_391, za_392, za_393, zb_396, za_397, za_398, za_399, za_400, za_401, zb_738, za_739, za_740, za_741, za_742, za_743, za_744, za_745, za_746, za_747, zb_748, za_749, za_750, zb_751, zb_752, za_753, za_754, za_755, za_756, zb_757, za_758, za_759, za_760, zb_761, za_763, za_764, za_765, zu_0, zu_1, zu_2, zu_3, zu_4, zu_5, zu_6, zu_7, zu_8, zu_9, zu_10, zu_11, zu_12, zu_13, zu_14, zu_15, zu_16, zu_17, zu_18, zu_19, zu_20, zu_21, zu_22, zu_23, zu_24, zu_25, zu_26, zu_27, zu_28, zu_29, zu_30, zu_90, zv_0_9, zv_1_9, zv_2_9, zv_3_9, zv_4_9, zv_5_9, zv_6_9, zv_7_9, zv_8_9, zv_0_330, zv_0_4544, zv_1_4544, zv_2_4544, zv_3_4544, zv_4_4544, zv_5_4544, zv_6_4544, zv_7_4544, zv_8_4544, zv_9_4544, zv_10_4544, zv_11_4544, zv_12_4544, zv_13_4544, zv_14_4544, zv_15_4544, zv_16_4544, zv_17_4544, zv_18_4544, zv_19_4544, zv_20_4544, zv_21_4544, zv_22_4544, zv_23_4544, zv_24_4544, zv_25_4544, zv_26_4544, zv_27_4544, zv_28_4544, zv_29_4544, zv_0_11, zv_1_11, zv_0_160, true_and, and_true, Nat.reduceAdd, hc, hf, i1, i2, w1, w0, wF, zs_abs w2 hF]
      refine ⟨fun h => absurd h (nI_ge (by omega) (by omega)), fun _ => ⟨fun h => next _ _ ?_, fun h => ⟨fun h2 => next _ _ ?_, fun h2 => ⟨fun h3 => next _ _ ?_, fun h3 => ?_⟩⟩⟩⟩
      · simp only [zs_b]; rw [if_neg (fun z => h z.1)]
      · simp only [zs_b]; rw [if_neg (fun z => h2 z.2.1)]
      · have hlt := zs_cmp (o := zs_off (w k) F) (F := F) (b := zs_b w F k) (i := F) (by omega) (by unfold zs_off; split <;> omega) (fun p hp => (zs_b_bd w F k p hp).2)
        simp only [zs_b]
        rw [if_neg (fun z => Int32.not_lt.mpr h3 (hlt.mpr z.2.2))]
      · have hlt := zs_cmp (o := zs_off (w k) F) (F := F) (b := zs_b w F k) (i := F) (by omega) (by unfold zs_off; split <;> omega) (fun p hp => (zs_b_bd w F k p hp).2)
        refine next (some (k, zs_off (w k) F)) _ ?_
        simp only [zs_b]
        rw [if_pos ⟨by omega, by omega, hlt.mp (Int32.not_le.mp h3)⟩]
  refine h0 _ _ _ ?_
  simp only [bX4_nearestToHalf_0, zw_0, zw_1, zs_iconst, zs_istoren1, zs_aloadn0, zs_aloadNn0, zg_4_15, zs_istoren2, zs_istoren3, zc_none, zc_int, zc_ref, zc_null, zc_long, zb_15, zb_16, zb_17, za_18, za_19, za_20, za_21, za_22, zb_23, za_24, za_25, za_26, za_27, za_28, za_29, za_30, za_31, za_32, zb_35, za_36, za_37, za_38, za_39, za_40, zb_377, zb_378, za_379, za_380, za_381, za_382, za_383, zb_384, za_385, za_386, za_387, za_388, za_389, za_390, za_391, za_392, za_393, zb_396, za_397, za_398, za_399, za_400, za_401, zb_738, za_739, za_740, za_741, za_742, za_743, za_744, za_745, za_746, za_747, zb_748, za_749, za_750, zb_751, zb_752, za_753, za_754, za_755, za_756, zb_757, za_758, za_759, za_760, zb_761, za_763, za_764, za_765, true_and, and_true, Nat.reduceAdd, hf]
  exact loop n 0 none (by omega)
def zs_ask (sz : Nat → Int32) (n : Nat) (t : Int32) : Int32 := zs_k (zs_b (fun k => zs_w sz n t k (2 ^ n)) (zs_f sz n t (2 ^ n)) n)
theorem c11_ask {E : zm_E} (hE : zm_ok E.2.2.1 E.2.2.2.2) (d : Nat) {n : Nat} (hn : n ≤ 8) (t : Int32) {M : zm_M} (hc : M.1 35 0 = nI n) {Q : Option Value → zm_M → Prop} (q1 : zi_in t 0 9999 = 0 → Q (some (.int (-1))) M) (q2 : ¬ zi_in t 0 9999 = 0 → ∀ M', zs_lay M M' 35 1 37 n (M.1 36) n t (2 ^ n) → Q (some (.int (zs_ask (M.1 36) n t))) M') : zm_R E (d + 3) mX11_ask [.ref 15, .int t] M Q := by
  refine zX11_ask hE rfl (fun G h0 h13 => ?_)
  show G 0 [some (.ref 15), some (.int t)] [] M
  refine h0 _ _ _ ?_
  simp only [bX11_ask_0, zw_0, zw_1, zs_iloadn1, zs_iconst, zs_sipush, zi_11_86, zs_ifne, zs_ireturn, zh_0, zh_1, zh_2, zh_3, zh_4, zt_i, zt_l, zt_r, zt_n, zn_int, zn_b0, zn_b1, zb_15, zb_16, zb_17, za_18, za_19, za_20, za_21, za_22, zb_23, za_24, za_25, za_26, za_27, za_28, za_29, za_30, za_31, za_32, zb_35, za_36, za_37, za_38, za_39, za_40, zb_377, zb_378, za_379, za_380, za_381, za_382, za_383, zb_384, za_385, za_386, za_387, za_388, za_389, za_390, za_391, za_392, za_393, zb_396, za_397, za_398, za_399, za_400, za_401, zb_738, za_739, za_740, za_741, za_742, za_743, za_744, za_745, za_746, za_747, zb_748, za_749, za_750, zb_751, zb_752, za_753, za_754, za_755, za_756, zb_757, za_758, za_759, za_760, zb_761, za_763, za_764, za_765, true_and, and_true, Nat.reduceAdd]
  refine zm_R_eq (c11_within hE (d + 1) t 0 9999 M) ?_
  simp only [bX11_ask_0, zw_0, zw_1, zs_iloadn1, zs_iconst, zs_sipush, zi_11_86, zs_ifne, zs_ireturn, zh_0, zh_1, zh_2, zh_3, zh_4, zt_i, zt_l, zt_r, zt_n, zn_int, zn_b0, zn_b1, zb_15, zb_16, zb_17, za_18, za_19, za_20, za_21, za_22, zb_23, za_24, za_25, za_26, za_27, za_28, za_29, za_30, za_31, za_32, zb_35, za_36, za_37, za_38, za_39, za_40, zb_377, zb_378, za_379, za_380, za_381, za_382, za_383, zb_384, za_385, za_386, za_387, za_388, za_389, za_390, za_391, za_392, za_393, zb_396, za_397, za_398, za_399, za_400, za_401, zb_738, za_739, za_740, za_741, za_742, za_743, za_744, za_745, za_746, za_747, zb_748, za_749, za_750, zb_751, zb_752, za_753, za_754, za_755, za_756, zb_757, za_758, za_759, za_760, zb_761, za_763, za_764, za_765, true_and, and_true, Nat.reduceAdd]
  refine ⟨fun ht => ?_, fun h => q1 h⟩
  refine h13 _ _ _ ?_
  simp only [bX11_ask_13, zw_0, zw_1, zs_aloadn0, zs_aloadNn0, zg_11_10, zg_11_305, zs_iloadn1, zi_11_315, zi_11_324, zs_ireturn, zh_0, zh_1, zh_2, zh_3, zh_4, zt_i, zt_l, zt_r, zt_n, zn_int, zn_b0, zn_b1, zb_15, zb_16, zb_17, za_18, za_19, za_20, za_21, za_22, zb_23, za_24, za_25, za_26, za_27, za_28, za_29, za_30, za_31, za_32, zb_35, za_36, za_37, za_38, za_39, za_40, zb_377, zb_378, za_379, za_380, za_381, za_382, za_383, zb_384, za_385, za_386, za_387, za_388, za_389, za_390, za_391, za_392, za_393, zb_396, za_397, za_398, za_399, za_400, za_401, zb_738, za_739, za_740, za_741, za_742, za_743, za_744, za_745, za_746, za_747, zb_748, za_749, za_750, zb_751, zb_752, za_753, za_754, za_755, za_756, zb_757, za_758, za_759, za_760, zb_761, za_763, za_764, za_765, true_and, and_true, Nat.reduceAdd]
  refine c4_countSets hE d hn t hc (fun M' hL => ?_)
  have hN : 2 ^ n ≤ 256 := Nat.pow_le_pow_right (n := 2) (by decide) hn
  have hF := zs_f_le (M.1 36) n t (2 ^ n)
  have hc' : M'.1 35 0 = nI n := by rw [hL.2.1 0 (by decide)]; exact hc
  have hw : ∀ k, k < n → M'.1 37 k = nI (zs_w (M.1 36) n t k (2 ^ n)) ∧ zs_w (M.1 36) n t k (2 ^ n) ≤ 256 := fun k hk => ⟨hL.2.2.2 k hk, Nat.le_trans (zs_w_le _ _ _ _ _) (by omega)⟩
  simp only [bX11_ask_13, zw_0, zw_1, zs_aloadn0, zs_aloadNn0, zg_11_10, zg_11_305, zs_iloadn1, zi_11_315, zi_11_324, zs_ireturn, zh_0, zh_1, zh_2, zh_3, zh_4, zt_i, zt_l, zt_r, zt_n, zn_int, zn_b0, zn_b1, zb_15, zb_16, zb_17, za_18, za_19, za_20, za_21, za_22, zb_23, za_24, za_25, za_26, za_27, za_28, za_29, za_30, za_31, za_32, zb_35, za_36, za_37, za_38, za_39, za_40, zb_377, zb_378, za_379, za_380, za_381, za_382, za_383, zb_384, za_385, za_386, za_387, za_388, za_389, za_390, za_391, za_392, za_393, zb_396, za_397, za_398, za_399, za_400, za_401, zb_738, za_739, za_740, za_741, za_742, za_743, za_744, za_745, za_746, za_747, zb_748, za_749, za_750, zb_751, zb_752, za_753, za_754, za_755, za_756, zb_757, za_758, za_759, za_760, zb_761, za_763, za_764, za_765, true_and, and_true, Nat.reduceAdd]
  refine zm_R_eq (c4_nearestToHalf hE (d + 1) hn (by omega) hc' hL.2.2.1 hw) ?_
  simp only [bX11_ask_13, zw_0, zw_1, zs_aloadn0, zs_aloadNn0, zg_11_10, zg_11_305, zs_iloadn1, zi_11_315, zi_11_324, zs_ireturn, zh_0, zh_1, zh_2, zh_3, zh_4, zt_i, zt_l, zt_r, zt_n, zn_int, zn_b0, zn_b1, zb_15, zb_16, zb_17, za_18, za_19, za_20, za_21, za_22, zb_23, za_24, za_25, za_26, za_27, za_28, za_29, za_30, za_31, za_32, zb_35, za_36, za_37, za_38, za_39, za_40, zb_377, zb_378, za_379, za_380, za_381, za_382, za_383, zb_384, za_385, za_386, za_387, za_388, za_389, za_390, za_391, za_392, za_393, zb_396, za_397, za_398, za_399, za_400, za_401, zb_738, za_739, za_740, za_741, za_742, za_743, za_744, za_745, za_746, za_747, zb_748, za_749, za_750, zb_751, zb_752, za_753, za_754, za_755, za_756, zb_757, za_758, za_759, za_760, zb_761, za_763, za_764, za_765, true_and, and_true, Nat.reduceAdd]
  exact q2 ht M' hL
theorem c_ask {E : zm_E} (hE : zm_ok E.2.2.1 E.2.2.2.2) (d : Nat) {n : Nat} (hn : n ≤ 8) (t : Int32) {M : zm_M} (hc : M.1 1 4 = nI n) {Q : Option Value → zm_M → Prop} (q1 : zi_in t 0 9999 = 0 → Q (some (.int (-1))) M) (q2 : ¬ zi_in t 0 9999 = 0 → ∀ M', zs_lay M M' 0 34 14 8 (fun k => M.1 1 (120 + k)) n t (2 ^ n) → Q (some (.int (zs_ask (fun k => M.1 1 (120 + k)) n t))) M') : zm_R E (d + 3) mX12_ask [.ref 0, .int t] M Q := by
  refine zX12_ask hE rfl (fun G h0 h13 h27 h71 h85 h120 h126 h132 => ?_)
  show G 0 [some (.ref 0), some (.int t), none, none, none, none] [] M
  refine h0 _ _ _ ?_
  simp only [bX12_ask_0, zw_0, zw_1, zs_iloadn1, zs_iconst, zs_sipush, zi_12_69, zs_ifne, zs_ireturn, zh_0, zh_1, zh_2, zh_3, zh_4, zt_i, zt_l, zt_r, zt_n, zn_int, zn_b0, zn_b1, zb_0, za_1, za_2, za_3, za_4, za_5, za_6, za_7, za_8, za_9, za_10, za_11, za_12, za_13, za_14, true_and, and_true, Nat.reduceAdd]
  refine zm_R_eq (c_isIn hE (d + 1) t 0 9999 M) ?_
  simp only [bX12_ask_0, zw_0, zw_1, zs_iloadn1, zs_iconst, zs_sipush, zi_12_69, zs_ifne, zs_ireturn, zh_0, zh_1, zh_2, zh_3, zh_4, zt_i, zt_l, zt_r, zt_n, zn_int, zn_b0, zn_b1, zb_0, za_1, za_2, za_3, za_4, za_5, za_6, za_7, za_8, za_9, za_10, za_11, za_12, za_13, za_14, true_and, and_true, Nat.reduceAdd]
  refine ⟨fun ht => ?_, fun h => q1 h⟩
  refine h13 _ _ _ ?_
  simp only [bX12_ask_13, zw_0, zw_1, zs_aloadn0, zs_aloadNn0, zs_iloadn1, zi_12_446, zs_iconst, zs_istoren2, zdw_12_417, zs_istoren3, zs_istore4, zc_none, zc_int, zc_ref, zc_null, zc_long, zh_0, zh_1, zh_2, zh_3, zh_4, zt_i, zt_l, zt_r, zt_n, zb_0, za_1, za_2, za_3, za_4, za_5, za_6, za_7, za_8, za_9, za_10, za_11, za_12, za_13, za_14, true_and, and_true, Nat.reduceAdd]
  refine c_laySets hE d hn t hc (fun M' hL => ?_)
  have hN : 2 ^ n ≤ 256 := Nat.pow_le_pow_right (n := 2) (by decide) hn
  have hF := zs_f_le (fun k => M.1 1 (120 + k)) n t (2 ^ n)
  have hc' : M'.1 1 4 = nI n := by rw [(hL.1 1 (by decide)).1]; exact hc
  have ef := hL.2.2.1
  have q2 := q2 ht M' hL
  unfold zs_ask at q2
  obtain ⟨w, hwe⟩ : ∃ w, w = (fun k => zs_w (fun k => M.1 1 (120 + k)) n t k (2 ^ n)) := ⟨_, rfl⟩
  rw [← hwe] at q2
  have hWF : ∀ k, w k ≤ zs_f (fun k => M.1 1 (120 + k)) n t (2 ^ n) := fun k => by rw [hwe]; exact zs_w_le _ _ _ _ _
  have hw : ∀ k, k < n → M'.1 14 k = nI (w k) ∧ w k ≤ 256 := fun k hk => ⟨by rw [hwe]; exact hL.2.2.2 k (by omega), Nat.le_trans (hWF k) (Nat.le_trans (zs_f_le _ _ _ _) hN)⟩
  generalize zs_f (fun k => M.1 1 (120 + k)) n t (2 ^ n) = F at ef hF q2 hWF
  have loop : ∀ (f k : Nat) (l5 : Option Value), k + f = n → G 27 [some (.ref 0), some (.int t), some (.int (zs_k (zs_b w F k))), some (.int (zs_o (zs_b w F k) (nI 1000000000))), some (.int (nI k)), l5] [] M' := by
    intro f
    induction f with
    | zero =>
      intro k l4 hk
      have hk : k = n := by omega
      subst hk
      refine h27 _ _ _ ?_
      simp only [bX12_ask_27, zw_0, zw_1, zs_iload4, zs_aloadn0, zs_aloadNn0, zg_12_7, zs_iconst, zs_iaload, zs_icge, zg_12_62, zs_imul, zg_12_443, zs_icle, zs_isub, zs_goto, zb_0, za_1, za_2, za_3, za_4, za_5, za_6, za_7, za_8, za_9, za_10, za_11, za_12, za_13, za_14, zu_0, zu_1, zu_2, zu_3, zu_4, zu_5, zu_6, zu_7, zu_8, zu_9, zu_10, zu_11, zu_12, zu_13, zu_14, zu_15, zu_16, zu_17, zu_18, zu_19, zu_20, zu_21, zu_22, zu_23, zu_24, zu_25, zu_26, zu_27, zu_28, zu_29, zu_30, zu_90, zv_0_9, zv_1_9, zv_2_9, zv_3_9, zv_4_9, zv_5_9, zv_6_9, zv_7_9, zv_8_9, zv_0_330, zv_0_4544, zv_1_4544, zv_2_4544, zv_3_4544, zv_4_4544, zv_5_4544, zv_6_4544, zv_7_4544, zv_8_4544, zv_9_4544, zv_10_4544, zv_11_4544, zv_12_4544, zv_13_4544, zv_14_4544, zv_15_4544, zv_16_4544, zv_17_4544, zv_18_4544, zv_19_4544, zv_20_4544, zv_21_4544, zv_22_4544, zv_23_4544, zv_24_4544, zv_25_4544, zv_26_4544, zv_27_4544, zv_28_4544, zv_29_4544, zv_0_11, zv_1_11, zv_0_160, true_and, and_true, Nat.reduceAdd, hc']
      refine ⟨fun _ => ?_, fun h => absurd (nI_le (Nat.le_refl _) (by omega)) h⟩
      refine h132 _ _ _ ?_
      simp only [bX12_ask_132, zw_0, zw_1, zs_iloadn2, zs_ireturn, zn_int, zn_b0, zn_b1, zb_0, za_1, za_2, za_3, za_4, za_5, za_6, za_7, za_8, za_9, za_10, za_11, za_12, za_13, za_14, true_and, and_true, Nat.reduceAdd]
      exact q2
    | succ f ih =>
      intro k l5 hk
      have i1 : vp_in (nI k) 8 := vp_in_nI (by omega) (by decide)
      have i2 : (nI k).toNatClampNeg = k := nI_clamp (by omega)
      obtain ⟨w1, w2⟩ := hw k (by omega)
      have e2 : (2 : Int32) * nI (w k) = nI (2 * w k) := by rw [← pk_mul]; rfl
      have le2 : (nI (2 * w k) ≤ nI F) = ¬ (F < 2 * w k) := propext ((nI_leI (by omega) (by omega)).trans Nat.not_lt.symm)
      have w0 : (nI (w k) = 0) = (w k = 0) := propext (nI_eq (b := 0) (by omega) (by decide))
      have wF : (nI (w k) = nI F) = (w k = F) := propext (nI_eq (by omega) (by omega))
      have wl : w k ≤ F := hWF k
      have hlt := zs_cmp (o := zs_off (w k) F) (F := F) (b := zs_b w F k) (i := 1000000000) (by omega) (by unfold zs_off; split <;> omega) (fun p hp => by have := (zs_b_bd w F k p hp).2; omega)
      have next : ∀ b l5, b = zs_b w F (k + 1) → G 126 [some (.ref 0), some (.int t), some (.int (zs_k b)), some (.int (zs_o b (nI 1000000000))), some (.int (nI k)), l5] [] M' := by
        intro b l5 hb
        refine h126 _ _ _ ?_
        simp only [bX12_ask_126, zw_0, zw_1, zs_iinc4, zs_goto, zc_none, zc_int, zc_ref, zc_null, zc_long, zb_0, za_1, za_2, za_3, za_4, za_5, za_6, za_7, za_8, za_9, za_10, za_11, za_12, za_13, za_14, true_and, and_true, Nat.reduceAdd]
        rw [hb, nI_1]
        exact ih (k + 1) l5 (by omega)
      have mid : ∀ l5, G 85 [some (.ref 0), some (.int t), some (.int (zs_k (zs_b w F k))), some (.int (zs_o (zs_b w F k) (nI 1000000000))), some (.int (nI k)), l5] [.int (nI (zs_off (w k) F))] M' := by
        intro l5
        refine h85 _ _ _ ?_
        simp only [bX12_ask_85, zw_0, zw_1, zs_istore5, zs_aloadn0, zs_aloadNn0, zg_12_62, zs_iload4, zs_iaload, zs_ifeq, zg_12_443, zs_iceq, zs_iload5, zs_iloadn3, zs_iclt, zs_goto, zc_none, zc_int, zc_ref, zc_null, zc_long, zb_0, za_1, za_2, za_3, za_4, za_5, za_6, za_7, za_8, za_9, za_10, za_11, za_12, za_13, za_14, zu_0, zu_1, zu_2, zu_3, zu_4, zu_5, zu_6, zu_7, zu_8, zu_9, zu_10, zu_11, zu_12, zu_13, zu_14, zu_15, zu_16, zu_17, zu_18, zu_19, zu_20, zu_21, zu_22, zu_23, zu_24, zu_25, zu_26, zu_27, zu_28, zu_29, zu_30, zu_90, zv_0_9, zv_1_9, zv_2_9, zv_3_9, zv_4_9, zv_5_9, zv_6_9, zv_7_9, zv_8_9, zv_0_330, zv_0_4544, zv_1_4544, zv_2_4544, zv_3_4544, zv_4_4544, zv_5_4544, zv_6_4544, zv_7_4544, zv_8_4544, zv_9_4544, zv_10_4544, zv_11_4544, zv_12_4544, zv_13_4544, zv_14_4544, zv_15_4544, zv_16_4544, zv_17_4544, zv_18_4544, zv_19_4544, zv_20_4544, zv_21_4544, zv_22_4544, zv_23_4544, zv_24_4544, zv_25_4544, zv_26_4544, zv_27_4544, zv_28_4544, zv_29_4544, zv_0_11, zv_1_11, zv_0_160, true_and, and_true, Nat.reduceAdd, ef, i1, i2, w1, w0, wF]
        refine ⟨fun h => next _ _ ?_, fun h => ⟨fun h2 => ?_, fun h2 => ?_⟩⟩
        · simp only [zs_b]; rw [if_neg (fun z => by omega)]
        · exact next _ _ (by simp only [zs_b]; rw [if_neg (fun z => by omega)])
        · refine ⟨fun h3 => ?_, fun h3 => next _ _ ?_⟩
          · refine h120 _ _ _ ?_
            simp only [bX12_ask_120, zw_0, zw_1, zs_iload5, zs_istoren3, zs_iload4, zs_istoren2, zc_none, zc_int, zc_ref, zc_null, zc_long, zb_0, za_1, za_2, za_3, za_4, za_5, za_6, za_7, za_8, za_9, za_10, za_11, za_12, za_13, za_14, true_and, and_true, Nat.reduceAdd]
            refine next (some (k, zs_off (w k) F)) _ ?_
            simp only [zs_b]
            rw [if_pos ⟨by omega, by omega, hlt.mp h3⟩]
          · simp only [zs_b]
            rw [if_neg (fun z => h3 (hlt.mpr z.2.2))]
      refine h27 _ _ _ ?_
      simp only [bX12_ask_27, zw_0, zw_1, zs_iload4, zs_aloadn0, zs_aloadNn0, zg_12_7, zs_iconst, zs_iaload, zs_icge, zg_12_62, zs_imul, zg_12_443, zs_icle, zs_isub, zs_goto, zb_0, za_1, za_2, za_3, za_4, za_5, za_6, za_7, za_8, za_9, za_10, za_11, za_12, za_13, za_14, zu_0, zu_1, zu_2, zu_3, zu_4, zu_5, zu_6, zu_7, zu_8, zu_9, zu_10, zu_11, zu_12, zu_13, zu_14, zu_15, zu_16, zu_17, zu_18, zu_19, zu_20, zu_21, zu_22, zu_23, zu_24, zu_25, zu_26, zu_27, zu_28, zu_29, zu_30, zu_90, zv_0_9, zv_1_9, zv_2_9, zv_3_9, zv_4_9, zv_5_9, zv_6_9, zv_7_9, zv_8_9, zv_0_330, zv_0_4544, zv_1_4544, zv_2_4544, zv_3_4544, zv_4_4544, zv_5_4544, zv_6_4544, zv_7_4544, zv_8_4544, zv_9_4544, zv_10_4544, zv_11_4544, zv_12_4544, zv_13_4544, zv_14_4544, zv_15_4544, zv_16_4544, zv_17_4544, zv_18_4544, zv_19_4544, zv_20_4544, zv_21_4544, zv_22_4544, zv_23_4544, zv_24_4544, zv_25_4544, zv_26_4544, zv_27_4544, zv_28_4544, zv_29_4544, zv_0_11, zv_1_11, zv_0_160, true_and, and_true, Nat.reduceAdd, hc', ef, i1, i2, w1, e2, le2]
      refine ⟨fun h => absurd h (nI_ge (by omega) (by omega)), fun _ => ⟨fun h => ?_, fun h => ?_⟩⟩
      · refine h71 _ _ _ ?_
        simp only [bX12_ask_71, zw_0, zw_1, zs_aloadn0, zs_aloadNn0, zg_12_443, zs_iconst, zg_12_62, zs_iload4, zs_iaload, zs_imul, zs_isub, zb_0, za_1, za_2, za_3, za_4, za_5, za_6, za_7, za_8, za_9, za_10, za_11, za_12, za_13, za_14, zu_0, zu_1, zu_2, zu_3, zu_4, zu_5, zu_6, zu_7, zu_8, zu_9, zu_10, zu_11, zu_12, zu_13, zu_14, zu_15, zu_16, zu_17, zu_18, zu_19, zu_20, zu_21, zu_22, zu_23, zu_24, zu_25, zu_26, zu_27, zu_28, zu_29, zu_30, zu_90, zv_0_9, zv_1_9, zv_2_9, zv_3_9, zv_4_9, zv_5_9, zv_6_9, zv_7_9, zv_8_9, zv_0_330, zv_0_4544, zv_1_4544, zv_2_4544, zv_3_4544, zv_4_4544, zv_5_4544, zv_6_4544, zv_7_4544, zv_8_4544, zv_9_4544, zv_10_4544, zv_11_4544, zv_12_4544, zv_13_4544, zv_14_4544, zv_15_4544, zv_16_4544, zv_17_4544, zv_18_4544, zv_19_4544, zv_20_4544, zv_21_4544, zv_22_4544, zv_23_4544, zv_24_4544, zv_25_4544, zv_26_4544, zv_27_4544, zv_28_4544, zv_29_4544, zv_0_11, zv_1_11, zv_0_160, true_and, and_true, Nat.reduceAdd, ef, i1, i2, w1, e2]
        rw [pk_sub (by omega)]
        have := mid l5
        unfold zs_off at this
        rw [if_neg h] at this
        exact this
      · rw [pk_sub (by omega)]
        have := mid l5
        unfold zs_off at this
        rw [if_pos (by omega)] at this
        exact this
  simp only [bX12_ask_13, zw_0, zw_1, zs_aloadn0, zs_aloadNn0, zs_iloadn1, zi_12_446, zs_iconst, zs_istoren2, zdw_12_417, zs_istoren3, zs_istore4, zc_none, zc_int, zc_ref, zc_null, zc_long, zh_0, zh_1, zh_2, zh_3, zh_4, zt_i, zt_l, zt_r, zt_n, zb_0, za_1, za_2, za_3, za_4, za_5, za_6, za_7, za_8, za_9, za_10, za_11, za_12, za_13, za_14, true_and, and_true, Nat.reduceAdd]
  exact loop n 0 none (by omega)
