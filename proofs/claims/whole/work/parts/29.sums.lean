/-! ===== counts and sums over apologies ===== -/
def zc_n (P : Nat → Bool) : Nat → Nat
  | 0 => 0
  | k + 1 => zc_n P k + (if P k then 1 else 0)
def zc_s (f : Nat → Int32) : Nat → Int32
  | 0 => 0
  | k + 1 => zc_s f k + f k
theorem zc_n_le (P : Nat → Bool) : ∀ k, zc_n P k ≤ k := by
  intro k
  induction k with
  | zero => exact Nat.le_refl _
  | succ k ih => simp only [zc_n]; split <;> omega
def zc_desk (at_ how : Nat → Int32) (p : Int32) : Nat → Bool := fun k => decide (¬ how k = 2) && decide (at_ k = p)
theorem c10_desk {E : zm_E} (hE : zm_ok E.2.2.1 E.2.2.2.2) (d : Nat) {w m : Nat} (hw : w = 23 ∨ w = 738) (hm : m ≤ 10) (p : Int32) {M : zm_M} (hc : M.1 w 2 = nI m) : zm_R E (d + 1) mX10_desk [.ref w, .int p] M (fun r M' => r = some (.int (nI (zc_n (zc_desk (M.1 (w + 3)) (M.1 (w + 5)) p) m))) ∧ M' = M) := by
  refine zX10_desk hE rfl (fun G h0 h4 h35 h41 => ?_)
  show G 0 [some (.ref w), some (.int p), none, none] [] M
  have loop : ∀ (f k : Nat), k + f = m → G 4 [some (.ref w), some (.int p), some (.int (nI (zc_n (zc_desk (M.1 (w + 3)) (M.1 (w + 5)) p) k))), some (.int (nI k))] [] M := by
    intro f
    induction f with
    | zero =>
      intro k hk
      have hk : k = m := by omega
      subst hk
      have stop : ¬ nI k ≤ nI k → False := fun h => h (nI_le (Nat.le_refl _) (by omega))
      refine h4 _ _ _ ?_
      rcases hw with rfl | rfl
      all_goals
        simp only [bX10_desk_4, zw_0, zw_1, zs_iloadn3, zs_aloadn0, zs_aloadNn0, zg_10_18, zs_icge, zg_10_34, zs_iaload, zs_iconst, zs_iceq, zg_10_28, zs_iloadn1, zs_icne, zs_iinc2, zc_none, zc_int, zc_ref, zc_null, zc_long, zb_15, zb_16, zb_17, za_18, za_19, za_20, za_21, za_22, zb_23, za_24, za_25, za_26, za_27, za_28, za_29, za_30, za_31, za_32, zb_35, za_36, za_37, za_38, za_39, za_40, zb_377, zb_378, za_379, za_380, za_381, za_382, za_383, zb_384, za_385, za_386, za_387, za_388, za_389, za_390, za_391, za_392, za_393, zb_396, za_397, za_398, za_399, za_400, za_401, zb_738, za_739, za_740, za_741, za_742, za_743, za_744, za_745, za_746, za_747, zb_748, za_749, za_750, zb_751, zb_752, za_753, za_754, za_755, za_756, zb_757, za_758, za_759, za_760, zb_761, za_763, za_764, za_765, zu_0, zu_1, zu_2, zu_3, zu_4, zu_5, zu_6, zu_7, zu_8, zu_9, zu_10, zu_11, zu_12, zu_13, zu_14, zu_15, zu_16, zu_17, zu_18, zu_19, zu_20, zu_21, zu_22, zu_23, zu_24, zu_25, zu_26, zu_27, zu_28, zu_29, zu_30, zu_90, zv_0_9, zv_1_9, zv_2_9, zv_3_9, zv_4_9, zv_5_9, zv_6_9, zv_7_9, zv_8_9, zv_0_330, zv_0_4544, zv_1_4544, zv_2_4544, zv_3_4544, zv_4_4544, zv_5_4544, zv_6_4544, zv_7_4544, zv_8_4544, zv_9_4544, zv_10_4544, zv_11_4544, zv_12_4544, zv_13_4544, zv_14_4544, zv_15_4544, zv_16_4544, zv_17_4544, zv_18_4544, zv_19_4544, zv_20_4544, zv_21_4544, zv_22_4544, zv_23_4544, zv_24_4544, zv_25_4544, zv_26_4544, zv_27_4544, zv_28_4544, zv_29_4544, zv_0_11, zv_1_11, zv_0_160, true_and, and_true, Nat.reduceAdd, hc]
        refine ⟨fun _ => ?_, fun h => (stop h).elim⟩
        refine h41 _ _ _ ?_
        simp only [bX10_desk_41, zw_0, zw_1, zs_iloadn2, zs_ireturn, zn_int, zn_b0, zn_b1, zb_15, zb_16, zb_17, za_18, za_19, za_20, za_21, za_22, zb_23, za_24, za_25, za_26, za_27, za_28, za_29, za_30, za_31, za_32, zb_35, za_36, za_37, za_38, za_39, za_40, zb_377, zb_378, za_379, za_380, za_381, za_382, za_383, zb_384, za_385, za_386, za_387, za_388, za_389, za_390, za_391, za_392, za_393, zb_396, za_397, za_398, za_399, za_400, za_401, zb_738, za_739, za_740, za_741, za_742, za_743, za_744, za_745, za_746, za_747, zb_748, za_749, za_750, zb_751, zb_752, za_753, za_754, za_755, za_756, zb_757, za_758, za_759, za_760, zb_761, za_763, za_764, za_765, true_and, and_true, Nat.reduceAdd]
    | succ f ih =>
      intro k hk
      have i1 : vp_in (nI k) 10 := vp_in_nI (by omega) (by decide)
      have i2 : (nI k).toNatClampNeg = k := nI_clamp (by omega)
      have next : ∀ v, v = nI (zc_n (zc_desk (M.1 (w + 3)) (M.1 (w + 5)) p) (k + 1)) → G 35 [some (.ref w), some (.int p), some (.int v), some (.int (nI k))] [] M := by
        intro v hv
        refine h35 _ _ _ ?_
        simp only [bX10_desk_35, zw_0, zw_1, zs_iinc3, zs_goto, zc_none, zc_int, zc_ref, zc_null, zc_long, zb_15, zb_16, zb_17, za_18, za_19, za_20, za_21, za_22, zb_23, za_24, za_25, za_26, za_27, za_28, za_29, za_30, za_31, za_32, zb_35, za_36, za_37, za_38, za_39, za_40, zb_377, zb_378, za_379, za_380, za_381, za_382, za_383, zb_384, za_385, za_386, za_387, za_388, za_389, za_390, za_391, za_392, za_393, zb_396, za_397, za_398, za_399, za_400, za_401, zb_738, za_739, za_740, za_741, za_742, za_743, za_744, za_745, za_746, za_747, zb_748, za_749, za_750, zb_751, zb_752, za_753, za_754, za_755, za_756, zb_757, za_758, za_759, za_760, zb_761, za_763, za_764, za_765, true_and, and_true, Nat.reduceAdd]
        rw [hv, nI_1]
        exact ih (k + 1) (by omega)
      refine h4 _ _ _ ?_
      rcases hw with rfl | rfl
      all_goals
        simp only [bX10_desk_4, zw_0, zw_1, zs_iloadn3, zs_aloadn0, zs_aloadNn0, zg_10_18, zs_icge, zg_10_34, zs_iaload, zs_iconst, zs_iceq, zg_10_28, zs_iloadn1, zs_icne, zs_iinc2, zc_none, zc_int, zc_ref, zc_null, zc_long, zb_15, zb_16, zb_17, za_18, za_19, za_20, za_21, za_22, zb_23, za_24, za_25, za_26, za_27, za_28, za_29, za_30, za_31, za_32, zb_35, za_36, za_37, za_38, za_39, za_40, zb_377, zb_378, za_379, za_380, za_381, za_382, za_383, zb_384, za_385, za_386, za_387, za_388, za_389, za_390, za_391, za_392, za_393, zb_396, za_397, za_398, za_399, za_400, za_401, zb_738, za_739, za_740, za_741, za_742, za_743, za_744, za_745, za_746, za_747, zb_748, za_749, za_750, zb_751, zb_752, za_753, za_754, za_755, za_756, zb_757, za_758, za_759, za_760, zb_761, za_763, za_764, za_765, zu_0, zu_1, zu_2, zu_3, zu_4, zu_5, zu_6, zu_7, zu_8, zu_9, zu_10, zu_11, zu_12, zu_13, zu_14, zu_15, zu_16, zu_17, zu_18, zu_19, zu_20, zu_21, zu_22, zu_23, zu_24, zu_25, zu_26, zu_27, zu_28, zu_29, zu_30, zu_90, zv_0_9, zv_1_9, zv_2_9, zv_3_9, zv_4_9, zv_5_9, zv_6_9, zv_7_9, zv_8_9, zv_0_330, zv_0_4544, zv_1_4544, zv_2_4544, zv_3_4544, zv_4_4544, zv_5_4544, zv_6_4544, zv_7_4544, zv_8_4544, zv_9_4544, zv_10_4544, zv_11_4544, zv_12_4544, zv_13_4544, zv_14_4544, zv_15_4544, zv_16_4544, zv_17_4544, zv_18_4544, zv_19_4544, zv_20_4544, zv_21_4544, zv_22_4544, zv_23_4544, zv_24_4544, zv_25_4544, zv_26_4544, zv_27_4544, zv_28_4544, zv_29_4544, zv_0_11, zv_1_11, zv_0_160, true_and, and_true, Nat.reduceAdd, hc, i1, i2]
        refine ⟨fun h => absurd h (nI_ge (by omega) (by omega)), fun _ => ⟨fun h => next _ ?_, fun h1 => ⟨fun h2 => next _ ?_, fun h2 => ?_⟩⟩⟩
        · simp [zc_n, zc_desk, h]
        · simp [zc_n, zc_desk, h2]
        · rw [nI_1]
          refine next _ ?_
          simp [zc_n, zc_desk, h1, h2]
  refine h0 _ _ _ ?_
  simp only [bX10_desk_0, zw_0, zw_1, zs_iconst, zs_istoren2, zs_istoren3, zc_none, zc_int, zc_ref, zc_null, zc_long, zb_15, zb_16, zb_17, za_18, za_19, za_20, za_21, za_22, zb_23, za_24, za_25, za_26, za_27, za_28, za_29, za_30, za_31, za_32, zb_35, za_36, za_37, za_38, za_39, za_40, zb_377, zb_378, za_379, za_380, za_381, za_382, za_383, zb_384, za_385, za_386, za_387, za_388, za_389, za_390, za_391, za_392, za_393, zb_396, za_397, za_398, za_399, za_400, za_401, zb_738, za_739, za_740, za_741, za_742, za_743, za_744, za_745, za_746, za_747, zb_748, za_749, za_750, zb_751, zb_752, za_753, za_754, za_755, za_756, zb_757, za_758, za_759, za_760, zb_761, za_763, za_764, za_765, true_and, and_true, Nat.reduceAdd]
  exact loop m 0 (by omega)
def zc_szat (at_ how size : Nat → Int32) (p : Int32) : Nat → Int32 := fun k => if zc_desk at_ how p k then size k else 0
theorem c10_sizesAt {E : zm_E} (hE : zm_ok E.2.2.1 E.2.2.2.2) (d : Nat) {m : Nat} (hm : m ≤ 10) (p : Int32) {M : zm_M} (hc : M.1 23 2 = nI m) : zm_R E (d + 1) mX10_sizesAt [.ref 23, .int p] M (fun r M' => r = some (.int (zc_s (zc_szat (M.1 26) (M.1 28) (M.1 27) p) m)) ∧ M' = M) := by
  refine zX10_sizesAt hE rfl (fun G h0 h4 h41 h47 => ?_)
  show G 0 [some (.ref 23), some (.int p), none, none] [] M
  have loop : ∀ (f k : Nat), k + f = m → G 4 [some (.ref 23), some (.int p), some (.int (zc_s (zc_szat (M.1 26) (M.1 28) (M.1 27) p) k)), some (.int (nI k))] [] M := by
    intro f
    induction f with
    | zero =>
      intro k hk
      have hk : k = m := by omega
      subst hk
      refine h4 _ _ _ ?_
      simp only [bX10_sizesAt_4, zw_0, zw_1, zs_iloadn3, zs_aloadn0, zs_aloadNn0, zg_10_18, zs_icge, zg_10_34, zs_iaload, zs_iconst, zs_iceq, zg_10_28, zs_iloadn1, zs_icne, zs_iloadn2, zg_10_31, zs_iadd, zs_istoren2, zc_none, zc_int, zc_ref, zc_null, zc_long, zb_15, zb_16, zb_17, za_18, za_19, za_20, za_21, za_22, zb_23, za_24, za_25, za_26, za_27, za_28, za_29, za_30, za_31, za_32, zb_35, za_36, za_37, za_38, za_39, za_40, zb_377, zb_378, za_379, za_380, za_381, za_382, za_383, zb_384, za_385, za_386, za_387, za_388, za_389, za_390, za_391, za_392, za_393, zb_396, za_397, za_398, za_399, za_400, za_401, zb_738, za_739, za_740, za_741, za_742, za_743, za_744, za_745, za_746, za_747, zb_748, za_749, za_750, zb_751, zb_752, za_753, za_754, za_755, za_756, zb_757, za_758, za_759, za_760, zb_761, za_763, za_764, za_765, zu_0, zu_1, zu_2, zu_3, zu_4, zu_5, zu_6, zu_7, zu_8, zu_9, zu_10, zu_11, zu_12, zu_13, zu_14, zu_15, zu_16, zu_17, zu_18, zu_19, zu_20, zu_21, zu_22, zu_23, zu_24, zu_25, zu_26, zu_27, zu_28, zu_29, zu_30, zu_90, zv_0_9, zv_1_9, zv_2_9, zv_3_9, zv_4_9, zv_5_9, zv_6_9, zv_7_9, zv_8_9, zv_0_330, zv_0_4544, zv_1_4544, zv_2_4544, zv_3_4544, zv_4_4544, zv_5_4544, zv_6_4544, zv_7_4544, zv_8_4544, zv_9_4544, zv_10_4544, zv_11_4544, zv_12_4544, zv_13_4544, zv_14_4544, zv_15_4544, zv_16_4544, zv_17_4544, zv_18_4544, zv_19_4544, zv_20_4544, zv_21_4544, zv_22_4544, zv_23_4544, zv_24_4544, zv_25_4544, zv_26_4544, zv_27_4544, zv_28_4544, zv_29_4544, zv_0_11, zv_1_11, zv_0_160, true_and, and_true, Nat.reduceAdd, hc]
      refine ⟨fun _ => ?_, fun h => absurd (nI_le (Nat.le_refl _) (by omega)) h⟩
      refine h47 _ _ _ ?_
      simp only [bX10_sizesAt_47, zw_0, zw_1, zs_iloadn2, zs_ireturn, zn_int, zn_b0, zn_b1, zb_15, zb_16, zb_17, za_18, za_19, za_20, za_21, za_22, zb_23, za_24, za_25, za_26, za_27, za_28, za_29, za_30, za_31, za_32, zb_35, za_36, za_37, za_38, za_39, za_40, zb_377, zb_378, za_379, za_380, za_381, za_382, za_383, zb_384, za_385, za_386, za_387, za_388, za_389, za_390, za_391, za_392, za_393, zb_396, za_397, za_398, za_399, za_400, za_401, zb_738, za_739, za_740, za_741, za_742, za_743, za_744, za_745, za_746, za_747, zb_748, za_749, za_750, zb_751, zb_752, za_753, za_754, za_755, za_756, zb_757, za_758, za_759, za_760, zb_761, za_763, za_764, za_765, true_and, and_true, Nat.reduceAdd]
    | succ f ih =>
      intro k hk
      have i1 : vp_in (nI k) 10 := vp_in_nI (by omega) (by decide)
      have i2 : (nI k).toNatClampNeg = k := nI_clamp (by omega)
      have next : ∀ v, v = zc_s (zc_szat (M.1 26) (M.1 28) (M.1 27) p) (k + 1) → G 41 [some (.ref 23), some (.int p), some (.int v), some (.int (nI k))] [] M := by
        intro v hv
        refine h41 _ _ _ ?_
        simp only [bX10_sizesAt_41, zw_0, zw_1, zs_iinc3, zs_goto, zc_none, zc_int, zc_ref, zc_null, zc_long, zb_15, zb_16, zb_17, za_18, za_19, za_20, za_21, za_22, zb_23, za_24, za_25, za_26, za_27, za_28, za_29, za_30, za_31, za_32, zb_35, za_36, za_37, za_38, za_39, za_40, zb_377, zb_378, za_379, za_380, za_381, za_382, za_383, zb_384, za_385, za_386, za_387, za_388, za_389, za_390, za_391, za_392, za_393, zb_396, za_397, za_398, za_399, za_400, za_401, zb_738, za_739, za_740, za_741, za_742, za_743, za_744, za_745, za_746, za_747, zb_748, za_749, za_750, zb_751, zb_752, za_753, za_754, za_755, za_756, zb_757, za_758, za_759, za_760, zb_761, za_763, za_764, za_765, true_and, and_true, Nat.reduceAdd]
        rw [hv, nI_1]
        exact ih (k + 1) (by omega)
      refine h4 _ _ _ ?_
      simp only [bX10_sizesAt_4, zw_0, zw_1, zs_iloadn3, zs_aloadn0, zs_aloadNn0, zg_10_18, zs_icge, zg_10_34, zs_iaload, zs_iconst, zs_iceq, zg_10_28, zs_iloadn1, zs_icne, zs_iloadn2, zg_10_31, zs_iadd, zs_istoren2, zc_none, zc_int, zc_ref, zc_null, zc_long, zb_15, zb_16, zb_17, za_18, za_19, za_20, za_21, za_22, zb_23, za_24, za_25, za_26, za_27, za_28, za_29, za_30, za_31, za_32, zb_35, za_36, za_37, za_38, za_39, za_40, zb_377, zb_378, za_379, za_380, za_381, za_382, za_383, zb_384, za_385, za_386, za_387, za_388, za_389, za_390, za_391, za_392, za_393, zb_396, za_397, za_398, za_399, za_400, za_401, zb_738, za_739, za_740, za_741, za_742, za_743, za_744, za_745, za_746, za_747, zb_748, za_749, za_750, zb_751, zb_752, za_753, za_754, za_755, za_756, zb_757, za_758, za_759, za_760, zb_761, za_763, za_764, za_765, zu_0, zu_1, zu_2, zu_3, zu_4, zu_5, zu_6, zu_7, zu_8, zu_9, zu_10, zu_11, zu_12, zu_13, zu_14, zu_15, zu_16, zu_17, zu_18, zu_19, zu_20, zu_21, zu_22, zu_23, zu_24, zu_25, zu_26, zu_27, zu_28, zu_29, zu_30, zu_90, zv_0_9, zv_1_9, zv_2_9, zv_3_9, zv_4_9, zv_5_9, zv_6_9, zv_7_9, zv_8_9, zv_0_330, zv_0_4544, zv_1_4544, zv_2_4544, zv_3_4544, zv_4_4544, zv_5_4544, zv_6_4544, zv_7_4544, zv_8_4544, zv_9_4544, zv_10_4544, zv_11_4544, zv_12_4544, zv_13_4544, zv_14_4544, zv_15_4544, zv_16_4544, zv_17_4544, zv_18_4544, zv_19_4544, zv_20_4544, zv_21_4544, zv_22_4544, zv_23_4544, zv_24_4544, zv_25_4544, zv_26_4544, zv_27_4544, zv_28_4544, zv_29_4544, zv_0_11, zv_1_11, zv_0_160, true_and, and_true, Nat.reduceAdd, hc, i1, i2]
      refine ⟨fun h => absurd h (nI_ge (by omega) (by omega)), fun _ => ⟨fun h => next _ ?_, fun h1 => ⟨fun h2 => next _ ?_, fun h2 => next _ ?_⟩⟩⟩
      · simp [zc_s, zc_szat, zc_desk, h]
      · simp [zc_s, zc_szat, zc_desk, h2]
      · simp [zc_s, zc_szat, zc_desk, h1, h2]
  refine h0 _ _ _ ?_
  simp only [bX10_sizesAt_0, zw_0, zw_1, zs_iconst, zs_istoren2, zs_istoren3, zc_none, zc_int, zc_ref, zc_null, zc_long, zb_15, zb_16, zb_17, za_18, za_19, za_20, za_21, za_22, zb_23, za_24, za_25, za_26, za_27, za_28, za_29, za_30, za_31, za_32, zb_35, za_36, za_37, za_38, za_39, za_40, zb_377, zb_378, za_379, za_380, za_381, za_382, za_383, zb_384, za_385, za_386, za_387, za_388, za_389, za_390, za_391, za_392, za_393, zb_396, za_397, za_398, za_399, za_400, za_401, zb_738, za_739, za_740, za_741, za_742, za_743, za_744, za_745, za_746, za_747, zb_748, za_749, za_750, zb_751, zb_752, za_753, za_754, za_755, za_756, zb_757, za_758, za_759, za_760, zb_761, za_763, za_764, za_765, true_and, and_true, Nat.reduceAdd]
  exact loop m 0 (by omega)
/-- the reference's apologies: field f of k -/
def zp (M : zm_M) (f k : Nat) : Int32 := M.1 1 (20 + 7 * k + f)
theorem c_gt {E : zm_E} (hE : zm_ok E.2.2.1 E.2.2.2.2) (d : Nat) {k : Nat} (hk : k < 10) (f : Nat) (hf : f < 7) (M : zm_M) : zm_R E (d + 1) mX12_get [.ref 0, .int (nI k), .int (nI f)] M (fun r M' => r = some (.int (zp M f k)) ∧ M' = M) := c_get hE d (by omega) M
theorem c_deskOf {E : zm_E} (hE : zm_ok E.2.2.1 E.2.2.2.2) (d : Nat) {m : Nat} (hm : m ≤ 10) (p bt_ : Int32) {M : zm_M} (hc : M.1 1 8 = nI m) : zm_R E (d + 2) mX12_deskOf [.ref 0, .int p, .int bt_] M (fun r M' => r = some (.int (nI (zc_n (fun k => decide (¬ nI k = bt_) && zc_desk (zp M 2) (zp M 4) p k) m))) ∧ M' = M) := by
  refine zX12_deskOf hE rfl (fun G h0 h5 h50 h51 h59 => ?_)
  show G 0 [some (.ref 0), some (.int p), some (.int bt_), none, none] [] M
  have loop : ∀ (f k : Nat), k + f = m → G 5 [some (.ref 0), some (.int p), some (.int bt_), some (.int (nI (zc_n (fun k => decide (¬ nI k = bt_) && zc_desk (zp M 2) (zp M 4) p k) k))), some (.int (nI k))] [] M := by
    intro f
    induction f with
    | zero =>
      intro k hk
      have hk : k = m := by omega
      subst hk
      refine h5 _ _ _ ?_
      simp only [bX12_deskOf_5, zw_0, zw_1, zs_iload4, zs_aloadn0, zs_aloadNn0, zg_12_7, zs_bipush, zs_iaload, zs_icge, zs_iloadn3, zs_iloadn2, zs_iceq, zs_iconst, zi_12_304, zs_iloadn1, zs_icne, zs_goto, zh_0, zh_1, zh_2, zh_3, zh_4, zt_i, zt_l, zt_r, zt_n, zb_0, za_1, za_2, za_3, za_4, za_5, za_6, za_7, za_8, za_9, za_10, za_11, za_12, za_13, za_14, zu_0, zu_1, zu_2, zu_3, zu_4, zu_5, zu_6, zu_7, zu_8, zu_9, zu_10, zu_11, zu_12, zu_13, zu_14, zu_15, zu_16, zu_17, zu_18, zu_19, zu_20, zu_21, zu_22, zu_23, zu_24, zu_25, zu_26, zu_27, zu_28, zu_29, zu_30, zu_90, zv_0_9, zv_1_9, zv_2_9, zv_3_9, zv_4_9, zv_5_9, zv_6_9, zv_7_9, zv_8_9, zv_0_330, zv_0_4544, zv_1_4544, zv_2_4544, zv_3_4544, zv_4_4544, zv_5_4544, zv_6_4544, zv_7_4544, zv_8_4544, zv_9_4544, zv_10_4544, zv_11_4544, zv_12_4544, zv_13_4544, zv_14_4544, zv_15_4544, zv_16_4544, zv_17_4544, zv_18_4544, zv_19_4544, zv_20_4544, zv_21_4544, zv_22_4544, zv_23_4544, zv_24_4544, zv_25_4544, zv_26_4544, zv_27_4544, zv_28_4544, zv_29_4544, zv_0_11, zv_1_11, zv_0_160, true_and, and_true, Nat.reduceAdd, hc]
      refine ⟨fun _ => ?_, fun h => absurd (nI_le (Nat.le_refl _) (by omega)) h⟩
      refine h59 _ _ _ ?_
      simp only [bX12_deskOf_59, zw_0, zw_1, zs_iloadn3, zs_ireturn, zn_int, zn_b0, zn_b1, zb_0, za_1, za_2, za_3, za_4, za_5, za_6, za_7, za_8, za_9, za_10, za_11, za_12, za_13, za_14, true_and, and_true, Nat.reduceAdd]
    | succ f ih =>
      intro k hk
      have next : ∀ v, nI (zc_n (fun k => decide (¬ nI k = bt_) && zc_desk (zp M 2) (zp M 4) p k) k) + v = nI (zc_n (fun k => decide (¬ nI k = bt_) && zc_desk (zp M 2) (zp M 4) p k) (k + 1)) → G 51 [some (.ref 0), some (.int p), some (.int bt_), some (.int (nI (zc_n (fun k => decide (¬ nI k = bt_) && zc_desk (zp M 2) (zp M 4) p k) k))), some (.int (nI k))] [.int v, .int (nI (zc_n (fun k => decide (¬ nI k = bt_) && zc_desk (zp M 2) (zp M 4) p k) k))] M := by
        intro v hv
        refine h51 _ _ _ ?_
        simp only [bX12_deskOf_51, zw_0, zw_1, zs_iadd, zs_istoren3, zs_iinc4, zs_goto, zc_none, zc_int, zc_ref, zc_null, zc_long, zb_0, za_1, za_2, za_3, za_4, za_5, za_6, za_7, za_8, za_9, za_10, za_11, za_12, za_13, za_14, true_and, and_true, Nat.reduceAdd]
        rw [hv, nI_1]
        exact ih (k + 1) (by omega)
      have no : (decide (¬ nI k = bt_) && zc_desk (zp M 2) (zp M 4) p k) = false → G 50 [some (.ref 0), some (.int p), some (.int bt_), some (.int (nI (zc_n (fun k => decide (¬ nI k = bt_) && zc_desk (zp M 2) (zp M 4) p k) k))), some (.int (nI k))] [.int (nI (zc_n (fun k => decide (¬ nI k = bt_) && zc_desk (zp M 2) (zp M 4) p k) k))] M := by
        intro hf
        refine h50 _ _ _ ?_
        simp only [bX12_deskOf_50, zw_0, zw_1, zs_iconst, zb_0, za_1, za_2, za_3, za_4, za_5, za_6, za_7, za_8, za_9, za_10, za_11, za_12, za_13, za_14, true_and, and_true, Nat.reduceAdd]
        refine next 0 ?_
        simp only [zc_n, hf, Bool.false_eq_true, if_false, Nat.add_zero]
        exact (nI_add _ 0)
      refine h5 _ _ _ ?_
      simp only [bX12_deskOf_5, zw_0, zw_1, zs_iload4, zs_aloadn0, zs_aloadNn0, zg_12_7, zs_bipush, zs_iaload, zs_icge, zs_iloadn3, zs_iloadn2, zs_iceq, zs_iconst, zi_12_304, zs_iloadn1, zs_icne, zs_goto, zh_0, zh_1, zh_2, zh_3, zh_4, zt_i, zt_l, zt_r, zt_n, zb_0, za_1, za_2, za_3, za_4, za_5, za_6, za_7, za_8, za_9, za_10, za_11, za_12, za_13, za_14, zu_0, zu_1, zu_2, zu_3, zu_4, zu_5, zu_6, zu_7, zu_8, zu_9, zu_10, zu_11, zu_12, zu_13, zu_14, zu_15, zu_16, zu_17, zu_18, zu_19, zu_20, zu_21, zu_22, zu_23, zu_24, zu_25, zu_26, zu_27, zu_28, zu_29, zu_30, zu_90, zv_0_9, zv_1_9, zv_2_9, zv_3_9, zv_4_9, zv_5_9, zv_6_9, zv_7_9, zv_8_9, zv_0_330, zv_0_4544, zv_1_4544, zv_2_4544, zv_3_4544, zv_4_4544, zv_5_4544, zv_6_4544, zv_7_4544, zv_8_4544, zv_9_4544, zv_10_4544, zv_11_4544, zv_12_4544, zv_13_4544, zv_14_4544, zv_15_4544, zv_16_4544, zv_17_4544, zv_18_4544, zv_19_4544, zv_20_4544, zv_21_4544, zv_22_4544, zv_23_4544, zv_24_4544, zv_25_4544, zv_26_4544, zv_27_4544, zv_28_4544, zv_29_4544, zv_0_11, zv_1_11, zv_0_160, true_and, and_true, Nat.reduceAdd, hc]
      refine ⟨fun h => absurd h (nI_ge (by omega) (by omega)), fun _ => ⟨fun h => no (by simp [h]), fun h1 => ?_⟩⟩
      refine zm_R_eq (c_gt hE d (k := k) (by omega) 4 (by decide) M) ?_
      simp only [bX12_deskOf_5, zw_0, zw_1, zs_iload4, zs_aloadn0, zs_aloadNn0, zg_12_7, zs_bipush, zs_iaload, zs_icge, zs_iloadn3, zs_iloadn2, zs_iceq, zs_iconst, zi_12_304, zs_iloadn1, zs_icne, zs_goto, zh_0, zh_1, zh_2, zh_3, zh_4, zt_i, zt_l, zt_r, zt_n, zb_0, za_1, za_2, za_3, za_4, za_5, za_6, za_7, za_8, za_9, za_10, za_11, za_12, za_13, za_14, zu_0, zu_1, zu_2, zu_3, zu_4, zu_5, zu_6, zu_7, zu_8, zu_9, zu_10, zu_11, zu_12, zu_13, zu_14, zu_15, zu_16, zu_17, zu_18, zu_19, zu_20, zu_21, zu_22, zu_23, zu_24, zu_25, zu_26, zu_27, zu_28, zu_29, zu_30, zu_90, zv_0_9, zv_1_9, zv_2_9, zv_3_9, zv_4_9, zv_5_9, zv_6_9, zv_7_9, zv_8_9, zv_0_330, zv_0_4544, zv_1_4544, zv_2_4544, zv_3_4544, zv_4_4544, zv_5_4544, zv_6_4544, zv_7_4544, zv_8_4544, zv_9_4544, zv_10_4544, zv_11_4544, zv_12_4544, zv_13_4544, zv_14_4544, zv_15_4544, zv_16_4544, zv_17_4544, zv_18_4544, zv_19_4544, zv_20_4544, zv_21_4544, zv_22_4544, zv_23_4544, zv_24_4544, zv_25_4544, zv_26_4544, zv_27_4544, zv_28_4544, zv_29_4544, zv_0_11, zv_1_11, zv_0_160, true_and, and_true, Nat.reduceAdd]
      refine ⟨fun h => no (by simp [zc_desk, h]), fun h2 => ?_⟩
      refine zm_R_eq (c_gt hE d (k := k) (by omega) 2 (by decide) M) ?_
      simp only [bX12_deskOf_5, zw_0, zw_1, zs_iload4, zs_aloadn0, zs_aloadNn0, zg_12_7, zs_bipush, zs_iaload, zs_icge, zs_iloadn3, zs_iloadn2, zs_iceq, zs_iconst, zi_12_304, zs_iloadn1, zs_icne, zs_goto, zh_0, zh_1, zh_2, zh_3, zh_4, zt_i, zt_l, zt_r, zt_n, zb_0, za_1, za_2, za_3, za_4, za_5, za_6, za_7, za_8, za_9, za_10, za_11, za_12, za_13, za_14, zu_0, zu_1, zu_2, zu_3, zu_4, zu_5, zu_6, zu_7, zu_8, zu_9, zu_10, zu_11, zu_12, zu_13, zu_14, zu_15, zu_16, zu_17, zu_18, zu_19, zu_20, zu_21, zu_22, zu_23, zu_24, zu_25, zu_26, zu_27, zu_28, zu_29, zu_30, zu_90, zv_0_9, zv_1_9, zv_2_9, zv_3_9, zv_4_9, zv_5_9, zv_6_9, zv_7_9, zv_8_9, zv_0_330, zv_0_4544, zv_1_4544, zv_2_4544, zv_3_4544, zv_4_4544, zv_5_4544, zv_6_4544, zv_7_4544, zv_8_4544, zv_9_4544, zv_10_4544, zv_11_4544, zv_12_4544, zv_13_4544, zv_14_4544, zv_15_4544, zv_16_4544, zv_17_4544, zv_18_4544, zv_19_4544, zv_20_4544, zv_21_4544, zv_22_4544, zv_23_4544, zv_24_4544, zv_25_4544, zv_26_4544, zv_27_4544, zv_28_4544, zv_29_4544, zv_0_11, zv_1_11, zv_0_160, true_and, and_true, Nat.reduceAdd]
      refine ⟨fun h => no (by simp [zc_desk, h]), fun h3 => next 1 ?_⟩
      have ht : (decide (¬ nI k = bt_) && zc_desk (zp M 2) (zp M 4) p k) = true := by simp [zc_desk, h1, h2, h3]
      simp only [zc_n, ht, if_true]
      exact nI_1 _
  refine h0 _ _ _ ?_
  simp only [bX12_deskOf_0, zw_0, zw_1, zs_iconst, zs_istoren3, zs_istore4, zc_none, zc_int, zc_ref, zc_null, zc_long, zb_0, za_1, za_2, za_3, za_4, za_5, za_6, za_7, za_8, za_9, za_10, za_11, za_12, za_13, za_14, true_and, and_true, Nat.reduceAdd]
  exact loop m 0 (by omega)
/-! stuck -/
def zl_max (f : Nat → Int32) : Nat → Int32 × Int32
  | 0 => (-1, 0)
  | k + 1 => if (zl_max f k).2 < f k then (nI k, f k) else zl_max f k
theorem zl_max_c {f g : Nat → Int32} : ∀ k, (∀ i, i < k → f i = g i) → zl_max f k = zl_max g k := by
  intro k
  induction k with
  | zero => intro _; rfl
  | succ k ih => intro h; simp only [zl_max]; rw [ih (fun i hi => h i (by omega)), h k (by omega)]
theorem c11_stuck {E : zm_E} (hE : zm_ok E.2.2.1 E.2.2.2.2) (d : Nat) {n m : Nat} (hn : n ≤ 10) (hm : m ≤ 10) {M : zm_M} (hc : M.1 17 0 = nI n) (hd : M.1 23 2 = nI m) : zm_R E (d + 2) mX11_stuck [.ref 15] M (fun r M' => r = some (.int (zl_max (fun p => nI (zc_n (zc_desk (M.1 26) (M.1 28) (nI p)) m)) n).1) ∧ M' = M) := by
  refine zX11_stuck hE rfl (fun G h0 h6 h44 h50 => ?_)
  show G 0 [some (.ref 15), none, none, none, none] [] M
  have loop : ∀ (f k : Nat) (l5 : Option Value), k + f = n → G 6 [some (.ref 15), some (.int (zl_max (fun p => nI (zc_n (zc_desk (M.1 26) (M.1 28) (nI p)) m)) k).1), some (.int (zl_max (fun p => nI (zc_n (zc_desk (M.1 26) (M.1 28) (nI p)) m)) k).2), some (.int (nI k)), l5] [] M := by
    intro f
    induction f with
    | zero =>
      intro k l5 hk
      have hk : k = n := by omega
      subst hk
      refine h6 _ _ _ ?_
      simp only [bX11_stuck_6, zw_0, zw_1, zs_iloadn3, zs_aloadn0, zs_aloadNn0, zg_11_10, zg_11_28, zg_11_77, zs_icge, zg_11_136, zi_11_249, zs_istore4, zs_iload4, zs_iloadn2, zs_icle, zs_istoren2, zs_istoren1, zc_none, zc_int, zc_ref, zc_null, zc_long, zh_0, zh_1, zh_2, zh_3, zh_4, zt_i, zt_l, zt_r, zt_n, zb_15, zb_16, zb_17, za_18, za_19, za_20, za_21, za_22, zb_23, za_24, za_25, za_26, za_27, za_28, za_29, za_30, za_31, za_32, zb_35, za_36, za_37, za_38, za_39, za_40, zb_377, zb_378, za_379, za_380, za_381, za_382, za_383, zb_384, za_385, za_386, za_387, za_388, za_389, za_390, za_391, za_392, za_393, zb_396, za_397, za_398, za_399, za_400, za_401, zb_738, za_739, za_740, za_741, za_742, za_743, za_744, za_745, za_746, za_747, zb_748, za_749, za_750, zb_751, zb_752, za_753, za_754, za_755, za_756, zb_757, za_758, za_759, za_760, zb_761, za_763, za_764, za_765, true_and, and_true, Nat.reduceAdd, hc]
      refine ⟨fun _ => ?_, fun h => absurd (nI_le (Nat.le_refl _) (by omega)) h⟩
      refine h50 _ _ _ ?_
      simp only [bX11_stuck_50, zw_0, zw_1, zs_iloadn1, zs_ireturn, zn_int, zn_b0, zn_b1, zb_15, zb_16, zb_17, za_18, za_19, za_20, za_21, za_22, zb_23, za_24, za_25, za_26, za_27, za_28, za_29, za_30, za_31, za_32, zb_35, za_36, za_37, za_38, za_39, za_40, zb_377, zb_378, za_379, za_380, za_381, za_382, za_383, zb_384, za_385, za_386, za_387, za_388, za_389, za_390, za_391, za_392, za_393, zb_396, za_397, za_398, za_399, za_400, za_401, zb_738, za_739, za_740, za_741, za_742, za_743, za_744, za_745, za_746, za_747, zb_748, za_749, za_750, zb_751, zb_752, za_753, za_754, za_755, za_756, zb_757, za_758, za_759, za_760, zb_761, za_763, za_764, za_765, true_and, and_true, Nat.reduceAdd]
    | succ f ih =>
      intro k l5 hk
      have next : ∀ a b l5, (a, b) = zl_max (fun p => nI (zc_n (zc_desk (M.1 26) (M.1 28) (nI p)) m)) (k + 1) → G 44 [some (.ref 15), some (.int a), some (.int b), some (.int (nI k)), l5] [] M := by
        intro a b l5 hab
        refine h44 _ _ _ ?_
        simp only [bX11_stuck_44, zw_0, zw_1, zs_iinc3, zs_goto, zc_none, zc_int, zc_ref, zc_null, zc_long, zb_15, zb_16, zb_17, za_18, za_19, za_20, za_21, za_22, zb_23, za_24, za_25, za_26, za_27, za_28, za_29, za_30, za_31, za_32, zb_35, za_36, za_37, za_38, za_39, za_40, zb_377, zb_378, za_379, za_380, za_381, za_382, za_383, zb_384, za_385, za_386, za_387, za_388, za_389, za_390, za_391, za_392, za_393, zb_396, za_397, za_398, za_399, za_400, za_401, zb_738, za_739, za_740, za_741, za_742, za_743, za_744, za_745, za_746, za_747, zb_748, za_749, za_750, zb_751, zb_752, za_753, za_754, za_755, za_756, zb_757, za_758, za_759, za_760, zb_761, za_763, za_764, za_765, true_and, and_true, Nat.reduceAdd]
        rw [nI_1, show a = (zl_max (fun p => nI (zc_n (zc_desk (M.1 26) (M.1 28) (nI p)) m)) (k + 1)).1 by rw [← hab], show b = (zl_max (fun p => nI (zc_n (zc_desk (M.1 26) (M.1 28) (nI p)) m)) (k + 1)).2 by rw [← hab]]
        exact ih (k + 1) l5 (by omega)
      refine h6 _ _ _ ?_
      simp only [bX11_stuck_6, zw_0, zw_1, zs_iloadn3, zs_aloadn0, zs_aloadNn0, zg_11_10, zg_11_28, zg_11_77, zs_icge, zg_11_136, zi_11_249, zs_istore4, zs_iload4, zs_iloadn2, zs_icle, zs_istoren2, zs_istoren1, zc_none, zc_int, zc_ref, zc_null, zc_long, zh_0, zh_1, zh_2, zh_3, zh_4, zt_i, zt_l, zt_r, zt_n, zb_15, zb_16, zb_17, za_18, za_19, za_20, za_21, za_22, zb_23, za_24, za_25, za_26, za_27, za_28, za_29, za_30, za_31, za_32, zb_35, za_36, za_37, za_38, za_39, za_40, zb_377, zb_378, za_379, za_380, za_381, za_382, za_383, zb_384, za_385, za_386, za_387, za_388, za_389, za_390, za_391, za_392, za_393, zb_396, za_397, za_398, za_399, za_400, za_401, zb_738, za_739, za_740, za_741, za_742, za_743, za_744, za_745, za_746, za_747, zb_748, za_749, za_750, zb_751, zb_752, za_753, za_754, za_755, za_756, zb_757, za_758, za_759, za_760, zb_761, za_763, za_764, za_765, true_and, and_true, Nat.reduceAdd, hc]
      refine ⟨fun h => absurd h (nI_ge (by omega) (by omega)), fun _ => ?_⟩
      refine zm_R_eq (c10_desk hE d (w := 23) (Or.inl rfl) hm (nI k) hd) ?_
      simp only [bX11_stuck_6, zw_0, zw_1, zs_iloadn3, zs_aloadn0, zs_aloadNn0, zg_11_10, zg_11_28, zg_11_77, zs_icge, zg_11_136, zi_11_249, zs_istore4, zs_iload4, zs_iloadn2, zs_icle, zs_istoren2, zs_istoren1, zc_none, zc_int, zc_ref, zc_null, zc_long, zh_0, zh_1, zh_2, zh_3, zh_4, zt_i, zt_l, zt_r, zt_n, zb_15, zb_16, zb_17, za_18, za_19, za_20, za_21, za_22, zb_23, za_24, za_25, za_26, za_27, za_28, za_29, za_30, za_31, za_32, zb_35, za_36, za_37, za_38, za_39, za_40, zb_377, zb_378, za_379, za_380, za_381, za_382, za_383, zb_384, za_385, za_386, za_387, za_388, za_389, za_390, za_391, za_392, za_393, zb_396, za_397, za_398, za_399, za_400, za_401, zb_738, za_739, za_740, za_741, za_742, za_743, za_744, za_745, za_746, za_747, zb_748, za_749, za_750, zb_751, zb_752, za_753, za_754, za_755, za_756, zb_757, za_758, za_759, za_760, zb_761, za_763, za_764, za_765, true_and, and_true, Nat.reduceAdd]
      refine ⟨fun h => next _ _ _ ?_, fun h => next _ _ _ ?_⟩
      · simp only [zl_max]
        rw [if_neg (Int32.not_lt.mpr h)]
      · simp only [zl_max]
        rw [if_pos (Int32.not_le.mp h)]
  refine h0 _ _ _ ?_
  simp only [bX11_stuck_0, zw_0, zw_1, zs_iconst, zs_istoren1, zs_istoren2, zs_istoren3, zc_none, zc_int, zc_ref, zc_null, zc_long, zb_15, zb_16, zb_17, za_18, za_19, za_20, za_21, za_22, zb_23, za_24, za_25, za_26, za_27, za_28, za_29, za_30, za_31, za_32, zb_35, za_36, za_37, za_38, za_39, za_40, zb_377, zb_378, za_379, za_380, za_381, za_382, za_383, zb_384, za_385, za_386, za_387, za_388, za_389, za_390, za_391, za_392, za_393, zb_396, za_397, za_398, za_399, za_400, za_401, zb_738, za_739, za_740, za_741, za_742, za_743, za_744, za_745, za_746, za_747, zb_748, za_749, za_750, zb_751, zb_752, za_753, za_754, za_755, za_756, zb_757, za_758, za_759, za_760, zb_761, za_763, za_764, za_765, true_and, and_true, Nat.reduceAdd]
  exact loop n 0 none (by omega)
theorem c_stuck {E : zm_E} (hE : zm_ok E.2.2.1 E.2.2.2.2) (d : Nat) {n m : Nat} (hn : n ≤ 10) (hm : m ≤ 10) {M : zm_M} (hc : M.1 1 0 = nI n) (hd : M.1 1 8 = nI m) : zm_R E (d + 3) mX12_stuck [.ref 0] M (fun r M' => r = some (.int (zl_max (fun p => nI (zc_n (fun k => decide (¬ nI k = -1) && zc_desk (zp M 2) (zp M 4) (nI p) k) m)) n).1) ∧ M' = M) := by
  refine zX12_stuck hE rfl (fun G h0 h6 h29 h38 h44 => ?_)
  show G 0 [some (.ref 0), none, none, none] [] M
  have loop : ∀ (f k : Nat), k + f = n → G 6 [some (.ref 0), some (.int (zl_max (fun p => nI (zc_n (fun k => decide (¬ nI k = -1) && zc_desk (zp M 2) (zp M 4) (nI p) k) m)) k).1), some (.int (zl_max (fun p => nI (zc_n (fun k => decide (¬ nI k = -1) && zc_desk (zp M 2) (zp M 4) (nI p) k) m)) k).2), some (.int (nI k))] [] M := by
    intro f
    induction f with
    | zero =>
      intro k hk
      have hk : k = n := by omega
      subst hk
      refine h6 _ _ _ ?_
      simp only [bX12_stuck_6, zw_0, zw_1, zs_iloadn3, zs_aloadn0, zs_aloadNn0, zg_12_7, zs_iconst, zs_iaload, zs_icge, zi_12_307, zs_iloadn2, zs_icgt, zs_goto, zh_0, zh_1, zh_2, zh_3, zh_4, zt_i, zt_l, zt_r, zt_n, zb_0, za_1, za_2, za_3, za_4, za_5, za_6, za_7, za_8, za_9, za_10, za_11, za_12, za_13, za_14, zu_0, zu_1, zu_2, zu_3, zu_4, zu_5, zu_6, zu_7, zu_8, zu_9, zu_10, zu_11, zu_12, zu_13, zu_14, zu_15, zu_16, zu_17, zu_18, zu_19, zu_20, zu_21, zu_22, zu_23, zu_24, zu_25, zu_26, zu_27, zu_28, zu_29, zu_30, zu_90, zv_0_9, zv_1_9, zv_2_9, zv_3_9, zv_4_9, zv_5_9, zv_6_9, zv_7_9, zv_8_9, zv_0_330, zv_0_4544, zv_1_4544, zv_2_4544, zv_3_4544, zv_4_4544, zv_5_4544, zv_6_4544, zv_7_4544, zv_8_4544, zv_9_4544, zv_10_4544, zv_11_4544, zv_12_4544, zv_13_4544, zv_14_4544, zv_15_4544, zv_16_4544, zv_17_4544, zv_18_4544, zv_19_4544, zv_20_4544, zv_21_4544, zv_22_4544, zv_23_4544, zv_24_4544, zv_25_4544, zv_26_4544, zv_27_4544, zv_28_4544, zv_29_4544, zv_0_11, zv_1_11, zv_0_160, true_and, and_true, Nat.reduceAdd, hc]
      refine ⟨fun _ => ?_, fun h => absurd (nI_le (Nat.le_refl _) (by omega)) h⟩
      refine h44 _ _ _ ?_
      simp only [bX12_stuck_44, zw_0, zw_1, zs_iloadn1, zs_ireturn, zn_int, zn_b0, zn_b1, zb_0, za_1, za_2, za_3, za_4, za_5, za_6, za_7, za_8, za_9, za_10, za_11, za_12, za_13, za_14, true_and, and_true, Nat.reduceAdd]
    | succ f ih =>
      intro k hk
      have next : ∀ a b, (a, b) = zl_max (fun p => nI (zc_n (fun k => decide (¬ nI k = -1) && zc_desk (zp M 2) (zp M 4) (nI p) k) m)) (k + 1) → G 38 [some (.ref 0), some (.int a), some (.int b), some (.int (nI k))] [] M := by
        intro a b hab
        refine h38 _ _ _ ?_
        simp only [bX12_stuck_38, zw_0, zw_1, zs_iinc3, zs_goto, zc_none, zc_int, zc_ref, zc_null, zc_long, zb_0, za_1, za_2, za_3, za_4, za_5, za_6, za_7, za_8, za_9, za_10, za_11, za_12, za_13, za_14, true_and, and_true, Nat.reduceAdd]
        rw [nI_1, show a = (zl_max (fun p => nI (zc_n (fun k => decide (¬ nI k = -1) && zc_desk (zp M 2) (zp M 4) (nI p) k) m)) (k + 1)).1 by rw [← hab], show b = (zl_max (fun p => nI (zc_n (fun k => decide (¬ nI k = -1) && zc_desk (zp M 2) (zp M 4) (nI p) k) m)) (k + 1)).2 by rw [← hab]]
        exact ih (k + 1) (by omega)
      refine h6 _ _ _ ?_
      simp only [bX12_stuck_6, zw_0, zw_1, zs_iloadn3, zs_aloadn0, zs_aloadNn0, zg_12_7, zs_iconst, zs_iaload, zs_icge, zi_12_307, zs_iloadn2, zs_icgt, zs_goto, zh_0, zh_1, zh_2, zh_3, zh_4, zt_i, zt_l, zt_r, zt_n, zb_0, za_1, za_2, za_3, za_4, za_5, za_6, za_7, za_8, za_9, za_10, za_11, za_12, za_13, za_14, zu_0, zu_1, zu_2, zu_3, zu_4, zu_5, zu_6, zu_7, zu_8, zu_9, zu_10, zu_11, zu_12, zu_13, zu_14, zu_15, zu_16, zu_17, zu_18, zu_19, zu_20, zu_21, zu_22, zu_23, zu_24, zu_25, zu_26, zu_27, zu_28, zu_29, zu_30, zu_90, zv_0_9, zv_1_9, zv_2_9, zv_3_9, zv_4_9, zv_5_9, zv_6_9, zv_7_9, zv_8_9, zv_0_330, zv_0_4544, zv_1_4544, zv_2_4544, zv_3_4544, zv_4_4544, zv_5_4544, zv_6_4544, zv_7_4544, zv_8_4544, zv_9_4544, zv_10_4544, zv_11_4544, zv_12_4544, zv_13_4544, zv_14_4544, zv_15_4544, zv_16_4544, zv_17_4544, zv_18_4544, zv_19_4544, zv_20_4544, zv_21_4544, zv_22_4544, zv_23_4544, zv_24_4544, zv_25_4544, zv_26_4544, zv_27_4544, zv_28_4544, zv_29_4544, zv_0_11, zv_1_11, zv_0_160, true_and, and_true, Nat.reduceAdd, hc]
      refine ⟨fun h => absurd h (nI_ge (by omega) (by omega)), fun _ => ?_⟩
      refine zm_R_eq (c_deskOf hE d hm (nI k) (-1) hd) ?_
      simp only [bX12_stuck_6, zw_0, zw_1, zs_iloadn3, zs_aloadn0, zs_aloadNn0, zg_12_7, zs_iconst, zs_iaload, zs_icge, zi_12_307, zs_iloadn2, zs_icgt, zs_goto, zh_0, zh_1, zh_2, zh_3, zh_4, zt_i, zt_l, zt_r, zt_n, zb_0, za_1, za_2, za_3, za_4, za_5, za_6, za_7, za_8, za_9, za_10, za_11, za_12, za_13, za_14, zu_0, zu_1, zu_2, zu_3, zu_4, zu_5, zu_6, zu_7, zu_8, zu_9, zu_10, zu_11, zu_12, zu_13, zu_14, zu_15, zu_16, zu_17, zu_18, zu_19, zu_20, zu_21, zu_22, zu_23, zu_24, zu_25, zu_26, zu_27, zu_28, zu_29, zu_30, zu_90, zv_0_9, zv_1_9, zv_2_9, zv_3_9, zv_4_9, zv_5_9, zv_6_9, zv_7_9, zv_8_9, zv_0_330, zv_0_4544, zv_1_4544, zv_2_4544, zv_3_4544, zv_4_4544, zv_5_4544, zv_6_4544, zv_7_4544, zv_8_4544, zv_9_4544, zv_10_4544, zv_11_4544, zv_12_4544, zv_13_4544, zv_14_4544, zv_15_4544, zv_16_4544, zv_17_4544, zv_18_4544, zv_19_4544, zv_20_4544, zv_21_4544, zv_22_4544, zv_23_4544, zv_24_4544, zv_25_4544, zv_26_4544, zv_27_4544, zv_28_4544, zv_29_4544, zv_0_11, zv_1_11, zv_0_160, true_and, and_true, Nat.reduceAdd]
      refine ⟨fun h => ?_, fun h => next _ _ ?_⟩
      · refine h29 _ _ _ ?_
        simp only [bX12_stuck_29, zw_0, zw_1, zs_aloadn0, zs_aloadNn0, zs_iloadn3, zs_iconst, zi_12_307, zs_istoren2, zs_istoren1, zc_none, zc_int, zc_ref, zc_null, zc_long, zh_0, zh_1, zh_2, zh_3, zh_4, zt_i, zt_l, zt_r, zt_n, zb_0, za_1, za_2, za_3, za_4, za_5, za_6, za_7, za_8, za_9, za_10, za_11, za_12, za_13, za_14, true_and, and_true, Nat.reduceAdd]
        refine zm_R_eq (c_deskOf hE d hm (nI k) (-1) hd) ?_
        simp only [bX12_stuck_29, zw_0, zw_1, zs_aloadn0, zs_aloadNn0, zs_iloadn3, zs_iconst, zi_12_307, zs_istoren2, zs_istoren1, zc_none, zc_int, zc_ref, zc_null, zc_long, zh_0, zh_1, zh_2, zh_3, zh_4, zt_i, zt_l, zt_r, zt_n, zb_0, za_1, za_2, za_3, za_4, za_5, za_6, za_7, za_8, za_9, za_10, za_11, za_12, za_13, za_14, true_and, and_true, Nat.reduceAdd]
        refine next _ _ ?_
        simp only [zl_max]
        rw [if_pos h]
      · simp only [zl_max]
        rw [if_neg h]
  refine h0 _ _ _ ?_
  simp only [bX12_stuck_0, zw_0, zw_1, zs_iconst, zs_istoren1, zs_istoren2, zs_istoren3, zc_none, zc_int, zc_ref, zc_null, zc_long, zb_0, za_1, za_2, za_3, za_4, za_5, za_6, za_7, za_8, za_9, za_10, za_11, za_12, za_13, za_14, true_and, and_true, Nat.reduceAdd]
  exact loop n 0 (by omega)
