/-! ===== eldest, the sums of what is owed, ranked ===== -/
def zl_eld (how began : Nat → Int32) : Nat → Int32
  | 0 => -1
  | k + 1 => if ¬ how k = 2 ∧ (zl_eld how began k = -1 ∨ began k < began (zl_eld how began k).toNatClampNeg) then nI k else zl_eld how began k
theorem zl_eld_c {h g h' g' : Nat → Int32} : ∀ k, k ≤ 10 → (∀ i, i < k → h i = h' i) → (∀ i, i < k → g i = g' i) → zl_eld h g k = zl_eld h' g' k ∧ (zl_eld h g k = -1 ∨ ∃ j, j < k ∧ zl_eld h g k = nI j) := by
  intro k
  induction k with
  | zero => intro _ _ _; exact ⟨rfl, Or.inl rfl⟩
  | succ k ih =>
    intro hk h1 h2
    obtain ⟨e, hj⟩ := ih (by omega) (fun i hi => h1 i (by omega)) (fun i hi => h2 i (by omega))
    simp only [zl_eld]
    have e3 : (¬ h k = 2 ∧ (zl_eld h g k = -1 ∨ g k < g (zl_eld h g k).toNatClampNeg)) ↔ (¬ h' k = 2 ∧ (zl_eld h' g' k = -1 ∨ g' k < g' (zl_eld h' g' k).toNatClampNeg)) := by
      rw [← e, ← h1 k (by omega), ← h2 k (by omega)]
      rcases hj with z | ⟨j, hj, z⟩
      · simp [z]
      · rw [z, nI_clamp (by omega), h2 j (by omega)]
    refine ⟨?_, ?_⟩
    · by_cases c : (¬ h k = 2 ∧ (zl_eld h g k = -1 ∨ g k < g (zl_eld h g k).toNatClampNeg))
      · rw [if_pos c, if_pos (e3.mp c)]
      · rw [if_neg c, if_neg (fun z => c (e3.mpr z)), e]
    · split
      · exact Or.inr ⟨k, by omega, rfl⟩
      · rcases hj with z | ⟨j, hj, z⟩
        · exact Or.inl z
        · exact Or.inr ⟨j, by omega, z⟩
theorem c11_eldest {E : zm_E} (hE : zm_ok E.2.2.1 E.2.2.2.2) (d : Nat) {m : Nat} (hm : m ≤ 10) {M : zm_M} (hc : M.1 23 2 = nI m) : zm_R E (d + 1) mX11_eldest [.ref 15] M (fun r M' => r = some (.int (zl_eld (M.1 28) (M.1 29) m)) ∧ M' = M) := by
  refine zX11_eldest hE rfl (fun G h0 h12 h50 h52 h58 => ?_)
  show G 0 [some (.ref 15), none, none, none] [] M
  have loop : ∀ (f k : Nat), k + f = m → G 12 [some (.ref 15), some (.ref 23), some (.int (zl_eld (M.1 28) (M.1 29) k)), some (.int (nI k))] [] M := by
    intro f
    induction f with
    | zero =>
      intro k hk
      have hk : k = m := by omega
      subst hk
      refine h12 _ _ _ ?_
      simp only [bX11_eldest_12, zw_0, zw_1, zs_iloadn3, zs_aloadn1, zs_aloadNn1, zg_11_146, zs_icge, zg_11_152, zs_iaload, zs_iconst, zs_iceq, zs_iloadn2, zg_11_270, zb_15, zb_16, zb_17, za_18, za_19, za_20, za_21, za_22, zb_23, za_24, za_25, za_26, za_27, za_28, za_29, za_30, za_31, za_32, zb_35, za_36, za_37, za_38, za_39, za_40, zb_377, zb_378, za_379, za_380, za_381, za_382, za_383, zb_384, za_385, za_386, za_387, za_388, za_389, za_390, za_391, za_392, za_393, zb_396, za_397, za_398, za_399, za_400, za_401, zb_738, za_739, za_740, za_741, za_742, za_743, za_744, za_745, za_746, za_747, zb_748, za_749, za_750, zb_751, zb_752, za_753, za_754, za_755, za_756, zb_757, za_758, za_759, za_760, zb_761, za_763, za_764, za_765, zu_0, zu_1, zu_2, zu_3, zu_4, zu_5, zu_6, zu_7, zu_8, zu_9, zu_10, zu_11, zu_12, zu_13, zu_14, zu_15, zu_16, zu_17, zu_18, zu_19, zu_20, zu_21, zu_22, zu_23, zu_24, zu_25, zu_26, zu_27, zu_28, zu_29, zu_30, zu_90, zv_0_9, zv_1_9, zv_2_9, zv_3_9, zv_4_9, zv_5_9, zv_6_9, zv_7_9, zv_8_9, zv_0_330, zv_0_4544, zv_1_4544, zv_2_4544, zv_3_4544, zv_4_4544, zv_5_4544, zv_6_4544, zv_7_4544, zv_8_4544, zv_9_4544, zv_10_4544, zv_11_4544, zv_12_4544, zv_13_4544, zv_14_4544, zv_15_4544, zv_16_4544, zv_17_4544, zv_18_4544, zv_19_4544, zv_20_4544, zv_21_4544, zv_22_4544, zv_23_4544, zv_24_4544, zv_25_4544, zv_26_4544, zv_27_4544, zv_28_4544, zv_29_4544, zv_0_11, zv_1_11, zv_0_160, true_and, and_true, Nat.reduceAdd, hc]
      refine ⟨fun _ => ?_, fun h => absurd (nI_le (Nat.le_refl _) (by omega)) h⟩
      refine h58 _ _ _ ?_
      simp only [bX11_eldest_58, zw_0, zw_1, zs_iloadn2, zs_ireturn, zn_int, zn_b0, zn_b1, zb_15, zb_16, zb_17, za_18, za_19, za_20, za_21, za_22, zb_23, za_24, za_25, za_26, za_27, za_28, za_29, za_30, za_31, za_32, zb_35, za_36, za_37, za_38, za_39, za_40, zb_377, zb_378, za_379, za_380, za_381, za_382, za_383, zb_384, za_385, za_386, za_387, za_388, za_389, za_390, za_391, za_392, za_393, zb_396, za_397, za_398, za_399, za_400, za_401, zb_738, za_739, za_740, za_741, za_742, za_743, za_744, za_745, za_746, za_747, zb_748, za_749, za_750, zb_751, zb_752, za_753, za_754, za_755, za_756, zb_757, za_758, za_759, za_760, zb_761, za_763, za_764, za_765, true_and, and_true, Nat.reduceAdd]
    | succ f ih =>
      intro k hk
      have i1 : vp_in (nI k) 10 := vp_in_nI (by omega) (by decide)
      have i2 : (nI k).toNatClampNeg = k := nI_clamp (by omega)
      have next : ∀ v, v = zl_eld (M.1 28) (M.1 29) (k + 1) → G 52 [some (.ref 15), some (.ref 23), some (.int v), some (.int (nI k))] [] M := by
        intro v hv
        refine h52 _ _ _ ?_
        simp only [bX11_eldest_52, zw_0, zw_1, zs_iinc3, zs_goto, zc_none, zc_int, zc_ref, zc_null, zc_long, zb_15, zb_16, zb_17, za_18, za_19, za_20, za_21, za_22, zb_23, za_24, za_25, za_26, za_27, za_28, za_29, za_30, za_31, za_32, zb_35, za_36, za_37, za_38, za_39, za_40, zb_377, zb_378, za_379, za_380, za_381, za_382, za_383, zb_384, za_385, za_386, za_387, za_388, za_389, za_390, za_391, za_392, za_393, zb_396, za_397, za_398, za_399, za_400, za_401, zb_738, za_739, za_740, za_741, za_742, za_743, za_744, za_745, za_746, za_747, zb_748, za_749, za_750, zb_751, zb_752, za_753, za_754, za_755, za_756, zb_757, za_758, za_759, za_760, zb_761, za_763, za_764, za_765, true_and, and_true, Nat.reduceAdd]
        rw [hv, nI_1]
        exact ih (k + 1) (by omega)
      have take : ¬ M.1 28 k = 2 → (zl_eld (M.1 28) (M.1 29) k = -1 ∨ M.1 29 k < M.1 29 (zl_eld (M.1 28) (M.1 29) k).toNatClampNeg) → G 50 [some (.ref 15), some (.ref 23), some (.int (zl_eld (M.1 28) (M.1 29) k)), some (.int (nI k))] [] M := by
        intro g1 g2
        refine h50 _ _ _ ?_
        simp only [bX11_eldest_50, zw_0, zw_1, zs_iloadn3, zs_istoren2, zc_none, zc_int, zc_ref, zc_null, zc_long, zb_15, zb_16, zb_17, za_18, za_19, za_20, za_21, za_22, zb_23, za_24, za_25, za_26, za_27, za_28, za_29, za_30, za_31, za_32, zb_35, za_36, za_37, za_38, za_39, za_40, zb_377, zb_378, za_379, za_380, za_381, za_382, za_383, zb_384, za_385, za_386, za_387, za_388, za_389, za_390, za_391, za_392, za_393, zb_396, za_397, za_398, za_399, za_400, za_401, zb_738, za_739, za_740, za_741, za_742, za_743, za_744, za_745, za_746, za_747, zb_748, za_749, za_750, zb_751, zb_752, za_753, za_754, za_755, za_756, zb_757, za_758, za_759, za_760, zb_761, za_763, za_764, za_765, true_and, and_true, Nat.reduceAdd]
        refine next _ ?_
        simp only [zl_eld]
        rw [if_pos ⟨g1, g2⟩]
      have hz := (zl_eld_c (h := M.1 28) (g := M.1 29) (h' := M.1 28) (g' := M.1 29) k (by omega) (fun _ _ => rfl) (fun _ _ => rfl)).2
      refine h12 _ _ _ ?_
      simp only [bX11_eldest_12, zw_0, zw_1, zs_iloadn3, zs_aloadn1, zs_aloadNn1, zg_11_146, zs_icge, zg_11_152, zs_iaload, zs_iconst, zs_iceq, zs_iloadn2, zg_11_270, zb_15, zb_16, zb_17, za_18, za_19, za_20, za_21, za_22, zb_23, za_24, za_25, za_26, za_27, za_28, za_29, za_30, za_31, za_32, zb_35, za_36, za_37, za_38, za_39, za_40, zb_377, zb_378, za_379, za_380, za_381, za_382, za_383, zb_384, za_385, za_386, za_387, za_388, za_389, za_390, za_391, za_392, za_393, zb_396, za_397, za_398, za_399, za_400, za_401, zb_738, za_739, za_740, za_741, za_742, za_743, za_744, za_745, za_746, za_747, zb_748, za_749, za_750, zb_751, zb_752, za_753, za_754, za_755, za_756, zb_757, za_758, za_759, za_760, zb_761, za_763, za_764, za_765, zu_0, zu_1, zu_2, zu_3, zu_4, zu_5, zu_6, zu_7, zu_8, zu_9, zu_10, zu_11, zu_12, zu_13, zu_14, zu_15, zu_16, zu_17, zu_18, zu_19, zu_20, zu_21, zu_22, zu_23, zu_24, zu_25, zu_26, zu_27, zu_28, zu_29, zu_30, zu_90, zv_0_9, zv_1_9, zv_2_9, zv_3_9, zv_4_9, zv_5_9, zv_6_9, zv_7_9, zv_8_9, zv_0_330, zv_0_4544, zv_1_4544, zv_2_4544, zv_3_4544, zv_4_4544, zv_5_4544, zv_6_4544, zv_7_4544, zv_8_4544, zv_9_4544, zv_10_4544, zv_11_4544, zv_12_4544, zv_13_4544, zv_14_4544, zv_15_4544, zv_16_4544, zv_17_4544, zv_18_4544, zv_19_4544, zv_20_4544, zv_21_4544, zv_22_4544, zv_23_4544, zv_24_4544, zv_25_4544, zv_26_4544, zv_27_4544, zv_28_4544, zv_29_4544, zv_0_11, zv_1_11, zv_0_160, true_and, and_true, Nat.reduceAdd, hc, i1, i2]
      refine ⟨fun h => absurd h (nI_ge (by omega) (by omega)), fun _ => ⟨fun h => next _ ?_, fun h1 => ⟨fun h2 => take h1 (Or.inl h2), fun h2 => ⟨?_, fun h3 => next _ ?_, fun h3 => take h1 (Or.inr (Int32.not_le.mp h3))⟩⟩⟩⟩
      · simp only [zl_eld]
        rw [if_neg (fun z => z.1 h)]
      · rcases hz with z | ⟨j, hj, z⟩
        · exact absurd z h2
        · rw [z]; exact vp_in_nI (by omega) (by decide)
      · simp only [zl_eld]
        rw [if_neg (fun z => z.2.elim h2 (fun y => Int32.not_lt.mpr h3 y))]
  refine h0 _ _ _ ?_
  simp only [bX11_eldest_0, zw_0, zw_1, zs_aloadn0, zs_aloadNn0, zg_11_10, zg_11_136, zs_astoren1, zs_astoreNn1, zs_iconst, zs_istoren2, zs_istoren3, zc_none, zc_int, zc_ref, zc_null, zc_long, zb_15, zb_16, zb_17, za_18, za_19, za_20, za_21, za_22, zb_23, za_24, za_25, za_26, za_27, za_28, za_29, za_30, za_31, za_32, zb_35, za_36, za_37, za_38, za_39, za_40, zb_377, zb_378, za_379, za_380, za_381, za_382, za_383, zb_384, za_385, za_386, za_387, za_388, za_389, za_390, za_391, za_392, za_393, zb_396, za_397, za_398, za_399, za_400, za_401, zb_738, za_739, za_740, za_741, za_742, za_743, za_744, za_745, za_746, za_747, zb_748, za_749, za_750, zb_751, zb_752, za_753, za_754, za_755, za_756, zb_757, za_758, za_759, za_760, zb_761, za_763, za_764, za_765, true_and, and_true, Nat.reduceAdd]
  exact loop m 0 (by omega)
theorem c_eldest {E : zm_E} (hE : zm_ok E.2.2.1 E.2.2.2.2) (d : Nat) {m : Nat} (hm : m ≤ 10) {M : zm_M} (hc : M.1 1 8 = nI m) : zm_R E (d + 2) mX12_eldest [.ref 0] M (fun r M' => r = some (.int (zl_eld (zp M 4) (zp M 5) m)) ∧ M' = M) := by
  refine zX12_eldest hE rfl (fun G h0 h4 h45 h47 h53 => ?_)
  show G 0 [some (.ref 0), none, none] [] M
  have loop : ∀ (f k : Nat), k + f = m → G 4 [some (.ref 0), some (.int (zl_eld (zp M 4) (zp M 5) k)), some (.int (nI k))] [] M := by
    intro f
    induction f with
    | zero =>
      intro k hk
      have hk : k = m := by omega
      subst hk
      refine h4 _ _ _ ?_
      simp only [bX12_eldest_4, zw_0, zw_1, zs_iloadn2, zs_aloadn0, zs_aloadNn0, zg_12_7, zs_bipush, zs_iaload, zs_icge, zs_iconst, zi_12_304, zs_iceq, zs_iloadn1, zh_0, zh_1, zh_2, zh_3, zh_4, zt_i, zt_l, zt_r, zt_n, zb_0, za_1, za_2, za_3, za_4, za_5, za_6, za_7, za_8, za_9, za_10, za_11, za_12, za_13, za_14, zu_0, zu_1, zu_2, zu_3, zu_4, zu_5, zu_6, zu_7, zu_8, zu_9, zu_10, zu_11, zu_12, zu_13, zu_14, zu_15, zu_16, zu_17, zu_18, zu_19, zu_20, zu_21, zu_22, zu_23, zu_24, zu_25, zu_26, zu_27, zu_28, zu_29, zu_30, zu_90, zv_0_9, zv_1_9, zv_2_9, zv_3_9, zv_4_9, zv_5_9, zv_6_9, zv_7_9, zv_8_9, zv_0_330, zv_0_4544, zv_1_4544, zv_2_4544, zv_3_4544, zv_4_4544, zv_5_4544, zv_6_4544, zv_7_4544, zv_8_4544, zv_9_4544, zv_10_4544, zv_11_4544, zv_12_4544, zv_13_4544, zv_14_4544, zv_15_4544, zv_16_4544, zv_17_4544, zv_18_4544, zv_19_4544, zv_20_4544, zv_21_4544, zv_22_4544, zv_23_4544, zv_24_4544, zv_25_4544, zv_26_4544, zv_27_4544, zv_28_4544, zv_29_4544, zv_0_11, zv_1_11, zv_0_160, true_and, and_true, Nat.reduceAdd, hc]
      refine ⟨fun _ => ?_, fun h => absurd (nI_le (Nat.le_refl _) (by omega)) h⟩
      refine h53 _ _ _ ?_
      simp only [bX12_eldest_53, zw_0, zw_1, zs_iloadn1, zs_ireturn, zn_int, zn_b0, zn_b1, zb_0, za_1, za_2, za_3, za_4, za_5, za_6, za_7, za_8, za_9, za_10, za_11, za_12, za_13, za_14, true_and, and_true, Nat.reduceAdd]
    | succ f ih =>
      intro k hk
      have next : ∀ v, v = zl_eld (zp M 4) (zp M 5) (k + 1) → G 47 [some (.ref 0), some (.int v), some (.int (nI k))] [] M := by
        intro v hv
        refine h47 _ _ _ ?_
        simp only [bX12_eldest_47, zw_0, zw_1, zs_iinc2, zs_goto, zc_none, zc_int, zc_ref, zc_null, zc_long, zb_0, za_1, za_2, za_3, za_4, za_5, za_6, za_7, za_8, za_9, za_10, za_11, za_12, za_13, za_14, true_and, and_true, Nat.reduceAdd]
        rw [hv, nI_1]
        exact ih (k + 1) (by omega)
      have take : ¬ zp M 4 k = 2 → (zl_eld (zp M 4) (zp M 5) k = -1 ∨ zp M 5 k < zp M 5 (zl_eld (zp M 4) (zp M 5) k).toNatClampNeg) → G 45 [some (.ref 0), some (.int (zl_eld (zp M 4) (zp M 5) k)), some (.int (nI k))] [] M := by
        intro g1 g2
        refine h45 _ _ _ ?_
        simp only [bX12_eldest_45, zw_0, zw_1, zs_iloadn2, zs_istoren1, zc_none, zc_int, zc_ref, zc_null, zc_long, zb_0, za_1, za_2, za_3, za_4, za_5, za_6, za_7, za_8, za_9, za_10, za_11, za_12, za_13, za_14, true_and, and_true, Nat.reduceAdd]
        refine next _ ?_
        simp only [zl_eld]
        rw [if_pos ⟨g1, g2⟩]
      have hz := (zl_eld_c (h := zp M 4) (g := zp M 5) (h' := zp M 4) (g' := zp M 5) k (by omega) (fun _ _ => rfl) (fun _ _ => rfl)).2
      refine h4 _ _ _ ?_
      simp only [bX12_eldest_4, zw_0, zw_1, zs_iloadn2, zs_aloadn0, zs_aloadNn0, zg_12_7, zs_bipush, zs_iaload, zs_icge, zs_iconst, zi_12_304, zs_iceq, zs_iloadn1, zh_0, zh_1, zh_2, zh_3, zh_4, zt_i, zt_l, zt_r, zt_n, zb_0, za_1, za_2, za_3, za_4, za_5, za_6, za_7, za_8, za_9, za_10, za_11, za_12, za_13, za_14, zu_0, zu_1, zu_2, zu_3, zu_4, zu_5, zu_6, zu_7, zu_8, zu_9, zu_10, zu_11, zu_12, zu_13, zu_14, zu_15, zu_16, zu_17, zu_18, zu_19, zu_20, zu_21, zu_22, zu_23, zu_24, zu_25, zu_26, zu_27, zu_28, zu_29, zu_30, zu_90, zv_0_9, zv_1_9, zv_2_9, zv_3_9, zv_4_9, zv_5_9, zv_6_9, zv_7_9, zv_8_9, zv_0_330, zv_0_4544, zv_1_4544, zv_2_4544, zv_3_4544, zv_4_4544, zv_5_4544, zv_6_4544, zv_7_4544, zv_8_4544, zv_9_4544, zv_10_4544, zv_11_4544, zv_12_4544, zv_13_4544, zv_14_4544, zv_15_4544, zv_16_4544, zv_17_4544, zv_18_4544, zv_19_4544, zv_20_4544, zv_21_4544, zv_22_4544, zv_23_4544, zv_24_4544, zv_25_4544, zv_26_4544, zv_27_4544, zv_28_4544, zv_29_4544, zv_0_11, zv_1_11, zv_0_160, true_and, and_true, Nat.reduceAdd, hc]
      refine ⟨fun h => absurd h (nI_ge (by omega) (by omega)), fun _ => ?_⟩
      refine zm_R_eq (c_gt hE d (k := k) (by omega) 4 (by decide) M) ?_
      simp only [bX12_eldest_4, zw_0, zw_1, zs_iloadn2, zs_aloadn0, zs_aloadNn0, zg_12_7, zs_bipush, zs_iaload, zs_icge, zs_iconst, zi_12_304, zs_iceq, zs_iloadn1, zh_0, zh_1, zh_2, zh_3, zh_4, zt_i, zt_l, zt_r, zt_n, zb_0, za_1, za_2, za_3, za_4, za_5, za_6, za_7, za_8, za_9, za_10, za_11, za_12, za_13, za_14, zu_0, zu_1, zu_2, zu_3, zu_4, zu_5, zu_6, zu_7, zu_8, zu_9, zu_10, zu_11, zu_12, zu_13, zu_14, zu_15, zu_16, zu_17, zu_18, zu_19, zu_20, zu_21, zu_22, zu_23, zu_24, zu_25, zu_26, zu_27, zu_28, zu_29, zu_30, zu_90, zv_0_9, zv_1_9, zv_2_9, zv_3_9, zv_4_9, zv_5_9, zv_6_9, zv_7_9, zv_8_9, zv_0_330, zv_0_4544, zv_1_4544, zv_2_4544, zv_3_4544, zv_4_4544, zv_5_4544, zv_6_4544, zv_7_4544, zv_8_4544, zv_9_4544, zv_10_4544, zv_11_4544, zv_12_4544, zv_13_4544, zv_14_4544, zv_15_4544, zv_16_4544, zv_17_4544, zv_18_4544, zv_19_4544, zv_20_4544, zv_21_4544, zv_22_4544, zv_23_4544, zv_24_4544, zv_25_4544, zv_26_4544, zv_27_4544, zv_28_4544, zv_29_4544, zv_0_11, zv_1_11, zv_0_160, true_and, and_true, Nat.reduceAdd]
      refine ⟨fun h => next _ ?_, fun h1 => ⟨fun h2 => take h1 (Or.inl h2), fun h2 => ?_⟩⟩
      · simp only [zl_eld]
        rw [if_neg (fun z => z.1 h)]
      · refine zm_R_eq (c_gt hE d (k := k) (by omega) 5 (by decide) M) ?_
        simp only [bX12_eldest_4, zw_0, zw_1, zs_iloadn2, zs_aloadn0, zs_aloadNn0, zg_12_7, zs_bipush, zs_iaload, zs_icge, zs_iconst, zi_12_304, zs_iceq, zs_iloadn1, zh_0, zh_1, zh_2, zh_3, zh_4, zt_i, zt_l, zt_r, zt_n, zb_0, za_1, za_2, za_3, za_4, za_5, za_6, za_7, za_8, za_9, za_10, za_11, za_12, za_13, za_14, zu_0, zu_1, zu_2, zu_3, zu_4, zu_5, zu_6, zu_7, zu_8, zu_9, zu_10, zu_11, zu_12, zu_13, zu_14, zu_15, zu_16, zu_17, zu_18, zu_19, zu_20, zu_21, zu_22, zu_23, zu_24, zu_25, zu_26, zu_27, zu_28, zu_29, zu_30, zu_90, zv_0_9, zv_1_9, zv_2_9, zv_3_9, zv_4_9, zv_5_9, zv_6_9, zv_7_9, zv_8_9, zv_0_330, zv_0_4544, zv_1_4544, zv_2_4544, zv_3_4544, zv_4_4544, zv_5_4544, zv_6_4544, zv_7_4544, zv_8_4544, zv_9_4544, zv_10_4544, zv_11_4544, zv_12_4544, zv_13_4544, zv_14_4544, zv_15_4544, zv_16_4544, zv_17_4544, zv_18_4544, zv_19_4544, zv_20_4544, zv_21_4544, zv_22_4544, zv_23_4544, zv_24_4544, zv_25_4544, zv_26_4544, zv_27_4544, zv_28_4544, zv_29_4544, zv_0_11, zv_1_11, zv_0_160, true_and, and_true, Nat.reduceAdd]
        rcases hz with z | ⟨j, hj, z⟩
        · exact absurd z h2
        · rw [z] at take ⊢
          refine zm_R_eq (c_gt hE d (k := j) (by omega) 5 (by decide) M) ?_
          rw [nI_clamp (by omega)] at take
          simp only [bX12_eldest_4, zw_0, zw_1, zs_iloadn2, zs_aloadn0, zs_aloadNn0, zg_12_7, zs_bipush, zs_iaload, zs_icge, zs_iconst, zi_12_304, zs_iceq, zs_iloadn1, zh_0, zh_1, zh_2, zh_3, zh_4, zt_i, zt_l, zt_r, zt_n, zb_0, za_1, za_2, za_3, za_4, za_5, za_6, za_7, za_8, za_9, za_10, za_11, za_12, za_13, za_14, zu_0, zu_1, zu_2, zu_3, zu_4, zu_5, zu_6, zu_7, zu_8, zu_9, zu_10, zu_11, zu_12, zu_13, zu_14, zu_15, zu_16, zu_17, zu_18, zu_19, zu_20, zu_21, zu_22, zu_23, zu_24, zu_25, zu_26, zu_27, zu_28, zu_29, zu_30, zu_90, zv_0_9, zv_1_9, zv_2_9, zv_3_9, zv_4_9, zv_5_9, zv_6_9, zv_7_9, zv_8_9, zv_0_330, zv_0_4544, zv_1_4544, zv_2_4544, zv_3_4544, zv_4_4544, zv_5_4544, zv_6_4544, zv_7_4544, zv_8_4544, zv_9_4544, zv_10_4544, zv_11_4544, zv_12_4544, zv_13_4544, zv_14_4544, zv_15_4544, zv_16_4544, zv_17_4544, zv_18_4544, zv_19_4544, zv_20_4544, zv_21_4544, zv_22_4544, zv_23_4544, zv_24_4544, zv_25_4544, zv_26_4544, zv_27_4544, zv_28_4544, zv_29_4544, zv_0_11, zv_1_11, zv_0_160, true_and, and_true, Nat.reduceAdd]
          refine ⟨fun h3 => next _ ?_, fun h3 => take h1 (Or.inr (Int32.not_le.mp h3))⟩
          simp only [zl_eld]
          rw [z, nI_clamp (by omega), if_neg (fun y => y.2.elim (fun y => h2 (by rw [z]; exact y)) (fun y => Int32.not_lt.mpr h3 y))]
  refine h0 _ _ _ ?_
  simp only [bX12_eldest_0, zw_0, zw_1, zs_iconst, zs_istoren1, zs_istoren2, zc_none, zc_int, zc_ref, zc_null, zc_long, zb_0, za_1, za_2, za_3, za_4, za_5, za_6, za_7, za_8, za_9, za_10, za_11, za_12, za_13, za_14, true_and, and_true, Nat.reduceAdd]
  exact loop m 0 (by omega)
/-! the call that zL_sry speaks of -/
def zc_sry (from_ how size : Nat → Int32) (p : Int32) : Nat → Int32 := fun k => if ¬ how k = 2 ∧ (p = -1 ∨ from_ k = p) then size k else 0
theorem c11_sry {E : zm_E} (hE : zm_ok E.2.2.1 E.2.2.2.2) (d : Nat) {n m : Nat} (hn : n ≤ 10) (hm : m ≤ 10) (p : Int32) {M : zm_M} (hc : M.1 17 0 = nI n) (hd : M.1 23 2 = nI m) {Q : Option Value → zm_M → Prop} (q1 : ¬ p = -1 → zo_is n p = false → Q (some (.int (-2))) M) (q2 : (p = -1 ∨ zo_is n p = true) → Q (some (.int (zc_s (zc_sry (M.1 24) (M.1 28) (M.1 27) p) m))) M) : zm_R E (d + 2) mX11_sorry [.ref 15, .int p] M Q := by
  refine zX11_sorry hE rfl (fun G h0 h22 h35 h71 h81 h87 => ?_)
  show G 0 [some (.ref 15), some (.int p), none, none, none] [] M
  have loop : (p = -1 ∨ zo_is n p = true) → ∀ (f k : Nat), k + f = m → G 35 [some (.ref 15), some (.int p), some (.ref 23), some (.int (zc_s (zc_sry (M.1 24) (M.1 28) (M.1 27) p) k)), some (.int (nI k))] [] M := by
    intro hp f
    induction f with
    | zero =>
      intro k hk
      have hk : k = m := by omega
      subst hk
      refine h35 _ _ _ ?_
      simp only [bX11_sorry_35, zw_0, zw_1, zs_iload4, zs_aloadn2, zs_aloadNn2, zg_11_146, zs_icge, zg_11_152, zs_iaload, zs_iconst, zs_iceq, zs_iloadn1, zg_11_266, zs_icne, zb_15, zb_16, zb_17, za_18, za_19, za_20, za_21, za_22, zb_23, za_24, za_25, za_26, za_27, za_28, za_29, za_30, za_31, za_32, zb_35, za_36, za_37, za_38, za_39, za_40, zb_377, zb_378, za_379, za_380, za_381, za_382, za_383, zb_384, za_385, za_386, za_387, za_388, za_389, za_390, za_391, za_392, za_393, zb_396, za_397, za_398, za_399, za_400, za_401, zb_738, za_739, za_740, za_741, za_742, za_743, za_744, za_745, za_746, za_747, zb_748, za_749, za_750, zb_751, zb_752, za_753, za_754, za_755, za_756, zb_757, za_758, za_759, za_760, zb_761, za_763, za_764, za_765, zu_0, zu_1, zu_2, zu_3, zu_4, zu_5, zu_6, zu_7, zu_8, zu_9, zu_10, zu_11, zu_12, zu_13, zu_14, zu_15, zu_16, zu_17, zu_18, zu_19, zu_20, zu_21, zu_22, zu_23, zu_24, zu_25, zu_26, zu_27, zu_28, zu_29, zu_30, zu_90, zv_0_9, zv_1_9, zv_2_9, zv_3_9, zv_4_9, zv_5_9, zv_6_9, zv_7_9, zv_8_9, zv_0_330, zv_0_4544, zv_1_4544, zv_2_4544, zv_3_4544, zv_4_4544, zv_5_4544, zv_6_4544, zv_7_4544, zv_8_4544, zv_9_4544, zv_10_4544, zv_11_4544, zv_12_4544, zv_13_4544, zv_14_4544, zv_15_4544, zv_16_4544, zv_17_4544, zv_18_4544, zv_19_4544, zv_20_4544, zv_21_4544, zv_22_4544, zv_23_4544, zv_24_4544, zv_25_4544, zv_26_4544, zv_27_4544, zv_28_4544, zv_29_4544, zv_0_11, zv_1_11, zv_0_160, true_and, and_true, Nat.reduceAdd, hd]
      refine ⟨fun _ => ?_, fun h => absurd (nI_le (Nat.le_refl _) (by omega)) h⟩
      refine h87 _ _ _ ?_
      simp only [bX11_sorry_87, zw_0, zw_1, zs_iloadn3, zs_ireturn, zn_int, zn_b0, zn_b1, zb_15, zb_16, zb_17, za_18, za_19, za_20, za_21, za_22, zb_23, za_24, za_25, za_26, za_27, za_28, za_29, za_30, za_31, za_32, zb_35, za_36, za_37, za_38, za_39, za_40, zb_377, zb_378, za_379, za_380, za_381, za_382, za_383, zb_384, za_385, za_386, za_387, za_388, za_389, za_390, za_391, za_392, za_393, zb_396, za_397, za_398, za_399, za_400, za_401, zb_738, za_739, za_740, za_741, za_742, za_743, za_744, za_745, za_746, za_747, zb_748, za_749, za_750, zb_751, zb_752, za_753, za_754, za_755, za_756, zb_757, za_758, za_759, za_760, zb_761, za_763, za_764, za_765, true_and, and_true, Nat.reduceAdd]
      exact q2 hp
    | succ f ih =>
      intro k hk
      have i1 : vp_in (nI k) 10 := vp_in_nI (by omega) (by decide)
      have i2 : (nI k).toNatClampNeg = k := nI_clamp (by omega)
      have next : ∀ v, v = zc_s (zc_sry (M.1 24) (M.1 28) (M.1 27) p) (k + 1) → G 81 [some (.ref 15), some (.int p), some (.ref 23), some (.int v), some (.int (nI k))] [] M := by
        intro v hv
        refine h81 _ _ _ ?_
        simp only [bX11_sorry_81, zw_0, zw_1, zs_iinc4, zs_goto, zc_none, zc_int, zc_ref, zc_null, zc_long, zb_15, zb_16, zb_17, za_18, za_19, za_20, za_21, za_22, zb_23, za_24, za_25, za_26, za_27, za_28, za_29, za_30, za_31, za_32, zb_35, za_36, za_37, za_38, za_39, za_40, zb_377, zb_378, za_379, za_380, za_381, za_382, za_383, zb_384, za_385, za_386, za_387, za_388, za_389, za_390, za_391, za_392, za_393, zb_396, za_397, za_398, za_399, za_400, za_401, zb_738, za_739, za_740, za_741, za_742, za_743, za_744, za_745, za_746, za_747, zb_748, za_749, za_750, zb_751, zb_752, za_753, za_754, za_755, za_756, zb_757, za_758, za_759, za_760, zb_761, za_763, za_764, za_765, true_and, and_true, Nat.reduceAdd]
        rw [hv, nI_1]
        exact ih (k + 1) (by omega)
      have take : ¬ M.1 28 k = 2 → (p = -1 ∨ M.1 24 k = p) → G 71 [some (.ref 15), some (.int p), some (.ref 23), some (.int (zc_s (zc_sry (M.1 24) (M.1 28) (M.1 27) p) k)), some (.int (nI k))] [] M := by
        intro g1 g2
        refine h71 _ _ _ ?_
        simp only [bX11_sorry_71, zw_0, zw_1, zs_iloadn3, zs_aloadn2, zs_aloadNn2, zg_11_269, zs_iload4, zs_iaload, zs_iadd, zs_istoren3, zc_none, zc_int, zc_ref, zc_null, zc_long, zb_15, zb_16, zb_17, za_18, za_19, za_20, za_21, za_22, zb_23, za_24, za_25, za_26, za_27, za_28, za_29, za_30, za_31, za_32, zb_35, za_36, za_37, za_38, za_39, za_40, zb_377, zb_378, za_379, za_380, za_381, za_382, za_383, zb_384, za_385, za_386, za_387, za_388, za_389, za_390, za_391, za_392, za_393, zb_396, za_397, za_398, za_399, za_400, za_401, zb_738, za_739, za_740, za_741, za_742, za_743, za_744, za_745, za_746, za_747, zb_748, za_749, za_750, zb_751, zb_752, za_753, za_754, za_755, za_756, zb_757, za_758, za_759, za_760, zb_761, za_763, za_764, za_765, zu_0, zu_1, zu_2, zu_3, zu_4, zu_5, zu_6, zu_7, zu_8, zu_9, zu_10, zu_11, zu_12, zu_13, zu_14, zu_15, zu_16, zu_17, zu_18, zu_19, zu_20, zu_21, zu_22, zu_23, zu_24, zu_25, zu_26, zu_27, zu_28, zu_29, zu_30, zu_90, zv_0_9, zv_1_9, zv_2_9, zv_3_9, zv_4_9, zv_5_9, zv_6_9, zv_7_9, zv_8_9, zv_0_330, zv_0_4544, zv_1_4544, zv_2_4544, zv_3_4544, zv_4_4544, zv_5_4544, zv_6_4544, zv_7_4544, zv_8_4544, zv_9_4544, zv_10_4544, zv_11_4544, zv_12_4544, zv_13_4544, zv_14_4544, zv_15_4544, zv_16_4544, zv_17_4544, zv_18_4544, zv_19_4544, zv_20_4544, zv_21_4544, zv_22_4544, zv_23_4544, zv_24_4544, zv_25_4544, zv_26_4544, zv_27_4544, zv_28_4544, zv_29_4544, zv_0_11, zv_1_11, zv_0_160, true_and, and_true, Nat.reduceAdd, i1, i2]
        refine next _ ?_
        simp only [zc_s, zc_sry]
        rw [if_pos ⟨g1, g2⟩]
      refine h35 _ _ _ ?_
      simp only [bX11_sorry_35, zw_0, zw_1, zs_iload4, zs_aloadn2, zs_aloadNn2, zg_11_146, zs_icge, zg_11_152, zs_iaload, zs_iconst, zs_iceq, zs_iloadn1, zg_11_266, zs_icne, zb_15, zb_16, zb_17, za_18, za_19, za_20, za_21, za_22, zb_23, za_24, za_25, za_26, za_27, za_28, za_29, za_30, za_31, za_32, zb_35, za_36, za_37, za_38, za_39, za_40, zb_377, zb_378, za_379, za_380, za_381, za_382, za_383, zb_384, za_385, za_386, za_387, za_388, za_389, za_390, za_391, za_392, za_393, zb_396, za_397, za_398, za_399, za_400, za_401, zb_738, za_739, za_740, za_741, za_742, za_743, za_744, za_745, za_746, za_747, zb_748, za_749, za_750, zb_751, zb_752, za_753, za_754, za_755, za_756, zb_757, za_758, za_759, za_760, zb_761, za_763, za_764, za_765, zu_0, zu_1, zu_2, zu_3, zu_4, zu_5, zu_6, zu_7, zu_8, zu_9, zu_10, zu_11, zu_12, zu_13, zu_14, zu_15, zu_16, zu_17, zu_18, zu_19, zu_20, zu_21, zu_22, zu_23, zu_24, zu_25, zu_26, zu_27, zu_28, zu_29, zu_30, zu_90, zv_0_9, zv_1_9, zv_2_9, zv_3_9, zv_4_9, zv_5_9, zv_6_9, zv_7_9, zv_8_9, zv_0_330, zv_0_4544, zv_1_4544, zv_2_4544, zv_3_4544, zv_4_4544, zv_5_4544, zv_6_4544, zv_7_4544, zv_8_4544, zv_9_4544, zv_10_4544, zv_11_4544, zv_12_4544, zv_13_4544, zv_14_4544, zv_15_4544, zv_16_4544, zv_17_4544, zv_18_4544, zv_19_4544, zv_20_4544, zv_21_4544, zv_22_4544, zv_23_4544, zv_24_4544, zv_25_4544, zv_26_4544, zv_27_4544, zv_28_4544, zv_29_4544, zv_0_11, zv_1_11, zv_0_160, true_and, and_true, Nat.reduceAdd, hd, i1, i2]
      refine ⟨fun h => absurd h (nI_ge (by omega) (by omega)), fun _ => ⟨fun h => next _ ?_, fun h1 => ⟨fun h2 => take h1 (Or.inl h2), fun h2 => ⟨fun h3 => next _ ?_, fun h3 => take h1 (Or.inr h3)⟩⟩⟩⟩
      · simp only [zc_s, zc_sry]
        rw [if_neg (fun z => z.1 h)]; simp
      · simp only [zc_s, zc_sry]
        rw [if_neg (fun z => z.2.elim h2 h3)]; simp
  have go : (p = -1 ∨ zo_is n p = true) → ∀ l3 l4 l5, G 22 [some (.ref 15), some (.int p), l3, l4, l5] [] M := by
    intro hp l3 l4 l5
    refine h22 _ _ _ ?_
    simp only [bX11_sorry_22, zw_0, zw_1, zs_aloadn0, zs_aloadNn0, zg_11_10, zg_11_136, zs_astoren2, zs_astoreNn2, zs_iconst, zs_istoren3, zs_istore4, zc_none, zc_int, zc_ref, zc_null, zc_long, zb_15, zb_16, zb_17, za_18, za_19, za_20, za_21, za_22, zb_23, za_24, za_25, za_26, za_27, za_28, za_29, za_30, za_31, za_32, zb_35, za_36, za_37, za_38, za_39, za_40, zb_377, zb_378, za_379, za_380, za_381, za_382, za_383, zb_384, za_385, za_386, za_387, za_388, za_389, za_390, za_391, za_392, za_393, zb_396, za_397, za_398, za_399, za_400, za_401, zb_738, za_739, za_740, za_741, za_742, za_743, za_744, za_745, za_746, za_747, zb_748, za_749, za_750, zb_751, zb_752, za_753, za_754, za_755, za_756, zb_757, za_758, za_759, za_760, zb_761, za_763, za_764, za_765, true_and, and_true, Nat.reduceAdd]
    exact loop hp m 0 (by omega)
  refine h0 _ _ _ ?_
  simp only [bX11_sorry_0, zw_0, zw_1, zs_iloadn1, zs_iconst, zs_iceq, zs_aloadn0, zs_aloadNn0, zg_11_10, zg_11_28, zi_11_82, zs_ifne, zs_bipush, zs_ireturn, zh_0, zh_1, zh_2, zh_3, zh_4, zt_i, zt_l, zt_r, zt_n, zn_int, zn_b0, zn_b1, zb_15, zb_16, zb_17, za_18, za_19, za_20, za_21, za_22, zb_23, za_24, za_25, za_26, za_27, za_28, za_29, za_30, za_31, za_32, zb_35, za_36, za_37, za_38, za_39, za_40, zb_377, zb_378, za_379, za_380, za_381, za_382, za_383, zb_384, za_385, za_386, za_387, za_388, za_389, za_390, za_391, za_392, za_393, zb_396, za_397, za_398, za_399, za_400, za_401, zb_738, za_739, za_740, za_741, za_742, za_743, za_744, za_745, za_746, za_747, zb_748, za_749, za_750, zb_751, zb_752, za_753, za_754, za_755, za_756, zb_757, za_758, za_759, za_760, zb_761, za_763, za_764, za_765, true_and, and_true, Nat.reduceAdd]
  refine ⟨fun h => go (Or.inl h) _ _ _, fun h => ?_⟩
  refine zm_R_eq (c7_has hE d (n := n) (by omega) p hc) ?_
  simp only [bX11_sorry_0, zw_0, zw_1, zs_iloadn1, zs_iconst, zs_iceq, zs_aloadn0, zs_aloadNn0, zg_11_10, zg_11_28, zi_11_82, zs_ifne, zs_bipush, zs_ireturn, zh_0, zh_1, zh_2, zh_3, zh_4, zt_i, zt_l, zt_r, zt_n, zn_int, zn_b0, zn_b1, zb_15, zb_16, zb_17, za_18, za_19, za_20, za_21, za_22, zb_23, za_24, za_25, za_26, za_27, za_28, za_29, za_30, za_31, za_32, zb_35, za_36, za_37, za_38, za_39, za_40, zb_377, zb_378, za_379, za_380, za_381, za_382, za_383, zb_384, za_385, za_386, za_387, za_388, za_389, za_390, za_391, za_392, za_393, zb_396, za_397, za_398, za_399, za_400, za_401, zb_738, za_739, za_740, za_741, za_742, za_743, za_744, za_745, za_746, za_747, zb_748, za_749, za_750, zb_751, zb_752, za_753, za_754, za_755, za_756, zb_757, za_758, za_759, za_760, zb_761, za_763, za_764, za_765, true_and, and_true, Nat.reduceAdd, zi_b0, zi_b1]
  refine ⟨fun h2 => go (Or.inr (by simpa using h2)) _ _ _, fun h2 => q1 h h2⟩
theorem c_sry {E : zm_E} (hE : zm_ok E.2.2.1 E.2.2.2.2) (d : Nat) {n m : Nat} (hn : n ≤ 10) (hm : m ≤ 10) (p : Int32) {M : zm_M} (hc : M.1 1 0 = nI n) (hd : M.1 1 8 = nI m) {Q : Option Value → zm_M → Prop} (q1 : ¬ p = -1 → zo_is n p = false → Q (some (.int (-2))) M) (q2 : (p = -1 ∨ zo_is n p = true) → Q (some (.int (zc_s (zc_sry (zp M 0) (zp M 4) (zp M 3) p) m))) M) : zm_R E (d + 3) mX12_sorry [.ref 0, .int p] M Q := by
  refine zX12_sorry hE rfl (fun G h0 h16 h20 h57 h66 h67 h75 => ?_)
  show G 0 [some (.ref 0), some (.int p), none, none] [] M
  have loop : (p = -1 ∨ zo_is n p = true) → ∀ (f k : Nat), k + f = m → G 20 [some (.ref 0), some (.int p), some (.int (zc_s (zc_sry (zp M 0) (zp M 4) (zp M 3) p) k)), some (.int (nI k))] [] M := by
    intro hp f
    induction f with
    | zero =>
      intro k hk
      have hk : k = m := by omega
      subst hk
      refine h20 _ _ _ ?_
      simp only [bX12_sorry_20, zw_0, zw_1, zs_iloadn3, zs_aloadn0, zs_aloadNn0, zg_12_7, zs_bipush, zs_iaload, zs_icge, zs_iloadn2, zs_iconst, zi_12_304, zs_iceq, zs_iloadn1, zs_icne, zh_0, zh_1, zh_2, zh_3, zh_4, zt_i, zt_l, zt_r, zt_n, zb_0, za_1, za_2, za_3, za_4, za_5, za_6, za_7, za_8, za_9, za_10, za_11, za_12, za_13, za_14, zu_0, zu_1, zu_2, zu_3, zu_4, zu_5, zu_6, zu_7, zu_8, zu_9, zu_10, zu_11, zu_12, zu_13, zu_14, zu_15, zu_16, zu_17, zu_18, zu_19, zu_20, zu_21, zu_22, zu_23, zu_24, zu_25, zu_26, zu_27, zu_28, zu_29, zu_30, zu_90, zv_0_9, zv_1_9, zv_2_9, zv_3_9, zv_4_9, zv_5_9, zv_6_9, zv_7_9, zv_8_9, zv_0_330, zv_0_4544, zv_1_4544, zv_2_4544, zv_3_4544, zv_4_4544, zv_5_4544, zv_6_4544, zv_7_4544, zv_8_4544, zv_9_4544, zv_10_4544, zv_11_4544, zv_12_4544, zv_13_4544, zv_14_4544, zv_15_4544, zv_16_4544, zv_17_4544, zv_18_4544, zv_19_4544, zv_20_4544, zv_21_4544, zv_22_4544, zv_23_4544, zv_24_4544, zv_25_4544, zv_26_4544, zv_27_4544, zv_28_4544, zv_29_4544, zv_0_11, zv_1_11, zv_0_160, true_and, and_true, Nat.reduceAdd, hd]
      refine ⟨fun _ => ?_, fun h => absurd (nI_le (Nat.le_refl _) (by omega)) h⟩
      refine h75 _ _ _ ?_
      simp only [bX12_sorry_75, zw_0, zw_1, zs_iloadn2, zs_ireturn, zn_int, zn_b0, zn_b1, zb_0, za_1, za_2, za_3, za_4, za_5, za_6, za_7, za_8, za_9, za_10, za_11, za_12, za_13, za_14, true_and, and_true, Nat.reduceAdd]
      exact q2 hp
    | succ f ih =>
      intro k hk
      have next : ∀ v, zc_s (zc_sry (zp M 0) (zp M 4) (zp M 3) p) k + v = zc_s (zc_sry (zp M 0) (zp M 4) (zp M 3) p) (k + 1) → G 67 [some (.ref 0), some (.int p), some (.int (zc_s (zc_sry (zp M 0) (zp M 4) (zp M 3) p) k)), some (.int (nI k))] [.int v, .int (zc_s (zc_sry (zp M 0) (zp M 4) (zp M 3) p) k)] M := by
        intro v hv
        refine h67 _ _ _ ?_
        simp only [bX12_sorry_67, zw_0, zw_1, zs_iadd, zs_istoren2, zs_iinc3, zs_goto, zc_none, zc_int, zc_ref, zc_null, zc_long, zb_0, za_1, za_2, za_3, za_4, za_5, za_6, za_7, za_8, za_9, za_10, za_11, za_12, za_13, za_14, true_and, and_true, Nat.reduceAdd]
        rw [hv, nI_1]
        exact ih (k + 1) (by omega)
      have take : ¬ zp M 4 k = 2 → (p = -1 ∨ zp M 0 k = p) → G 57 [some (.ref 0), some (.int p), some (.int (zc_s (zc_sry (zp M 0) (zp M 4) (zp M 3) p) k)), some (.int (nI k))] [.int (zc_s (zc_sry (zp M 0) (zp M 4) (zp M 3) p) k)] M := by
        intro g1 g2
        refine h57 _ _ _ ?_
        simp only [bX12_sorry_57, zw_0, zw_1, zs_aloadn0, zs_aloadNn0, zs_iloadn3, zs_iconst, zi_12_304, zs_goto, zh_0, zh_1, zh_2, zh_3, zh_4, zt_i, zt_l, zt_r, zt_n, zb_0, za_1, za_2, za_3, za_4, za_5, za_6, za_7, za_8, za_9, za_10, za_11, za_12, za_13, za_14, true_and, and_true, Nat.reduceAdd]
        refine zm_R_eq (c_gt hE (d + 1) (k := k) (by omega) 3 (by decide) M) ?_
        simp only [bX12_sorry_57, zw_0, zw_1, zs_aloadn0, zs_aloadNn0, zs_iloadn3, zs_iconst, zi_12_304, zs_goto, zh_0, zh_1, zh_2, zh_3, zh_4, zt_i, zt_l, zt_r, zt_n, zb_0, za_1, za_2, za_3, za_4, za_5, za_6, za_7, za_8, za_9, za_10, za_11, za_12, za_13, za_14, true_and, and_true, Nat.reduceAdd]
        refine next _ ?_
        simp only [zc_s, zc_sry]
        rw [if_pos ⟨g1, g2⟩]
      have no : ¬ (¬ zp M 4 k = 2 ∧ (p = -1 ∨ zp M 0 k = p)) → G 66 [some (.ref 0), some (.int p), some (.int (zc_s (zc_sry (zp M 0) (zp M 4) (zp M 3) p) k)), some (.int (nI k))] [.int (zc_s (zc_sry (zp M 0) (zp M 4) (zp M 3) p) k)] M := by
        intro g1
        refine h66 _ _ _ ?_
        simp only [bX12_sorry_66, zw_0, zw_1, zs_iconst, zb_0, za_1, za_2, za_3, za_4, za_5, za_6, za_7, za_8, za_9, za_10, za_11, za_12, za_13, za_14, true_and, and_true, Nat.reduceAdd]
        refine next _ ?_
        simp only [zc_s, zc_sry]
        rw [if_neg g1]
      refine h20 _ _ _ ?_
      simp only [bX12_sorry_20, zw_0, zw_1, zs_iloadn3, zs_aloadn0, zs_aloadNn0, zg_12_7, zs_bipush, zs_iaload, zs_icge, zs_iloadn2, zs_iconst, zi_12_304, zs_iceq, zs_iloadn1, zs_icne, zh_0, zh_1, zh_2, zh_3, zh_4, zt_i, zt_l, zt_r, zt_n, zb_0, za_1, za_2, za_3, za_4, za_5, za_6, za_7, za_8, za_9, za_10, za_11, za_12, za_13, za_14, zu_0, zu_1, zu_2, zu_3, zu_4, zu_5, zu_6, zu_7, zu_8, zu_9, zu_10, zu_11, zu_12, zu_13, zu_14, zu_15, zu_16, zu_17, zu_18, zu_19, zu_20, zu_21, zu_22, zu_23, zu_24, zu_25, zu_26, zu_27, zu_28, zu_29, zu_30, zu_90, zv_0_9, zv_1_9, zv_2_9, zv_3_9, zv_4_9, zv_5_9, zv_6_9, zv_7_9, zv_8_9, zv_0_330, zv_0_4544, zv_1_4544, zv_2_4544, zv_3_4544, zv_4_4544, zv_5_4544, zv_6_4544, zv_7_4544, zv_8_4544, zv_9_4544, zv_10_4544, zv_11_4544, zv_12_4544, zv_13_4544, zv_14_4544, zv_15_4544, zv_16_4544, zv_17_4544, zv_18_4544, zv_19_4544, zv_20_4544, zv_21_4544, zv_22_4544, zv_23_4544, zv_24_4544, zv_25_4544, zv_26_4544, zv_27_4544, zv_28_4544, zv_29_4544, zv_0_11, zv_1_11, zv_0_160, true_and, and_true, Nat.reduceAdd, hd]
      refine ⟨fun h => absurd h (nI_ge (by omega) (by omega)), fun _ => ?_⟩
      refine zm_R_eq (c_gt hE (d + 1) (k := k) (by omega) 4 (by decide) M) ?_
      simp only [bX12_sorry_20, zw_0, zw_1, zs_iloadn3, zs_aloadn0, zs_aloadNn0, zg_12_7, zs_bipush, zs_iaload, zs_icge, zs_iloadn2, zs_iconst, zi_12_304, zs_iceq, zs_iloadn1, zs_icne, zh_0, zh_1, zh_2, zh_3, zh_4, zt_i, zt_l, zt_r, zt_n, zb_0, za_1, za_2, za_3, za_4, za_5, za_6, za_7, za_8, za_9, za_10, za_11, za_12, za_13, za_14, zu_0, zu_1, zu_2, zu_3, zu_4, zu_5, zu_6, zu_7, zu_8, zu_9, zu_10, zu_11, zu_12, zu_13, zu_14, zu_15, zu_16, zu_17, zu_18, zu_19, zu_20, zu_21, zu_22, zu_23, zu_24, zu_25, zu_26, zu_27, zu_28, zu_29, zu_30, zu_90, zv_0_9, zv_1_9, zv_2_9, zv_3_9, zv_4_9, zv_5_9, zv_6_9, zv_7_9, zv_8_9, zv_0_330, zv_0_4544, zv_1_4544, zv_2_4544, zv_3_4544, zv_4_4544, zv_5_4544, zv_6_4544, zv_7_4544, zv_8_4544, zv_9_4544, zv_10_4544, zv_11_4544, zv_12_4544, zv_13_4544, zv_14_4544, zv_15_4544, zv_16_4544, zv_17_4544, zv_18_4544, zv_19_4544, zv_20_4544, zv_21_4544, zv_22_4544, zv_23_4544, zv_24_4544, zv_25_4544, zv_26_4544, zv_27_4544, zv_28_4544, zv_29_4544, zv_0_11, zv_1_11, zv_0_160, true_and, and_true, Nat.reduceAdd]
      refine ⟨fun h => no (fun z => z.1 h), fun h1 => ⟨fun h2 => take h1 (Or.inl h2), fun h2 => ?_⟩⟩
      refine zm_R_eq (c_gt hE (d + 1) (k := k) (by omega) 0 (by decide) M) ?_
      simp only [bX12_sorry_20, zw_0, zw_1, zs_iloadn3, zs_aloadn0, zs_aloadNn0, zg_12_7, zs_bipush, zs_iaload, zs_icge, zs_iloadn2, zs_iconst, zi_12_304, zs_iceq, zs_iloadn1, zs_icne, zh_0, zh_1, zh_2, zh_3, zh_4, zt_i, zt_l, zt_r, zt_n, zb_0, za_1, za_2, za_3, za_4, za_5, za_6, za_7, za_8, za_9, za_10, za_11, za_12, za_13, za_14, zu_0, zu_1, zu_2, zu_3, zu_4, zu_5, zu_6, zu_7, zu_8, zu_9, zu_10, zu_11, zu_12, zu_13, zu_14, zu_15, zu_16, zu_17, zu_18, zu_19, zu_20, zu_21, zu_22, zu_23, zu_24, zu_25, zu_26, zu_27, zu_28, zu_29, zu_30, zu_90, zv_0_9, zv_1_9, zv_2_9, zv_3_9, zv_4_9, zv_5_9, zv_6_9, zv_7_9, zv_8_9, zv_0_330, zv_0_4544, zv_1_4544, zv_2_4544, zv_3_4544, zv_4_4544, zv_5_4544, zv_6_4544, zv_7_4544, zv_8_4544, zv_9_4544, zv_10_4544, zv_11_4544, zv_12_4544, zv_13_4544, zv_14_4544, zv_15_4544, zv_16_4544, zv_17_4544, zv_18_4544, zv_19_4544, zv_20_4544, zv_21_4544, zv_22_4544, zv_23_4544, zv_24_4544, zv_25_4544, zv_26_4544, zv_27_4544, zv_28_4544, zv_29_4544, zv_0_11, zv_1_11, zv_0_160, true_and, and_true, Nat.reduceAdd]
      refine ⟨fun h3 => no (fun z => z.2.elim h2 h3), fun h3 => take h1 (Or.inr h3)⟩
  have go : (p = -1 ∨ zo_is n p = true) → ∀ l3 l4, G 16 [some (.ref 0), some (.int p), l3, l4] [] M := by
    intro hp l3 l4
    refine h16 _ _ _ ?_
    simp only [bX12_sorry_16, zw_0, zw_1, zs_iconst, zs_istoren2, zs_istoren3, zc_none, zc_int, zc_ref, zc_null, zc_long, zb_0, za_1, za_2, za_3, za_4, za_5, za_6, za_7, za_8, za_9, za_10, za_11, za_12, za_13, za_14, true_and, and_true, Nat.reduceAdd]
    exact loop hp m 0 (by omega)
  refine h0 _ _ _ ?_
  simp only [bX12_sorry_0, zw_0, zw_1, zs_iloadn1, zs_iconst, zs_iceq, zs_aloadn0, zs_aloadNn0, zi_12_73, zs_ifne, zs_bipush, zs_ireturn, zh_0, zh_1, zh_2, zh_3, zh_4, zt_i, zt_l, zt_r, zt_n, zn_int, zn_b0, zn_b1, zb_0, za_1, za_2, za_3, za_4, za_5, za_6, za_7, za_8, za_9, za_10, za_11, za_12, za_13, za_14, true_and, and_true, Nat.reduceAdd]
  refine ⟨fun h => go (Or.inl h) _ _, fun h => ?_⟩
  refine zm_R_eq (c_isOfficer hE d p M) ?_
  rw [hc, zo_in (by omega)]
  simp only [bX12_sorry_0, zw_0, zw_1, zs_iloadn1, zs_iconst, zs_iceq, zs_aloadn0, zs_aloadNn0, zi_12_73, zs_ifne, zs_bipush, zs_ireturn, zh_0, zh_1, zh_2, zh_3, zh_4, zt_i, zt_l, zt_r, zt_n, zn_int, zn_b0, zn_b1, zb_0, za_1, za_2, za_3, za_4, za_5, za_6, za_7, za_8, za_9, za_10, za_11, za_12, za_13, za_14, true_and, and_true, Nat.reduceAdd, zi_b0, zi_b1]
  refine ⟨fun h2 => go (Or.inr (by simpa using h2)) _ _, fun h2 => q1 h h2⟩
