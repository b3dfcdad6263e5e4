/-! ===== the class's Staff ===== -/
def zo_is (n : Nat) (p : Int32) : Bool := decide (0 ≤ p.toInt ∧ p.toInt < n)
theorem zo_is_nI {n k : Nat} (hk : k < 2 ^ 31) : zo_is n (nI k) = decide (k < n) := by
  unfold zo_is
  rw [nI_toInt hk]
  by_cases h : k < n
  · simp [h]
  · simp [h]
theorem zo_of {n : Nat} {p : Int32} (h : zo_is n p = true) (hn : n ≤ 1000) : ∃ k, k < n ∧ p = nI k := by
  unfold zo_is at h
  have h := of_decide_eq_true h
  exact vp_in_of (vp_in_iff.mpr h) (by omega)
theorem zo_in {n : Nat} (hn : n ≤ 1000) (p : Int32) : zi_in p 0 (nI n - 1) = zi_b (zo_is n p) := by
  have e1 : (nI n - 1 : Int32).toInt = n - 1 := by
    have := pk_sub_toInt (a := n) (b := 1) (by omega) (by omega)
    exact this
  have e0 : (0 : Int32).toInt = 0 := by decide
  unfold zi_in zi_b zo_is
  simp only [Int32.lt_iff_toInt_lt, e1, e0]
  by_cases h1 : p.toInt < 0
  · rw [if_pos h1, if_neg (by simp; omega)]
  · rw [if_neg h1]
    by_cases h2 : (n : Int) - 1 < p.toInt
    · rw [if_pos h2, if_neg (by simp; omega)]
    · rw [if_neg h2, if_pos (by simp; omega)]
theorem c7_has {E : zm_E} (hE : zm_ok E.2.2.1 E.2.2.2.2) (d : Nat) {n : Nat} (hn : n ≤ 1000) (o : Int32) {M : zm_M} (hc : M.1 17 0 = nI n) : zm_R E (d + 1) mX7_has [.ref 17, .int o] M (fun r M' => r = some (.int (zi_b (zo_is n o))) ∧ M' = M) := by
  refine zX7_has hE rfl (fun G h0 h16 h17 => ?_)
  show G 0 [some (.ref 17), some (.int o)] [] M
  have e0 : (0 : Int32).toInt = 0 := by decide
  have en := nI_toInt (n := n) (by omega)
  repeat' (first | (refine h0 _ _ _ ?_; simp only [bX7_has_0, zw_0, zw_1, zs_iloadn1, zs_iflt, zs_aloadn0, zs_aloadNn0, zg_7_9, zs_icge, zs_iconst, zs_goto, zb_15, zb_16, zb_17, za_18, za_19, za_20, za_21, za_22, zb_23, za_24, za_25, za_26, za_27, za_28, za_29, za_30, za_31, za_32, zb_35, za_36, za_37, za_38, za_39, za_40, zb_377, zb_378, za_379, za_380, za_381, za_382, za_383, zb_384, za_385, za_386, za_387, za_388, za_389, za_390, za_391, za_392, za_393, zb_396, za_397, za_398, za_399, za_400, za_401, zb_738, za_739, za_740, za_741, za_742, za_743, za_744, za_745, za_746, za_747, zb_748, za_749, za_750, zb_751, zb_752, za_753, za_754, za_755, za_756, zb_757, za_758, za_759, za_760, zb_761, za_763, za_764, za_765, true_and, and_true, Nat.reduceAdd, hc]) | (refine h16 _ _ _ ?_; simp only [bX7_has_16, zw_0, zw_1, zs_iconst, zb_15, zb_16, zb_17, za_18, za_19, za_20, za_21, za_22, zb_23, za_24, za_25, za_26, za_27, za_28, za_29, za_30, za_31, za_32, zb_35, za_36, za_37, za_38, za_39, za_40, zb_377, zb_378, za_379, za_380, za_381, za_382, za_383, zb_384, za_385, za_386, za_387, za_388, za_389, za_390, za_391, za_392, za_393, zb_396, za_397, za_398, za_399, za_400, za_401, zb_738, za_739, za_740, za_741, za_742, za_743, za_744, za_745, za_746, za_747, zb_748, za_749, za_750, zb_751, zb_752, za_753, za_754, za_755, za_756, zb_757, za_758, za_759, za_760, zb_761, za_763, za_764, za_765, true_and, and_true, Nat.reduceAdd, hc]) | (refine h17 _ _ _ ?_; simp only [bX7_has_17, zw_0, zw_1, zs_ireturn, zn_int, zn_b0, zn_b1, zb_15, zb_16, zb_17, za_18, za_19, za_20, za_21, za_22, zb_23, za_24, za_25, za_26, za_27, za_28, za_29, za_30, za_31, za_32, zb_35, za_36, za_37, za_38, za_39, za_40, zb_377, zb_378, za_379, za_380, za_381, za_382, za_383, zb_384, za_385, za_386, za_387, za_388, za_389, za_390, za_391, za_392, za_393, zb_396, za_397, za_398, za_399, za_400, za_401, zb_738, za_739, za_740, za_741, za_742, za_743, za_744, za_745, za_746, za_747, zb_748, za_749, za_750, zb_751, zb_752, za_753, za_754, za_755, za_756, zb_757, za_758, za_759, za_760, zb_761, za_763, za_764, za_765, true_and, and_true, Nat.reduceAdd, hc]) | apply And.intro | intro _ | rfl)
  all_goals simp only [Int32.lt_iff_toInt_lt, Int32.le_iff_toInt_le, en, e0] at *
  · congr 2
    unfold zi_b zo_is
    rw [if_neg (by simp; omega)]
  · congr 2
    unfold zi_b zo_is
    rw [if_neg (by simp; omega)]
  · congr 2
    unfold zi_b zo_is
    rw [if_pos (by simp; omega)]
theorem zx_id {p N : Nat} (h : p < N) (hN : N < 2 ^ 31) : vp_in (nI p) N := vp_in_nI h hN
theorem c7_areCousins {E : zm_E} (hE : zm_ok E.2.2.1 E.2.2.2.2) (d : Nat) {p : Nat} (hp : p < 10) (o : Int32) (M : zm_M) : zm_R E (d + 1) mX7_areCousins [.ref 17, .int (nI p), .int o] M (fun r M' => r = some (.int (zi_has (M.1 21 p) o)) ∧ M' = M) := by
  refine zX7_areCousins hE rfl (fun G h0 h18 h19 => ?_)
  show G 0 [some (.ref 17), some (.int (nI p)), some (.int o)] [] M
  have hcl : (nI p).toNatClampNeg = p := nI_clamp (by omega)
  repeat' (first | (refine h0 _ _ _ ?_; simp only [bX7_areCousins_0, zw_0, zw_1, zs_aloadn0, zs_aloadNn0, zg_7_25, zs_iloadn1, zs_iaload, zs_iloadn2, zs_ishr, zs_iconst, zs_iand, zs_icne, zs_goto, zb_15, zb_16, zb_17, za_18, za_19, za_20, za_21, za_22, zb_23, za_24, za_25, za_26, za_27, za_28, za_29, za_30, za_31, za_32, zb_35, za_36, za_37, za_38, za_39, za_40, zb_377, zb_378, za_379, za_380, za_381, za_382, za_383, zb_384, za_385, za_386, za_387, za_388, za_389, za_390, za_391, za_392, za_393, zb_396, za_397, za_398, za_399, za_400, za_401, zb_738, za_739, za_740, za_741, za_742, za_743, za_744, za_745, za_746, za_747, zb_748, za_749, za_750, zb_751, zb_752, za_753, za_754, za_755, za_756, zb_757, za_758, za_759, za_760, zb_761, za_763, za_764, za_765, zu_0, zu_1, zu_2, zu_3, zu_4, zu_5, zu_6, zu_7, zu_8, zu_9, zu_10, zu_11, zu_12, zu_13, zu_14, zu_15, zu_16, zu_17, zu_18, zu_19, zu_20, zu_21, zu_22, zu_23, zu_24, zu_25, zu_26, zu_27, zu_28, zu_29, zu_30, zu_90, zv_0_9, zv_1_9, zv_2_9, zv_3_9, zv_4_9, zv_5_9, zv_6_9, zv_7_9, zv_8_9, zv_0_330, zv_0_4544, zv_1_4544, zv_2_4544, zv_3_4544, zv_4_4544, zv_5_4544, zv_6_4544, zv_7_4544, zv_8_4544, zv_9_4544, zv_10_4544, zv_11_4544, zv_12_4544, zv_13_4544, zv_14_4544, zv_15_4544, zv_16_4544, zv_17_4544, zv_18_4544, zv_19_4544, zv_20_4544, zv_21_4544, zv_22_4544, zv_23_4544, zv_24_4544, zv_25_4544, zv_26_4544, zv_27_4544, zv_28_4544, zv_29_4544, zv_0_11, zv_1_11, zv_0_160, true_and, and_true, Nat.reduceAdd, hcl]) | (refine h18 _ _ _ ?_; simp only [bX7_areCousins_18, zw_0, zw_1, zs_iconst, zb_15, zb_16, zb_17, za_18, za_19, za_20, za_21, za_22, zb_23, za_24, za_25, za_26, za_27, za_28, za_29, za_30, za_31, za_32, zb_35, za_36, za_37, za_38, za_39, za_40, zb_377, zb_378, za_379, za_380, za_381, za_382, za_383, zb_384, za_385, za_386, za_387, za_388, za_389, za_390, za_391, za_392, za_393, zb_396, za_397, za_398, za_399, za_400, za_401, zb_738, za_739, za_740, za_741, za_742, za_743, za_744, za_745, za_746, za_747, zb_748, za_749, za_750, zb_751, zb_752, za_753, za_754, za_755, za_756, zb_757, za_758, za_759, za_760, zb_761, za_763, za_764, za_765, true_and, and_true, Nat.reduceAdd, hcl]) | (refine h19 _ _ _ ?_; simp only [bX7_areCousins_19, zw_0, zw_1, zs_ireturn, zn_int, zn_b0, zn_b1, zb_15, zb_16, zb_17, za_18, za_19, za_20, za_21, za_22, zb_23, za_24, za_25, za_26, za_27, za_28, za_29, za_30, za_31, za_32, zb_35, za_36, za_37, za_38, za_39, za_40, zb_377, zb_378, za_379, za_380, za_381, za_382, za_383, zb_384, za_385, za_386, za_387, za_388, za_389, za_390, za_391, za_392, za_393, zb_396, za_397, za_398, za_399, za_400, za_401, zb_738, za_739, za_740, za_741, za_742, za_743, za_744, za_745, za_746, za_747, zb_748, za_749, za_750, zb_751, zb_752, za_753, za_754, za_755, za_756, zb_757, za_758, za_759, za_760, zb_761, za_763, za_764, za_765, true_and, and_true, Nat.reduceAdd, hcl]) | exact zx_id hp (by decide) | apply And.intro | intro _ | rfl)
  all_goals simp [zi_has, *]
/-- at or above -/
def zt_ae (b : Nat → Int32) (p q : Nat) : Bool := decide (p = q) || zt_ab b p q
theorem zt_ae_boss {n : Nat} {b : Nat → Int32} (h : zt_wf n b) {p q j : Nat} (hq : q < n) (hj : j < q) (e : b q = nI j) (hp : p < n) (hne : p ≠ q) : zt_ae b p q = zt_ae b p j := by
  unfold zt_ae
  rw [zt_ab_boss h hq hj e hp]
  have h1 : decide (p = q) = false := by simp [hne]
  have h2 : decide (p = j) = decide (j = p) := by by_cases z : p = j <;> simp [z, eq_comm]
  rw [h1, h2, Bool.false_or]
theorem zt_ae_le {n : Nat} {b : Nat → Int32} (h : zt_wf n b) {p q : Nat} (hp : p < n) (hq : q < n) (ha : zt_ae b p q = true) : p ≤ q := by
  unfold zt_ae at ha
  simp only [Bool.or_eq_true, decide_eq_true_eq] at ha
  rcases ha with rfl | ha
  · exact Nat.le_refl _
  · exact Nat.le_of_lt (zt_ab_lt h hp q hq ha)
theorem zt_ae_0 {n : Nat} {b : Nat → Int32} (h : zt_wf n b) : ∀ q, q < n → zt_ae b 0 q = true := by
  intro q
  induction q using Nat.strongRecOn with
  | _ q ih =>
    intro hq
    rcases Nat.eq_zero_or_pos q with rfl | h0
    · simp [zt_ae]
    · obtain ⟨j, h1, h2⟩ := h.2.2 q h0 hq
      rw [zt_ae_boss h hq h1 h2 (by omega) (by omega)]
      exact ih j h1 (by omega)
theorem c7_isAboveOrSame {E : zm_E} (hE : zm_ok E.2.2.1 E.2.2.2.2) (d : Nat) {n p q : Nat} {M : zm_M} (hw : zt_wf n (M.1 18)) (hp : p < n) (hq : q < n) : zm_R E (d + 1) mX7_isAboveOrSame [.ref 17, .int (nI p), .int (nI q)] M (fun r M' => r = some (.int (zi_b (zt_ae (M.1 18) p q))) ∧ M' = M) := by
  refine zX7_isAboveOrSame hE rfl (fun G h0 h5 h30 h39 h40 => ?_)
  show G 0 [some (.ref 17), some (.int (nI p)), some (.int (nI q)), none, none] [] M
  have hn10 := hw.1
  have done : ∀ (y : Nat) (c : Int32), y < n → y ≤ p → zt_ae (M.1 18) p y = zt_ae (M.1 18) p q → G 30 [some (.ref 17), some (.int (nI p)), some (.int (nI q)), some (.int (nI y)), some (.int c)] [] M := by
    intro y c hy hle hc
    refine h30 _ _ _ ?_
    simp only [bX7_isAboveOrSame_30, zw_0, zw_1, zs_iloadn3, zs_iloadn1, zs_icne, zs_iconst, zs_goto, zb_15, zb_16, zb_17, za_18, za_19, za_20, za_21, za_22, zb_23, za_24, za_25, za_26, za_27, za_28, za_29, za_30, za_31, za_32, zb_35, za_36, za_37, za_38, za_39, za_40, zb_377, zb_378, za_379, za_380, za_381, za_382, za_383, zb_384, za_385, za_386, za_387, za_388, za_389, za_390, za_391, za_392, za_393, zb_396, za_397, za_398, za_399, za_400, za_401, zb_738, za_739, za_740, za_741, za_742, za_743, za_744, za_745, za_746, za_747, zb_748, za_749, za_750, zb_751, zb_752, za_753, za_754, za_755, za_756, zb_757, za_758, za_759, za_760, zb_761, za_763, za_764, za_765, true_and, and_true, Nat.reduceAdd]
    refine ⟨fun hne => ?_, fun he => ?_⟩
    · refine h39 _ _ _ ?_
      simp only [bX7_isAboveOrSame_39, zw_0, zw_1, zs_iconst, zb_15, zb_16, zb_17, za_18, za_19, za_20, za_21, za_22, zb_23, za_24, za_25, za_26, za_27, za_28, za_29, za_30, za_31, za_32, zb_35, za_36, za_37, za_38, za_39, za_40, zb_377, zb_378, za_379, za_380, za_381, za_382, za_383, zb_384, za_385, za_386, za_387, za_388, za_389, za_390, za_391, za_392, za_393, zb_396, za_397, za_398, za_399, za_400, za_401, zb_738, za_739, za_740, za_741, za_742, za_743, za_744, za_745, za_746, za_747, zb_748, za_749, za_750, zb_751, zb_752, za_753, za_754, za_755, za_756, zb_757, za_758, za_759, za_760, zb_761, za_763, za_764, za_765, true_and, and_true, Nat.reduceAdd]
      refine h40 _ _ _ ?_
      simp only [bX7_isAboveOrSame_40, zw_0, zw_1, zs_ireturn, zn_int, zn_b0, zn_b1, zb_15, zb_16, zb_17, za_18, za_19, za_20, za_21, za_22, zb_23, za_24, za_25, za_26, za_27, za_28, za_29, za_30, za_31, za_32, zb_35, za_36, za_37, za_38, za_39, za_40, zb_377, zb_378, za_379, za_380, za_381, za_382, za_383, zb_384, za_385, za_386, za_387, za_388, za_389, za_390, za_391, za_392, za_393, zb_396, za_397, za_398, za_399, za_400, za_401, zb_738, za_739, za_740, za_741, za_742, za_743, za_744, za_745, za_746, za_747, zb_748, za_749, za_750, zb_751, zb_752, za_753, za_754, za_755, za_756, zb_757, za_758, za_759, za_760, zb_761, za_763, za_764, za_765, true_and, and_true, Nat.reduceAdd]
      have hf : zt_ae (M.1 18) p y = false := by
        cases hz : zt_ae (M.1 18) p y with
        | false => rfl
        | true =>
          have := zt_ae_le hw hp hy hz
          exact absurd (by rw [show y = p by omega]) hne
      rw [← hc, hf]; rfl
    · refine h40 _ _ _ ?_
      simp only [bX7_isAboveOrSame_40, zw_0, zw_1, zs_ireturn, zn_int, zn_b0, zn_b1, zb_15, zb_16, zb_17, za_18, za_19, za_20, za_21, za_22, zb_23, za_24, za_25, za_26, za_27, za_28, za_29, za_30, za_31, za_32, zb_35, za_36, za_37, za_38, za_39, za_40, zb_377, zb_378, za_379, za_380, za_381, za_382, za_383, zb_384, za_385, za_386, za_387, za_388, za_389, za_390, za_391, za_392, za_393, zb_396, za_397, za_398, za_399, za_400, za_401, zb_738, za_739, za_740, za_741, za_742, za_743, za_744, za_745, za_746, za_747, zb_748, za_749, za_750, zb_751, zb_752, za_753, za_754, za_755, za_756, zb_757, za_758, za_759, za_760, zb_761, za_763, za_764, za_765, true_and, and_true, Nat.reduceAdd]
      have : y = p := (nI_eq (by omega) (by omega)).mp he
      rw [← hc, this]
      simp [zt_ae, zi_b]
  have loop : ∀ (y c : Nat), y < n → c + y ≤ q → zt_ae (M.1 18) p y = zt_ae (M.1 18) p q → G 5 [some (.ref 17), some (.int (nI p)), some (.int (nI q)), some (.int (nI y)), some (.int (nI c))] [] M := by
    intro y
    induction y using Nat.strongRecOn with
    | _ y ih =>
      intro c hy hcy hc
      refine h5 _ _ _ ?_
      simp only [bX7_isAboveOrSame_5, zw_0, zw_1, zs_iload4, zs_bipush, zs_icge, zs_iloadn3, zs_iloadn1, zs_icle, zs_aloadn0, zs_aloadNn0, zg_7_15, zs_iaload, zs_istoren3, zs_iinc4, zs_goto, zc_none, zc_int, zc_ref, zc_null, zc_long, zb_15, zb_16, zb_17, za_18, za_19, za_20, za_21, za_22, zb_23, za_24, za_25, za_26, za_27, za_28, za_29, za_30, za_31, za_32, zb_35, za_36, za_37, za_38, za_39, za_40, zb_377, zb_378, za_379, za_380, za_381, za_382, za_383, zb_384, za_385, za_386, za_387, za_388, za_389, za_390, za_391, za_392, za_393, zb_396, za_397, za_398, za_399, za_400, za_401, zb_738, za_739, za_740, za_741, za_742, za_743, za_744, za_745, za_746, za_747, zb_748, za_749, za_750, zb_751, zb_752, za_753, za_754, za_755, za_756, zb_757, za_758, za_759, za_760, zb_761, za_763, za_764, za_765, zu_0, zu_1, zu_2, zu_3, zu_4, zu_5, zu_6, zu_7, zu_8, zu_9, zu_10, zu_11, zu_12, zu_13, zu_14, zu_15, zu_16, zu_17, zu_18, zu_19, zu_20, zu_21, zu_22, zu_23, zu_24, zu_25, zu_26, zu_27, zu_28, zu_29, zu_30, zu_90, zv_0_9, zv_1_9, zv_2_9, zv_3_9, zv_4_9, zv_5_9, zv_6_9, zv_7_9, zv_8_9, zv_0_330, zv_0_4544, zv_1_4544, zv_2_4544, zv_3_4544, zv_4_4544, zv_5_4544, zv_6_4544, zv_7_4544, zv_8_4544, zv_9_4544, zv_10_4544, zv_11_4544, zv_12_4544, zv_13_4544, zv_14_4544, zv_15_4544, zv_16_4544, zv_17_4544, zv_18_4544, zv_19_4544, zv_20_4544, zv_21_4544, zv_22_4544, zv_23_4544, zv_24_4544, zv_25_4544, zv_26_4544, zv_27_4544, zv_28_4544, zv_29_4544, zv_0_11, zv_1_11, zv_0_160, true_and, and_true, Nat.reduceAdd]
      refine ⟨fun hge => ?_, fun _ => ⟨fun hle => ?_, fun hgt => ?_⟩⟩
      · exact absurd hge (nI_ge (a := c) (b := 10) (by omega) (by decide))
      · exact done y _ hy ((nI_leI (by omega) (by omega)).mp hle) hc
      · have hlt : p < y := by
          rcases Nat.lt_or_ge p y with z | z
          · exact z
          · exact absurd ((nI_leI (by omega) (by omega)).mpr z) hgt
        obtain ⟨j, h1, h2⟩ := hw.2.2 y (by omega) hy
        refine ⟨zx_id (by omega) (by decide), ?_⟩
        rw [nI_clamp (by omega), h2, nI_1]
        refine ih j h1 (c + 1) (by omega) (by omega) ?_
        rw [← hc, zt_ae_boss hw hy h1 h2 hp (by omega)]
  refine h0 _ _ _ ?_
  simp only [bX7_isAboveOrSame_0, zw_0, zw_1, zs_iloadn2, zs_istoren3, zs_iconst, zs_istore4, zc_none, zc_int, zc_ref, zc_null, zc_long, zb_15, zb_16, zb_17, za_18, za_19, za_20, za_21, za_22, zb_23, za_24, za_25, za_26, za_27, za_28, za_29, za_30, za_31, za_32, zb_35, za_36, za_37, za_38, za_39, za_40, zb_377, zb_378, za_379, za_380, za_381, za_382, za_383, zb_384, za_385, za_386, za_387, za_388, za_389, za_390, za_391, za_392, za_393, zb_396, za_397, za_398, za_399, za_400, za_401, zb_738, za_739, za_740, za_741, za_742, za_743, za_744, za_745, za_746, za_747, zb_748, za_749, za_750, zb_751, zb_752, za_753, za_754, za_755, za_756, zb_757, za_758, za_759, za_760, zb_761, za_763, za_764, za_765, true_and, and_true, Nat.reduceAdd]
  exact loop q 0 hq (by omega) rfl
theorem c7_isAbove {E : zm_E} (hE : zm_ok E.2.2.1 E.2.2.2.2) (d : Nat) {n p q : Nat} {M : zm_M} (hw : zt_wf n (M.1 18)) (hp : p < n) (hq : q < n) : zm_R E (d + 2) mX7_isAbove [.ref 17, .int (nI p), .int (nI q)] M (fun r M' => r = some (.int (zi_b (zt_ab (M.1 18) p q))) ∧ M' = M) := by
  refine zX7_isAbove hE rfl (fun G h0 h18 h19 => ?_)
  show G 0 [some (.ref 17), some (.int (nI p)), some (.int (nI q))] [] M
  have hn10 := hw.1
  have k0 : zt_ab (M.1 18) p q = false → G 18 [some (.ref 17), some (.int (nI p)), some (.int (nI q))] [] M := by
    intro hf
    refine h18 _ _ _ ?_
    simp only [bX7_isAbove_18, zw_0, zw_1, zs_iconst, zb_15, zb_16, zb_17, za_18, za_19, za_20, za_21, za_22, zb_23, za_24, za_25, za_26, za_27, za_28, za_29, za_30, za_31, za_32, zb_35, za_36, za_37, za_38, za_39, za_40, zb_377, zb_378, za_379, za_380, za_381, za_382, za_383, zb_384, za_385, za_386, za_387, za_388, za_389, za_390, za_391, za_392, za_393, zb_396, za_397, za_398, za_399, za_400, za_401, zb_738, za_739, za_740, za_741, za_742, za_743, za_744, za_745, za_746, za_747, zb_748, za_749, za_750, zb_751, zb_752, za_753, za_754, za_755, za_756, zb_757, za_758, za_759, za_760, zb_761, za_763, za_764, za_765, true_and, and_true, Nat.reduceAdd]
    refine h19 _ _ _ ?_
    simp only [bX7_isAbove_19, zw_0, zw_1, zs_ireturn, zn_int, zn_b0, zn_b1, zb_15, zb_16, zb_17, za_18, za_19, za_20, za_21, za_22, zb_23, za_24, za_25, za_26, za_27, za_28, za_29, za_30, za_31, za_32, zb_35, za_36, za_37, za_38, za_39, za_40, zb_377, zb_378, za_379, za_380, za_381, za_382, za_383, zb_384, za_385, za_386, za_387, za_388, za_389, za_390, za_391, za_392, za_393, zb_396, za_397, za_398, za_399, za_400, za_401, zb_738, za_739, za_740, za_741, za_742, za_743, za_744, za_745, za_746, za_747, zb_748, za_749, za_750, zb_751, zb_752, za_753, za_754, za_755, za_756, zb_757, za_758, za_759, za_760, zb_761, za_763, za_764, za_765, true_and, and_true, Nat.reduceAdd]
    rw [hf]; rfl
  refine h0 _ _ _ ?_
  simp only [bX7_isAbove_0, zw_0, zw_1, zs_iloadn1, zs_iloadn2, zs_iceq, zs_aloadn0, zs_aloadNn0, zi_7_41, zs_ifeq, zs_iconst, zs_goto, zh_0, zh_1, zh_2, zh_3, zh_4, zt_i, zt_l, zt_r, zt_n, zb_15, zb_16, zb_17, za_18, za_19, za_20, za_21, za_22, zb_23, za_24, za_25, za_26, za_27, za_28, za_29, za_30, za_31, za_32, zb_35, za_36, za_37, za_38, za_39, za_40, zb_377, zb_378, za_379, za_380, za_381, za_382, za_383, zb_384, za_385, za_386, za_387, za_388, za_389, za_390, za_391, za_392, za_393, zb_396, za_397, za_398, za_399, za_400, za_401, zb_738, za_739, za_740, za_741, za_742, za_743, za_744, za_745, za_746, za_747, zb_748, za_749, za_750, zb_751, zb_752, za_753, za_754, za_755, za_756, zb_757, za_758, za_759, za_760, zb_761, za_763, za_764, za_765, true_and, and_true, Nat.reduceAdd]
  refine ⟨fun he => k0 ?_, fun hne => ?_⟩
  · have : p = q := (nI_eq (by omega) (by omega)).mp he
    cases hz : zt_ab (M.1 18) p q with
    | false => rfl
    | true => have := zt_ab_lt hw hp q hq hz; omega
  · have hpq : p ≠ q := fun z => hne (by rw [z])
    have hae : zt_ae (M.1 18) p q = zt_ab (M.1 18) p q := by unfold zt_ae; simp [hpq]
    refine zm_R_mono (c7_isAboveOrSame hE d hw hp hq) ?_
    rintro _ M' ⟨rfl, hM⟩
    subst hM
    rw [hae]
    simp only [bX7_isAbove_0, zw_0, zw_1, zs_iloadn1, zs_iloadn2, zs_iceq, zs_aloadn0, zs_aloadNn0, zi_7_41, zs_ifeq, zs_iconst, zs_goto, zh_0, zh_1, zh_2, zh_3, zh_4, zt_i, zt_l, zt_r, zt_n, zb_15, zb_16, zb_17, za_18, za_19, za_20, za_21, za_22, zb_23, za_24, za_25, za_26, za_27, za_28, za_29, za_30, za_31, za_32, zb_35, za_36, za_37, za_38, za_39, za_40, zb_377, zb_378, za_379, za_380, za_381, za_382, za_383, zb_384, za_385, za_386, za_387, za_388, za_389, za_390, za_391, za_392, za_393, zb_396, za_397, za_398, za_399, za_400, za_401, zb_738, za_739, za_740, za_741, za_742, za_743, za_744, za_745, za_746, za_747, zb_748, za_749, za_750, zb_751, zb_752, za_753, za_754, za_755, za_756, zb_757, za_758, za_759, za_760, zb_761, za_763, za_764, za_765, true_and, and_true, Nat.reduceAdd]
    cases hz : zt_ab (M'.1 18) p q with
    | false => exact ⟨fun _ => k0 hz, fun h => absurd rfl h⟩
    | true =>
      refine ⟨fun h => absurd h (by decide), fun _ => ?_⟩
      refine h19 _ _ _ ?_
      simp only [bX7_isAbove_19, zw_0, zw_1, zs_ireturn, zn_int, zn_b0, zn_b1, zb_15, zb_16, zb_17, za_18, za_19, za_20, za_21, za_22, zb_23, za_24, za_25, za_26, za_27, za_28, za_29, za_30, za_31, za_32, zb_35, za_36, za_37, za_38, za_39, za_40, zb_377, zb_378, za_379, za_380, za_381, za_382, za_383, zb_384, za_385, za_386, za_387, za_388, za_389, za_390, za_391, za_392, za_393, zb_396, za_397, za_398, za_399, za_400, za_401, zb_738, za_739, za_740, za_741, za_742, za_743, za_744, za_745, za_746, za_747, zb_748, za_749, za_750, zb_751, zb_752, za_753, za_754, za_755, za_756, zb_757, za_758, za_759, za_760, zb_761, za_763, za_764, za_765, true_and, and_true, Nat.reduceAdd]
      rw [hz]; rfl
