/-! ===== the tape (the first rows are kit/laws/BITS.to-paste) ===== -/
def bt (x : Int32) (i : Nat) : Bool := x.toBitVec.getLsbD i
theorem b_ext {x y : Int32} (h : ∀ i, i < 32 → bt x i = bt y i) : x = y := Int32.toBitVec_inj.mp (BitVec.eq_of_getLsbD_eq (fun i hi => h i hi))
theorem b_and (x y : Int32) (i : Nat) : bt (x &&& y) i = (bt x i && bt y i) := by unfold bt; rw [Int32.toBitVec_and, BitVec.getLsbD_and]
theorem b_big {x : Int32} {i : Nat} (h : 32 ≤ i) : bt x i = false := BitVec.getLsbD_of_ge _ _ h
theorem b_255 (i : Nat) : bt 255 i = decide (i < 8) := by
  rcases Nat.lt_or_ge i 32 with h | h
  · exact (by decide +kernel : ∀ i, i < 32 → bt 255 i = decide (i < 8)) i h
  · rw [b_big h, decide_eq_false (by omega)]
theorem s_l : ∀ n, n < 32 → ((nI n &&& 31).toBitVec.smod 32).toNat = n := by decide +kernel
theorem s_u : ∀ n, n < 32 → (((nI n).toUInt32 &&& Int32.toUInt32 31).toBitVec % 32).toNat = n := by decide +kernel
theorem b_ushr (n : Nat) (hn : n < 32) (x : Int32) (i : Nat) : bt ((x.toUInt32 >>> ((nI n).toUInt32 &&& Int32.toUInt32 31)).toInt32) i = bt x (n + i) := by
  show (x.toUInt32 >>> ((nI n).toUInt32 &&& Int32.toUInt32 31)).toBitVec.getLsbD i = x.toUInt32.toBitVec.getLsbD (n + i)
  rw [UInt32.toBitVec_shiftRight]
  show (x.toUInt32.toBitVec >>> (((nI n).toUInt32 &&& Int32.toUInt32 31).toBitVec % 32).toNat).getLsbD i = _
  rw [s_u n hn, BitVec.getLsbD_ushiftRight]
theorem b_sshr (n : Nat) (hn : n < 32) (x : Int32) {i : Nat} (hi : i < 32) : bt (x >>> (nI n &&& 31)) i = if n + i < 32 then bt x (n + i) else bt x 31 := by
  unfold bt
  rw [Int32.toBitVec_shiftRight]
  show (x.toBitVec.sshiftRight ((nI n &&& 31).toBitVec.smod 32).toNat).getLsbD i = _
  rw [s_l n hn, BitVec.getLsbD_sshiftRight, BitVec.msb_eq_getLsbD_last]
  simp [hi]
theorem zx_ub (n : Nat) (hn : n ≤ 24) (v : Int32) : (v.toUInt32 >>> ((nI n).toUInt32 &&& Int32.toUInt32 31)).toInt32 &&& 255 = (v >>> (nI n &&& 31)) &&& 255 := by
  apply b_ext
  intro i hi
  rw [b_and, b_and, b_255, b_ushr n (by omega), b_sshr n (by omega) v hi]
  by_cases h : i < 8
  · rw [if_pos (by omega)]
  · simp [h]
theorem zx_nar (b : Int32) : vp_nar .char (b &&& 255) = b &&& 255 := by
  unfold vp_nar
  rw [sc_nar]
def zy_b (v : Int32) (n : Nat) : Int32 := (v >>> (nI n &&& 31)) &&& 255
def zy_bs (v : Int32) : List Int32 := [zy_b v 24, zy_b v 16, zy_b v 8, zy_b v 0]
/-- bytes come behind the tape at cell p, whose length is slot f of cell o -/
def zy_fd (p o f : Nat) (M : zm_M) (t : Nat) : List Int32 → zm_M
  | [] => M
  | x :: xs => zy_fd p o f (zm_wi (zm_wi M p t x) o f (nI (t + 1))) (t + 1) xs
theorem zy_fd_len {p o f : Nat} : ∀ (xs : List Int32) (M : zm_M) (t : Nat), M.1 o f = nI t → (zy_fd p o f M t xs).1 o f = nI (t + xs.length) := by
  intro xs
  induction xs with
  | nil => intro M t h; exact h
  | cons x xs ih =>
    intro M t h
    rw [zy_fd, ih _ _ (by rw [zm_wi_same, if_pos rfl]), List.length_cons]
    congr 1
    omega
theorem zy_fd_app {p o f : Nat} : ∀ (xs ys : List Int32) (M : zm_M) (t : Nat), zy_fd p o f M t (xs ++ ys) = zy_fd p o f (zy_fd p o f M t xs) (t + xs.length) ys := by
  intro xs
  induction xs with
  | nil => intro ys M t; rfl
  | cons x xs ih =>
    intro ys M t
    rw [List.cons_append, zy_fd, ih, zy_fd, List.length_cons]
    congr 1
    omega
theorem c_four {E : zm_E} (hE : zm_ok E.2.2.1 E.2.2.2.2) (d : Nat) {t : Nat} (ht : t + 4 ≤ 300) (v : Int32) {M : zm_M} (hc : M.1 0 4 = nI t) {Q : Option Value → zm_M → Prop} (q : Q none (zy_fd 4 0 4 M t (zy_bs v))) : zm_R E (d + 1) mX12_four [.ref 0, .int v] M Q := by
  refine zX12_four hE rfl (fun G h0 h3 h39 => ?_)
  show G 0 [some (.ref 0), some (.int v), none] [] M
  have one : ∀ (k k2 : Int32) (M : zm_M) (t : Nat), ¬ k < 0 → k + -8 = k2 → t < 300 → M.1 0 4 = nI t → G 3 [some (.ref 0), some (.int v), some (.int k2)] [] (zm_wi (zm_wi M 4 t ((v >>> (k &&& 31)) &&& 255)) 0 4 (nI (t + 1))) → G 3 [some (.ref 0), some (.int v), some (.int k)] [] M := by
    intro k k2 M t hk hk2 ht hc hg
    have i1 : vp_in (nI t) 300 := vp_in_nI ht (by decide)
    have i2 : (nI t).toNatClampNeg = t := nI_clamp (by omega)
    have e1 : (zm_wi M 4 t ((v >>> (k &&& 31)) &&& 255)).1 0 4 = nI t := hc
    refine h3 _ _ _ ?_
    simp only [bX12_four_3, zw_0, zw_1, zs_iloadn2, zs_iflt, zs_aloadn0, zs_aloadNn0, zg_12_19, zg_12_81, zs_iloadn1, zs_ishr, zs_sipush, zs_iand, zs_iastore, zs_dupi, zs_dupr, zs_dupn, zs_iconst, zs_iadd, zq_12_81, zs_iinc2, zs_goto, zc_none, zc_int, zc_ref, zc_null, zc_long, zb_0, za_1, za_2, za_3, za_4, za_5, za_6, za_7, za_8, za_9, za_10, za_11, za_12, za_13, za_14, zu_0, zu_1, zu_2, zu_3, zu_4, zu_5, zu_6, zu_7, zu_8, zu_9, zu_10, zu_11, zu_12, zu_13, zu_14, zu_15, zu_16, zu_17, zu_18, zu_19, zu_20, zu_21, zu_22, zu_23, zu_24, zu_25, zu_26, zu_27, zu_28, zu_29, zu_30, zu_90, zv_0_9, zv_1_9, zv_2_9, zv_3_9, zv_4_9, zv_5_9, zv_6_9, zv_7_9, zv_8_9, zv_0_330, zv_0_4544, zv_1_4544, zv_2_4544, zv_3_4544, zv_4_4544, zv_5_4544, zv_6_4544, zv_7_4544, zv_8_4544, zv_9_4544, zv_10_4544, zv_11_4544, zv_12_4544, zv_13_4544, zv_14_4544, zv_15_4544, zv_16_4544, zv_17_4544, zv_18_4544, zv_19_4544, zv_20_4544, zv_21_4544, zv_22_4544, zv_23_4544, zv_24_4544, zv_25_4544, zv_26_4544, zv_27_4544, zv_28_4544, zv_29_4544, zv_0_11, zv_1_11, zv_0_160, true_and, and_true, Nat.reduceAdd, hc, i1, i2, e1, nI_1, hk2]
    exact ⟨fun h => absurd h hk, fun _ => hg⟩
  have last : ∀ M2, Q none M2 → G 3 [some (.ref 0), some (.int v), some (.int (-8))] [] M2 := by
    intro M2 hq
    refine h3 _ _ _ ?_
    simp only [bX12_four_3, zw_0, zw_1, zs_iloadn2, zs_iflt, zs_aloadn0, zs_aloadNn0, zg_12_19, zg_12_81, zs_iloadn1, zs_ishr, zs_sipush, zs_iand, zs_iastore, zs_dupi, zs_dupr, zs_dupn, zs_iconst, zs_iadd, zq_12_81, zs_iinc2, zs_goto, zc_none, zc_int, zc_ref, zc_null, zc_long, zb_0, za_1, za_2, za_3, za_4, za_5, za_6, za_7, za_8, za_9, za_10, za_11, za_12, za_13, za_14, zu_0, zu_1, zu_2, zu_3, zu_4, zu_5, zu_6, zu_7, zu_8, zu_9, zu_10, zu_11, zu_12, zu_13, zu_14, zu_15, zu_16, zu_17, zu_18, zu_19, zu_20, zu_21, zu_22, zu_23, zu_24, zu_25, zu_26, zu_27, zu_28, zu_29, zu_30, zu_90, zv_0_9, zv_1_9, zv_2_9, zv_3_9, zv_4_9, zv_5_9, zv_6_9, zv_7_9, zv_8_9, zv_0_330, zv_0_4544, zv_1_4544, zv_2_4544, zv_3_4544, zv_4_4544, zv_5_4544, zv_6_4544, zv_7_4544, zv_8_4544, zv_9_4544, zv_10_4544, zv_11_4544, zv_12_4544, zv_13_4544, zv_14_4544, zv_15_4544, zv_16_4544, zv_17_4544, zv_18_4544, zv_19_4544, zv_20_4544, zv_21_4544, zv_22_4544, zv_23_4544, zv_24_4544, zv_25_4544, zv_26_4544, zv_27_4544, zv_28_4544, zv_29_4544, zv_0_11, zv_1_11, zv_0_160, true_and, and_true, Nat.reduceAdd]
    refine ⟨fun _ => ?_, fun h => absurd (by decide) h⟩
    refine h39 _ _ _ ?_
    simp only [bX12_four_39, zw_0, zw_1, zs_return, zn_int, zn_b0, zn_b1, zb_0, za_1, za_2, za_3, za_4, za_5, za_6, za_7, za_8, za_9, za_10, za_11, za_12, za_13, za_14, true_and, and_true, Nat.reduceAdd]
    exact hq
  refine h0 _ _ _ ?_
  simp only [bX12_four_0, zw_0, zw_1, zs_bipush, zs_istoren2, zc_none, zc_int, zc_ref, zc_null, zc_long, zb_0, za_1, za_2, za_3, za_4, za_5, za_6, za_7, za_8, za_9, za_10, za_11, za_12, za_13, za_14, true_and, and_true, Nat.reduceAdd]
  refine one 24 16 M t (by decide) (by decide) (by omega) hc ?_
  refine one 16 8 _ (t + 1) (by decide) (by decide) (by omega) (by rw [zm_wi_same, if_pos rfl]) ?_
  refine one 8 0 _ (t + 2) (by decide) (by decide) (by omega) (by rw [zm_wi_same, if_pos rfl]) ?_
  refine one 0 (-8) _ (t + 3) (by decide) (by decide) (by omega) (by rw [zm_wi_same, if_pos rfl]) ?_
  exact last _ q
theorem c11_tapeFour {E : zm_E} (hE : zm_ok E.2.2.1 E.2.2.2.2) (d : Nat) {t : Nat} (ht : t + 4 ≤ 300) (v : Int32) {M : zm_M} (hc : M.1 15 9 = nI t) {Q : Option Value → zm_M → Prop} (q : Q none (zy_fd 765 15 9 M t (zy_bs v))) : zm_R E (d + 1) mX11_tapeFour [.ref 15, .int v] M Q := by
  refine zX11_tapeFour hE rfl (fun G h0 h3 h50 => ?_)
  show G 0 [some (.ref 15), some (.int v), none] [] M
  have one : ∀ (k2 : Int32) (n : Nat) (M : zm_M) (t : Nat), n ≤ 24 → nI n + -8 = k2 → t < 300 → M.1 15 9 = nI t → G 3 [some (.ref 15), some (.int v), some (.int k2)] [] (zm_wi (zm_wi M 765 t (zy_b v n)) 15 9 (nI (t + 1))) → G 3 [some (.ref 15), some (.int v), some (.int (nI n))] [] M := by
    intro k2 n M t hn hk2 ht hc hg
    have i1 : vp_in (nI t) 300 := vp_in_nI ht (by decide)
    have i2 : (nI t).toNatClampNeg = t := nI_clamp (by omega)
    have e1 : (zm_wi M 765 t ((v >>> (nI n &&& 31)) &&& 255)).1 15 9 = nI t := hc
    refine h3 _ _ _ ?_
    simp only [bX11_tapeFour_3, zw_0, zw_1, zs_iloadn2, zs_iflt, zs_aloadn0, zs_aloadNn0, zg_11_73, zs_sipush, zs_icge, zg_11_69, zs_iloadn1, zs_iushr, zs_iand, zs_i2c, zs_castore, zs_dupi, zs_dupr, zs_dupn, zs_iconst, zs_iadd, zq_11_73, zs_iinc2, zs_goto, zc_none, zc_int, zc_ref, zc_null, zc_long, zb_15, zb_16, zb_17, za_18, za_19, za_20, za_21, za_22, zb_23, za_24, za_25, za_26, za_27, za_28, za_29, za_30, za_31, za_32, zb_35, za_36, za_37, za_38, za_39, za_40, zb_377, zb_378, za_379, za_380, za_381, za_382, za_383, zb_384, za_385, za_386, za_387, za_388, za_389, za_390, za_391, za_392, za_393, zb_396, za_397, za_398, za_399, za_400, za_401, zb_738, za_739, za_740, za_741, za_742, za_743, za_744, za_745, za_746, za_747, zb_748, za_749, za_750, zb_751, zb_752, za_753, za_754, za_755, za_756, zb_757, za_758, za_759, za_760, zb_761, za_763, za_764, za_765, zu_0, zu_1, zu_2, zu_3, zu_4, zu_5, zu_6, zu_7, zu_8, zu_9, zu_10, zu_11, zu_12, zu_13, zu_14, zu_15, zu_16, zu_17, zu_18, zu_19, zu_20, zu_21, zu_22, zu_23, zu_24, zu_25, zu_26, zu_27, zu_28, zu_29, zu_30, zu_90, zv_0_9, zv_1_9, zv_2_9, zv_3_9, zv_4_9, zv_5_9, zv_6_9, zv_7_9, zv_8_9, zv_0_330, zv_0_4544, zv_1_4544, zv_2_4544, zv_3_4544, zv_4_4544, zv_5_4544, zv_6_4544, zv_7_4544, zv_8_4544, zv_9_4544, zv_10_4544, zv_11_4544, zv_12_4544, zv_13_4544, zv_14_4544, zv_15_4544, zv_16_4544, zv_17_4544, zv_18_4544, zv_19_4544, zv_20_4544, zv_21_4544, zv_22_4544, zv_23_4544, zv_24_4544, zv_25_4544, zv_26_4544, zv_27_4544, zv_28_4544, zv_29_4544, zv_0_11, zv_1_11, zv_0_160, true_and, and_true, Nat.reduceAdd, hc, i1, i2, zx_ub n hn v, sc_c2, zx_nar, e1, nI_1, hk2]
    refine ⟨fun h => absurd h (nI_pos (by omega)), fun _ => ⟨fun h => absurd h (nI_ge (b := 300) ht (by decide)), fun _ => hg⟩⟩
  have last : ∀ M2, Q none M2 → G 3 [some (.ref 15), some (.int v), some (.int (-8))] [] M2 := by
    intro M2 hq
    refine h3 _ _ _ ?_
    simp only [bX11_tapeFour_3, zw_0, zw_1, zs_iloadn2, zs_iflt, zs_aloadn0, zs_aloadNn0, zg_11_73, zs_sipush, zs_icge, zg_11_69, zs_iloadn1, zs_iushr, zs_iand, zs_i2c, zs_castore, zs_dupi, zs_dupr, zs_dupn, zs_iconst, zs_iadd, zq_11_73, zs_iinc2, zs_goto, zc_none, zc_int, zc_ref, zc_null, zc_long, zb_15, zb_16, zb_17, za_18, za_19, za_20, za_21, za_22, zb_23, za_24, za_25, za_26, za_27, za_28, za_29, za_30, za_31, za_32, zb_35, za_36, za_37, za_38, za_39, za_40, zb_377, zb_378, za_379, za_380, za_381, za_382, za_383, zb_384, za_385, za_386, za_387, za_388, za_389, za_390, za_391, za_392, za_393, zb_396, za_397, za_398, za_399, za_400, za_401, zb_738, za_739, za_740, za_741, za_742, za_743, za_744, za_745, za_746, za_747, zb_748, za_749, za_750, zb_751, zb_752, za_753, za_754, za_755, za_756, zb_757, za_758, za_759, za_760, zb_761, za_763, za_764, za_765, zu_0, zu_1, zu_2, zu_3, zu_4, zu_5, zu_6, zu_7, zu_8, zu_9, zu_10, zu_11, zu_12, zu_13, zu_14, zu_15, zu_16, zu_17, zu_18, zu_19, zu_20, zu_21, zu_22, zu_23, zu_24, zu_25, zu_26, zu_27, zu_28, zu_29, zu_30, zu_90, zv_0_9, zv_1_9, zv_2_9, zv_3_9, zv_4_9, zv_5_9, zv_6_9, zv_7_9, zv_8_9, zv_0_330, zv_0_4544, zv_1_4544, zv_2_4544, zv_3_4544, zv_4_4544, zv_5_4544, zv_6_4544, zv_7_4544, zv_8_4544, zv_9_4544, zv_10_4544, zv_11_4544, zv_12_4544, zv_13_4544, zv_14_4544, zv_15_4544, zv_16_4544, zv_17_4544, zv_18_4544, zv_19_4544, zv_20_4544, zv_21_4544, zv_22_4544, zv_23_4544, zv_24_4544, zv_25_4544, zv_26_4544, zv_27_4544, zv_28_4544, zv_29_4544, zv_0_11, zv_1_11, zv_0_160, true_and, and_true, Nat.reduceAdd]
    refine ⟨fun _ => ?_, fun h => absurd (by decide) h⟩
    refine h50 _ _ _ ?_
    simp only [bX11_tapeFour_50, zw_0, zw_1, zs_return, zn_int, zn_b0, zn_b1, zb_15, zb_16, zb_17, za_18, za_19, za_20, za_21, za_22, zb_23, za_24, za_25, za_26, za_27, za_28, za_29, za_30, za_31, za_32, zb_35, za_36, za_37, za_38, za_39, za_40, zb_377, zb_378, za_379, za_380, za_381, za_382, za_383, zb_384, za_385, za_386, za_387, za_388, za_389, za_390, za_391, za_392, za_393, zb_396, za_397, za_398, za_399, za_400, za_401, zb_738, za_739, za_740, za_741, za_742, za_743, za_744, za_745, za_746, za_747, zb_748, za_749, za_750, zb_751, zb_752, za_753, za_754, za_755, za_756, zb_757, za_758, za_759, za_760, zb_761, za_763, za_764, za_765, true_and, and_true, Nat.reduceAdd]
    exact hq
  refine h0 _ _ _ ?_
  simp only [bX11_tapeFour_0, zw_0, zw_1, zs_bipush, zs_istoren2, zc_none, zc_int, zc_ref, zc_null, zc_long, zb_15, zb_16, zb_17, za_18, za_19, za_20, za_21, za_22, zb_23, za_24, za_25, za_26, za_27, za_28, za_29, za_30, za_31, za_32, zb_35, za_36, za_37, za_38, za_39, za_40, zb_377, zb_378, za_379, za_380, za_381, za_382, za_383, zb_384, za_385, za_386, za_387, za_388, za_389, za_390, za_391, za_392, za_393, zb_396, za_397, za_398, za_399, za_400, za_401, zb_738, za_739, za_740, za_741, za_742, za_743, za_744, za_745, za_746, za_747, zb_748, za_749, za_750, zb_751, zb_752, za_753, za_754, za_755, za_756, zb_757, za_758, za_759, za_760, zb_761, za_763, za_764, za_765, true_and, and_true, Nat.reduceAdd]
  refine one 16 24 M t (by decide) (by decide) (by omega) hc ?_
  refine one 8 16 _ (t + 1) (by decide) (by decide) (by omega) (by rw [zm_wi_same, if_pos rfl]) ?_
  refine one 0 8 _ (t + 2) (by decide) (by decide) (by omega) (by rw [zm_wi_same, if_pos rfl]) ?_
  refine one (-8) 0 _ (t + 3) (by decide) (by decide) (by omega) (by rw [zm_wi_same, if_pos rfl]) ?_
  exact last _ q
def zy_20 (a b c d e : Int32) : List Int32 := zy_bs a ++ (zy_bs b ++ (zy_bs c ++ (zy_bs d ++ zy_bs e)))
theorem zy_fd_bs (p o f : Nat) (M : zm_M) (t : Nat) (v : Int32) (ys : List Int32) : zy_fd p o f M t (zy_bs v ++ ys) = zy_fd p o f (zy_fd p o f M t (zy_bs v)) (t + 4) ys := zy_fd_app (zy_bs v) ys M t
theorem zy_fd_b4 (p o f : Nat) (M : zm_M) (t : Nat) (v : Int32) (h : M.1 o f = nI t) : (zy_fd p o f M t (zy_bs v)).1 o f = nI (t + 4) := zy_fd_len (zy_bs v) M t h
theorem c_feed {E : zm_E} (hE : zm_ok E.2.2.1 E.2.2.2.2) (d : Nat) {t : Nat} (ht : t ≤ 300) (v1 v2 v3 v4 v5 : Int32) {M : zm_M} (hc : M.1 0 4 = nI t) {Q : Option Value → zm_M → Prop} (q1 : 300 < t + 20 → Q (some (.int (-1))) M) (q2 : t + 20 ≤ 300 → Q (some (.int (nI (t + 20)))) (zy_fd 4 0 4 M t (zy_20 v1 v2 v3 v4 v5))) : zm_R E (d + 2) mX12_feed [.ref 0, .int v1, .int v2, .int v3, .int v4, .int v5] M Q := by
  refine zX12_feed hE rfl (fun G h0 h15 => ?_)
  show G 0 [some (.ref 0), some (.int v1), some (.int v2), some (.int v3), some (.int v4), some (.int v5)] [] M
  have e20 : nI t + 20 = nI (t + 20) := nI_add t 20
  have hle : (nI (t + 20) ≤ 300) ↔ t + 20 ≤ 300 := nI_leI (b := 300) (by omega) (by decide)
  refine h0 _ _ _ ?_
  simp only [bX12_feed_0, zw_0, zw_1, zs_aloadn0, zs_aloadNn0, zg_12_81, zs_bipush, zs_iadd, zs_sipush, zs_icle, zs_iconst, zs_ireturn, zn_int, zn_b0, zn_b1, zb_0, za_1, za_2, za_3, za_4, za_5, za_6, za_7, za_8, za_9, za_10, za_11, za_12, za_13, za_14, true_and, and_true, Nat.reduceAdd, hc, e20]
  refine ⟨fun h => ?_, fun h => q1 (by have : ¬ t + 20 ≤ 300 := fun z => h (hle.mpr z); omega)⟩
  have h := hle.mp h
  have q := q2 h
  unfold zy_20 at q
  rw [zy_fd_bs, zy_fd_bs, zy_fd_bs, zy_fd_bs] at q
  have g1 := zy_fd_b4 4 0 4 M t v1 hc
  have f1 : ∀ Q2, Q2 none (zy_fd 4 0 4 M t (zy_bs v1)) → zm_R E (d + 1) mX12_four [.ref 0, .int v1] M Q2 := fun Q2 hq => c_four hE d (t := t) (by omega) v1 hc hq
  generalize zy_fd 4 0 4 M t (zy_bs v1) = M1 at g1 q f1
  have g2 := zy_fd_b4 4 0 4 M1 (t + 4) v2 g1
  have f2 : ∀ Q2, Q2 none (zy_fd 4 0 4 M1 (t + 4) (zy_bs v2)) → zm_R E (d + 1) mX12_four [.ref 0, .int v2] M1 Q2 := fun Q2 hq => c_four hE d (t := t + 4) (by omega) v2 g1 hq
  generalize zy_fd 4 0 4 M1 (t + 4) (zy_bs v2) = M2 at g2 q f2
  have g3 := zy_fd_b4 4 0 4 M2 (t + 4 + 4) v3 g2
  have f3 : ∀ Q2, Q2 none (zy_fd 4 0 4 M2 (t + 4 + 4) (zy_bs v3)) → zm_R E (d + 1) mX12_four [.ref 0, .int v3] M2 Q2 := fun Q2 hq => c_four hE d (t := t + 4 + 4) (by omega) v3 g2 hq
  generalize zy_fd 4 0 4 M2 (t + 4 + 4) (zy_bs v3) = M3 at g3 q f3
  have g4 := zy_fd_b4 4 0 4 M3 (t + 4 + 4 + 4) v4 g3
  have f4 : ∀ Q2, Q2 none (zy_fd 4 0 4 M3 (t + 4 + 4 + 4) (zy_bs v4)) → zm_R E (d + 1) mX12_four [.ref 0, .int v4] M3 Q2 := fun Q2 hq => c_four hE d (t := t + 4 + 4 + 4) (by omega) v4 g3 hq
  generalize zy_fd 4 0 4 M3 (t + 4 + 4 + 4) (zy_bs v4) = M4 at g4 q f4
  have g5 := zy_fd_b4 4 0 4 M4 (t + 4 + 4 + 4 + 4) v5 g4
  have f5 : ∀ Q2, Q2 none (zy_fd 4 0 4 M4 (t + 4 + 4 + 4 + 4) (zy_bs v5)) → zm_R E (d + 1) mX12_four [.ref 0, .int v5] M4 Q2 := fun Q2 hq => c_four hE d (t := t + 4 + 4 + 4 + 4) (by omega) v5 g4 hq
  generalize zy_fd 4 0 4 M4 (t + 4 + 4 + 4 + 4) (zy_bs v5) = M5 at g5 q f5
  refine h15 _ _ _ ?_
  simp only [bX12_feed_15, zw_0, zw_1, zs_aloadn0, zs_aloadNn0, zs_iloadn1, zi_12_84, zs_iloadn2, zs_iloadn3, zs_iload4, zs_iload5, zg_12_81, zs_ireturn, zh_0, zh_1, zh_2, zh_3, zh_4, zt_i, zt_l, zt_r, zt_n, zn_int, zn_b0, zn_b1, zb_0, za_1, za_2, za_3, za_4, za_5, za_6, za_7, za_8, za_9, za_10, za_11, za_12, za_13, za_14, true_and, and_true, Nat.reduceAdd]
  refine f1 _ ?_
  simp only [bX12_feed_15, zw_0, zw_1, zs_aloadn0, zs_aloadNn0, zs_iloadn1, zi_12_84, zs_iloadn2, zs_iloadn3, zs_iload4, zs_iload5, zg_12_81, zs_ireturn, zh_0, zh_1, zh_2, zh_3, zh_4, zt_i, zt_l, zt_r, zt_n, zn_int, zn_b0, zn_b1, zb_0, za_1, za_2, za_3, za_4, za_5, za_6, za_7, za_8, za_9, za_10, za_11, za_12, za_13, za_14, true_and, and_true, Nat.reduceAdd]
  refine f2 _ ?_
  simp only [bX12_feed_15, zw_0, zw_1, zs_aloadn0, zs_aloadNn0, zs_iloadn1, zi_12_84, zs_iloadn2, zs_iloadn3, zs_iload4, zs_iload5, zg_12_81, zs_ireturn, zh_0, zh_1, zh_2, zh_3, zh_4, zt_i, zt_l, zt_r, zt_n, zn_int, zn_b0, zn_b1, zb_0, za_1, za_2, za_3, za_4, za_5, za_6, za_7, za_8, za_9, za_10, za_11, za_12, za_13, za_14, true_and, and_true, Nat.reduceAdd]
  refine f3 _ ?_
  simp only [bX12_feed_15, zw_0, zw_1, zs_aloadn0, zs_aloadNn0, zs_iloadn1, zi_12_84, zs_iloadn2, zs_iloadn3, zs_iload4, zs_iload5, zg_12_81, zs_ireturn, zh_0, zh_1, zh_2, zh_3, zh_4, zt_i, zt_l, zt_r, zt_n, zn_int, zn_b0, zn_b1, zb_0, za_1, za_2, za_3, za_4, za_5, za_6, za_7, za_8, za_9, za_10, za_11, za_12, za_13, za_14, true_and, and_true, Nat.reduceAdd]
  refine f4 _ ?_
  simp only [bX12_feed_15, zw_0, zw_1, zs_aloadn0, zs_aloadNn0, zs_iloadn1, zi_12_84, zs_iloadn2, zs_iloadn3, zs_iload4, zs_iload5, zg_12_81, zs_ireturn, zh_0, zh_1, zh_2, zh_3, zh_4, zt_i, zt_l, zt_r, zt_n, zn_int, zn_b0, zn_b1, zb_0, za_1, za_2, za_3, za_4, za_5, za_6, za_7, za_8, za_9, za_10, za_11, za_12, za_13, za_14, true_and, and_true, Nat.reduceAdd]
  refine f5 _ ?_
  simp only [bX12_feed_15, zw_0, zw_1, zs_aloadn0, zs_aloadNn0, zs_iloadn1, zi_12_84, zs_iloadn2, zs_iloadn3, zs_iload4, zs_iload5, zg_12_81, zs_ireturn, zh_0, zh_1, zh_2, zh_3, zh_4, zt_i, zt_l, zt_r, zt_n, zn_int, zn_b0, zn_b1, zb_0, za_1, za_2, za_3, za_4, za_5, za_6, za_7, za_8, za_9, za_10, za_11, za_12, za_13, za_14, true_and, and_true, Nat.reduceAdd, g5]
  rw [show t + 4 + 4 + 4 + 4 + 4 = t + 20 by omega]
  exact q
theorem c11_feed {E : zm_E} (hE : zm_ok E.2.2.1 E.2.2.2.2) (d : Nat) {t : Nat} (ht : t ≤ 300) (v1 v2 v3 v4 v5 : Int32) {M : zm_M} (hc : M.1 15 9 = nI t) {Q : Option Value → zm_M → Prop} (q1 : 300 < t + 20 → Q (some (.int (-1))) M) (q2 : t + 20 ≤ 300 → Q (some (.int (nI (t + 20)))) (zy_fd 765 15 9 M t (zy_20 v1 v2 v3 v4 v5))) : zm_R E (d + 2) mX11_feed [.ref 15, .int v1, .int v2, .int v3, .int v4, .int v5] M Q := by
  refine zX11_feed hE rfl (fun G h0 h15 => ?_)
  show G 0 [some (.ref 15), some (.int v1), some (.int v2), some (.int v3), some (.int v4), some (.int v5)] [] M
  have e20 : nI t + 20 = nI (t + 20) := nI_add t 20
  have hle : (nI (t + 20) ≤ 300) ↔ t + 20 ≤ 300 := nI_leI (b := 300) (by omega) (by decide)
  refine h0 _ _ _ ?_
  simp only [bX11_feed_0, zw_0, zw_1, zs_aloadn0, zs_aloadNn0, zg_11_73, zs_bipush, zs_iadd, zs_sipush, zs_icle, zs_iconst, zs_ireturn, zn_int, zn_b0, zn_b1, zb_15, zb_16, zb_17, za_18, za_19, za_20, za_21, za_22, zb_23, za_24, za_25, za_26, za_27, za_28, za_29, za_30, za_31, za_32, zb_35, za_36, za_37, za_38, za_39, za_40, zb_377, zb_378, za_379, za_380, za_381, za_382, za_383, zb_384, za_385, za_386, za_387, za_388, za_389, za_390, za_391, za_392, za_393, zb_396, za_397, za_398, za_399, za_400, za_401, zb_738, za_739, za_740, za_741, za_742, za_743, za_744, za_745, za_746, za_747, zb_748, za_749, za_750, zb_751, zb_752, za_753, za_754, za_755, za_756, zb_757, za_758, za_759, za_760, zb_761, za_763, za_764, za_765, true_and, and_true, Nat.reduceAdd, hc, e20]
  refine ⟨fun h => ?_, fun h => q1 (by have : ¬ t + 20 ≤ 300 := fun z => h (hle.mpr z); omega)⟩
  have h := hle.mp h
  have q := q2 h
  unfold zy_20 at q
  rw [zy_fd_bs, zy_fd_bs, zy_fd_bs, zy_fd_bs] at q
  have g1 := zy_fd_b4 765 15 9 M t v1 hc
  have f1 : ∀ Q2, Q2 none (zy_fd 765 15 9 M t (zy_bs v1)) → zm_R E (d + 1) mX11_tapeFour [.ref 15, .int v1] M Q2 := fun Q2 hq => c11_tapeFour hE d (t := t) (by omega) v1 hc hq
  generalize zy_fd 765 15 9 M t (zy_bs v1) = M1 at g1 q f1
  have g2 := zy_fd_b4 765 15 9 M1 (t + 4) v2 g1
  have f2 : ∀ Q2, Q2 none (zy_fd 765 15 9 M1 (t + 4) (zy_bs v2)) → zm_R E (d + 1) mX11_tapeFour [.ref 15, .int v2] M1 Q2 := fun Q2 hq => c11_tapeFour hE d (t := t + 4) (by omega) v2 g1 hq
  generalize zy_fd 765 15 9 M1 (t + 4) (zy_bs v2) = M2 at g2 q f2
  have g3 := zy_fd_b4 765 15 9 M2 (t + 4 + 4) v3 g2
  have f3 : ∀ Q2, Q2 none (zy_fd 765 15 9 M2 (t + 4 + 4) (zy_bs v3)) → zm_R E (d + 1) mX11_tapeFour [.ref 15, .int v3] M2 Q2 := fun Q2 hq => c11_tapeFour hE d (t := t + 4 + 4) (by omega) v3 g2 hq
  generalize zy_fd 765 15 9 M2 (t + 4 + 4) (zy_bs v3) = M3 at g3 q f3
  have g4 := zy_fd_b4 765 15 9 M3 (t + 4 + 4 + 4) v4 g3
  have f4 : ∀ Q2, Q2 none (zy_fd 765 15 9 M3 (t + 4 + 4 + 4) (zy_bs v4)) → zm_R E (d + 1) mX11_tapeFour [.ref 15, .int v4] M3 Q2 := fun Q2 hq => c11_tapeFour hE d (t := t + 4 + 4 + 4) (by omega) v4 g3 hq
  generalize zy_fd 765 15 9 M3 (t + 4 + 4 + 4) (zy_bs v4) = M4 at g4 q f4
  have g5 := zy_fd_b4 765 15 9 M4 (t + 4 + 4 + 4 + 4) v5 g4
  have f5 : ∀ Q2, Q2 none (zy_fd 765 15 9 M4 (t + 4 + 4 + 4 + 4) (zy_bs v5)) → zm_R E (d + 1) mX11_tapeFour [.ref 15, .int v5] M4 Q2 := fun Q2 hq => c11_tapeFour hE d (t := t + 4 + 4 + 4 + 4) (by omega) v5 g4 hq
  generalize zy_fd 765 15 9 M4 (t + 4 + 4 + 4 + 4) (zy_bs v5) = M5 at g5 q f5
  refine h15 _ _ _ ?_
  simp only [bX11_feed_15, zw_0, zw_1, zs_aloadn0, zs_aloadNn0, zs_iloadn1, zi_11_102, zs_iloadn2, zs_iloadn3, zs_iload4, zs_iload5, zg_11_73, zs_ireturn, zh_0, zh_1, zh_2, zh_3, zh_4, zt_i, zt_l, zt_r, zt_n, zn_int, zn_b0, zn_b1, zb_15, zb_16, zb_17, za_18, za_19, za_20, za_21, za_22, zb_23, za_24, za_25, za_26, za_27, za_28, za_29, za_30, za_31, za_32, zb_35, za_36, za_37, za_38, za_39, za_40, zb_377, zb_378, za_379, za_380, za_381, za_382, za_383, zb_384, za_385, za_386, za_387, za_388, za_389, za_390, za_391, za_392, za_393, zb_396, za_397, za_398, za_399, za_400, za_401, zb_738, za_739, za_740, za_741, za_742, za_743, za_744, za_745, za_746, za_747, zb_748, za_749, za_750, zb_751, zb_752, za_753, za_754, za_755, za_756, zb_757, za_758, za_759, za_760, zb_761, za_763, za_764, za_765, true_and, and_true, Nat.reduceAdd]
  refine f1 _ ?_
  simp only [bX11_feed_15, zw_0, zw_1, zs_aloadn0, zs_aloadNn0, zs_iloadn1, zi_11_102, zs_iloadn2, zs_iloadn3, zs_iload4, zs_iload5, zg_11_73, zs_ireturn, zh_0, zh_1, zh_2, zh_3, zh_4, zt_i, zt_l, zt_r, zt_n, zn_int, zn_b0, zn_b1, zb_15, zb_16, zb_17, za_18, za_19, za_20, za_21, za_22, zb_23, za_24, za_25, za_26, za_27, za_28, za_29, za_30, za_31, za_32, zb_35, za_36, za_37, za_38, za_39, za_40, zb_377, zb_378, za_379, za_380, za_381, za_382, za_383, zb_384, za_385, za_386, za_387, za_388, za_389, za_390, za_391, za_392, za_393, zb_396, za_397, za_398, za_399, za_400, za_401, zb_738, za_739, za_740, za_741, za_742, za_743, za_744, za_745, za_746, za_747, zb_748, za_749, za_750, zb_751, zb_752, za_753, za_754, za_755, za_756, zb_757, za_758, za_759, za_760, zb_761, za_763, za_764, za_765, true_and, and_true, Nat.reduceAdd]
  refine f2 _ ?_
  simp only [bX11_feed_15, zw_0, zw_1, zs_aloadn0, zs_aloadNn0, zs_iloadn1, zi_11_102, zs_iloadn2, zs_iloadn3, zs_iload4, zs_iload5, zg_11_73, zs_ireturn, zh_0, zh_1, zh_2, zh_3, zh_4, zt_i, zt_l, zt_r, zt_n, zn_int, zn_b0, zn_b1, zb_15, zb_16, zb_17, za_18, za_19, za_20, za_21, za_22, zb_23, za_24, za_25, za_26, za_27, za_28, za_29, za_30, za_31, za_32, zb_35, za_36, za_37, za_38, za_39, za_40, zb_377, zb_378, za_379, za_380, za_381, za_382, za_383, zb_384, za_385, za_386, za_387, za_388, za_389, za_390, za_391, za_392, za_393, zb_396, za_397, za_398, za_399, za_400, za_401, zb_738, za_739, za_740, za_741, za_742, za_743, za_744, za_745, za_746, za_747, zb_748, za_749, za_750, zb_751, zb_752, za_753, za_754, za_755, za_756, zb_757, za_758, za_759, za_760, zb_761, za_763, za_764, za_765, true_and, and_true, Nat.reduceAdd]
  refine f3 _ ?_
  simp only [bX11_feed_15, zw_0, zw_1, zs_aloadn0, zs_aloadNn0, zs_iloadn1, zi_11_102, zs_iloadn2, zs_iloadn3, zs_iload4, zs_iload5, zg_11_73, zs_ireturn, zh_0, zh_1, zh_2, zh_3, zh_4, zt_i, zt_l, zt_r, zt_n, zn_int, zn_b0, zn_b1, zb_15, zb_16, zb_17, za_18, za_19, za_20, za_21, za_22, zb_23, za_24, za_25, za_26, za_27, za_28, za_29, za_30, za_31, za_32, zb_35, za_36, za_37, za_38, za_39, za_40, zb_377, zb_378, za_379, za_380, za_381, za_382, za_383, zb_384, za_385, za_386, za_387, za_388, za_389, za_390, za_391, za_392, za_393, zb_396, za_397, za_398, za_399, za_400, za_401, zb_738, za_739, za_740, za_741, za_742, za_743, za_744, za_745, za_746, za_747, zb_748, za_749, za_750, zb_751, zb_752, za_753, za_754, za_755, za_756, zb_757, za_758, za_759, za_760, zb_761, za_763, za_764, za_765, true_and, and_true, Nat.reduceAdd]
  refine f4 _ ?_
  simp only [bX11_feed_15, zw_0, zw_1, zs_aloadn0, zs_aloadNn0, zs_iloadn1, zi_11_102, zs_iloadn2, zs_iloadn3, zs_iload4, zs_iload5, zg_11_73, zs_ireturn, zh_0, zh_1, zh_2, zh_3, zh_4, zt_i, zt_l, zt_r, zt_n, zn_int, zn_b0, zn_b1, zb_15, zb_16, zb_17, za_18, za_19, za_20, za_21, za_22, zb_23, za_24, za_25, za_26, za_27, za_28, za_29, za_30, za_31, za_32, zb_35, za_36, za_37, za_38, za_39, za_40, zb_377, zb_378, za_379, za_380, za_381, za_382, za_383, zb_384, za_385, za_386, za_387, za_388, za_389, za_390, za_391, za_392, za_393, zb_396, za_397, za_398, za_399, za_400, za_401, zb_738, za_739, za_740, za_741, za_742, za_743, za_744, za_745, za_746, za_747, zb_748, za_749, za_750, zb_751, zb_752, za_753, za_754, za_755, za_756, zb_757, za_758, za_759, za_760, zb_761, za_763, za_764, za_765, true_and, and_true, Nat.reduceAdd]
  refine f5 _ ?_
  simp only [bX11_feed_15, zw_0, zw_1, zs_aloadn0, zs_aloadNn0, zs_iloadn1, zi_11_102, zs_iloadn2, zs_iloadn3, zs_iload4, zs_iload5, zg_11_73, zs_ireturn, zh_0, zh_1, zh_2, zh_3, zh_4, zt_i, zt_l, zt_r, zt_n, zn_int, zn_b0, zn_b1, zb_15, zb_16, zb_17, za_18, za_19, za_20, za_21, za_22, zb_23, za_24, za_25, za_26, za_27, za_28, za_29, za_30, za_31, za_32, zb_35, za_36, za_37, za_38, za_39, za_40, zb_377, zb_378, za_379, za_380, za_381, za_382, za_383, zb_384, za_385, za_386, za_387, za_388, za_389, za_390, za_391, za_392, za_393, zb_396, za_397, za_398, za_399, za_400, za_401, zb_738, za_739, za_740, za_741, za_742, za_743, za_744, za_745, za_746, za_747, zb_748, za_749, za_750, zb_751, zb_752, za_753, za_754, za_755, za_756, zb_757, za_758, za_759, za_760, zb_761, za_763, za_764, za_765, true_and, and_true, Nat.reduceAdd, g5]
  rw [show t + 4 + 4 + 4 + 4 + 4 = t + 20 by omega]
  exact q
theorem c_end {E : zm_E} (hE : zm_ok E.2.2.1 E.2.2.2.2) (d : Nat) (n : Int32) {M : zm_M} {Q : Option Value → zm_M → Prop} (q1 : zi_in n 0 (M.1 0 4) = 0 → Q (some (.int (-1))) M) (q2 : ¬ zi_in n 0 (M.1 0 4) = 0 → Q (some (.int n)) (zm_wi M 0 4 n)) : zm_R E (d + 2) mX12_end [.ref 0, .int n] M Q := by
  refine zX12_end hE rfl (fun G h0 h14 => ?_)
  show G 0 [some (.ref 0), some (.int n)] [] M
  refine h0 _ _ _ ?_
  simp only [bX12_end_0, zw_0, zw_1, zs_iloadn1, zs_iconst, zs_aloadn0, zs_aloadNn0, zg_12_81, zi_12_69, zs_ifne, zs_ireturn, zh_0, zh_1, zh_2, zh_3, zh_4, zt_i, zt_l, zt_r, zt_n, zn_int, zn_b0, zn_b1, zb_0, za_1, za_2, za_3, za_4, za_5, za_6, za_7, za_8, za_9, za_10, za_11, za_12, za_13, za_14, true_and, and_true, Nat.reduceAdd]
  refine zm_R_eq (c_isIn hE d n 0 _ M) ?_
  simp only [bX12_end_0, zw_0, zw_1, zs_iloadn1, zs_iconst, zs_aloadn0, zs_aloadNn0, zg_12_81, zi_12_69, zs_ifne, zs_ireturn, zh_0, zh_1, zh_2, zh_3, zh_4, zt_i, zt_l, zt_r, zt_n, zn_int, zn_b0, zn_b1, zb_0, za_1, za_2, za_3, za_4, za_5, za_6, za_7, za_8, za_9, za_10, za_11, za_12, za_13, za_14, true_and, and_true, Nat.reduceAdd]
  refine ⟨fun h => ?_, fun h => q1 h⟩
  refine h14 _ _ _ ?_
  simp only [bX12_end_14, zw_0, zw_1, zs_aloadn0, zs_aloadNn0, zs_iloadn1, zq_12_81, zs_ireturn, zn_int, zn_b0, zn_b1, zb_0, za_1, za_2, za_3, za_4, za_5, za_6, za_7, za_8, za_9, za_10, za_11, za_12, za_13, za_14, true_and, and_true, Nat.reduceAdd]
  exact q2 h
theorem c11_end {E : zm_E} (hE : zm_ok E.2.2.1 E.2.2.2.2) (d : Nat) (n : Int32) {M : zm_M} {Q : Option Value → zm_M → Prop} (q1 : zi_in n 0 (M.1 15 9) = 0 → Q (some (.int (-1))) M) (q2 : ¬ zi_in n 0 (M.1 15 9) = 0 → Q (some (.int n)) (zm_wi M 15 9 n)) : zm_R E (d + 2) mX11_end [.ref 15, .int n] M Q := by
  refine zX11_end hE rfl (fun G h0 h14 => ?_)
  show G 0 [some (.ref 15), some (.int n)] [] M
  refine h0 _ _ _ ?_
  simp only [bX11_end_0, zw_0, zw_1, zs_iloadn1, zs_iconst, zs_aloadn0, zs_aloadNn0, zg_11_73, zi_11_86, zs_ifne, zs_ireturn, zh_0, zh_1, zh_2, zh_3, zh_4, zt_i, zt_l, zt_r, zt_n, zn_int, zn_b0, zn_b1, zb_15, zb_16, zb_17, za_18, za_19, za_20, za_21, za_22, zb_23, za_24, za_25, za_26, za_27, za_28, za_29, za_30, za_31, za_32, zb_35, za_36, za_37, za_38, za_39, za_40, zb_377, zb_378, za_379, za_380, za_381, za_382, za_383, zb_384, za_385, za_386, za_387, za_388, za_389, za_390, za_391, za_392, za_393, zb_396, za_397, za_398, za_399, za_400, za_401, zb_738, za_739, za_740, za_741, za_742, za_743, za_744, za_745, za_746, za_747, zb_748, za_749, za_750, zb_751, zb_752, za_753, za_754, za_755, za_756, zb_757, za_758, za_759, za_760, zb_761, za_763, za_764, za_765, true_and, and_true, Nat.reduceAdd]
  refine zm_R_eq (c11_within hE d n 0 _ M) ?_
  simp only [bX11_end_0, zw_0, zw_1, zs_iloadn1, zs_iconst, zs_aloadn0, zs_aloadNn0, zg_11_73, zi_11_86, zs_ifne, zs_ireturn, zh_0, zh_1, zh_2, zh_3, zh_4, zt_i, zt_l, zt_r, zt_n, zn_int, zn_b0, zn_b1, zb_15, zb_16, zb_17, za_18, za_19, za_20, za_21, za_22, zb_23, za_24, za_25, za_26, za_27, za_28, za_29, za_30, za_31, za_32, zb_35, za_36, za_37, za_38, za_39, za_40, zb_377, zb_378, za_379, za_380, za_381, za_382, za_383, zb_384, za_385, za_386, za_387, za_388, za_389, za_390, za_391, za_392, za_393, zb_396, za_397, za_398, za_399, za_400, za_401, zb_738, za_739, za_740, za_741, za_742, za_743, za_744, za_745, za_746, za_747, zb_748, za_749, za_750, zb_751, zb_752, za_753, za_754, za_755, za_756, zb_757, za_758, za_759, za_760, zb_761, za_763, za_764, za_765, true_and, and_true, Nat.reduceAdd]
  refine ⟨fun h => ?_, fun h => q1 h⟩
  refine h14 _ _ _ ?_
  simp only [bX11_end_14, zw_0, zw_1, zs_aloadn0, zs_aloadNn0, zs_iloadn1, zq_11_73, zs_ireturn, zn_int, zn_b0, zn_b1, zb_15, zb_16, zb_17, za_18, za_19, za_20, za_21, za_22, zb_23, za_24, za_25, za_26, za_27, za_28, za_29, za_30, za_31, za_32, zb_35, za_36, za_37, za_38, za_39, za_40, zb_377, zb_378, za_379, za_380, za_381, za_382, za_383, zb_384, za_385, za_386, za_387, za_388, za_389, za_390, za_391, za_392, za_393, zb_396, za_397, za_398, za_399, za_400, za_401, zb_738, za_739, za_740, za_741, za_742, za_743, za_744, za_745, za_746, za_747, zb_748, za_749, za_750, zb_751, zb_752, za_753, za_754, za_755, za_756, zb_757, za_758, za_759, za_760, zb_761, za_763, za_764, za_765, true_and, and_true, Nat.reduceAdd]
  exact q2 h
