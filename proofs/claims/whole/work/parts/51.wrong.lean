/-! ===== wrong, away, sideways ===== -/
def zu (P : Nat → Prop) (M M' : zm_M) : Prop := ∀ q, ¬ P q → M'.1 q = M.1 q ∧ M'.2.1 q = M.2.1 q ∧ M'.2.2 q = M.2.2 q
theorem zu_refl {P : Nat → Prop} {M : zm_M} : zu P M M := fun _ _ => ⟨rfl, rfl, rfl⟩
theorem zu_trans {P : Nat → Prop} {M M' M'' : zm_M} (h : zu P M M') (h2 : zu P M' M'') : zu P M M'' := fun q hq => ⟨(h2 q hq).1.trans (h q hq).1, (h2 q hq).2.1.trans (h q hq).2.1, (h2 q hq).2.2.trans (h q hq).2.2⟩
theorem zu_mono {P R : Nat → Prop} {M M' : zm_M} (h : zu P M M') (hp : ∀ q, P q → R q) : zu R M M' := fun q hq => h q (fun z => hq (hp q z))
theorem zu_zf {P : Nat → Prop} {L : List Nat} {M M' : zm_M} (h : zf L M M') (hp : ∀ q, q ∈ L → P q) : zu P M M' := fun q hq => h q (fun z => hq (hp q z))
/-- what a step of the class may change: the World, the ring of steps -/
def zP_c (q : Nat) : Prop := q = 16 ∨ (23 ≤ q ∧ q < 33) ∨ (77 ≤ q ∧ q < 377)
def zcf (M M' : zm_M) : Prop := zu zP_c M M' ∧ zg 16 [3, 4] M M'
theorem zcf_refl {M : zm_M} : zcf M M := ⟨zu_refl, zg_refl⟩
theorem zcf_trans {M M' M'' : zm_M} (h : zcf M M') (h2 : zcf M' M'') : zcf M M'' := ⟨zu_trans h.1 h2.1, zg_trans h.2 h2.2⟩
theorem zcf_j {M M' : zm_M} (h : zj M M') : zcf M M' := ⟨fun q hq => ⟨h.1 q (fun e => hq (Or.inl e)) (by
  have : ¬ (77 ≤ q ∧ q < 377) := fun z => hq (Or.inr (Or.inr z))
  omega), by rw [h.2.1], by rw [h.2.1]⟩, h.2.2⟩
theorem zcf_j2 {M M' : zm_M} (h : zj2 M M') : zcf M M' := ⟨fun q hq => ⟨h.1 q (fun e => hq (Or.inl e)) (by
  have : ¬ (23 ≤ q ∧ q < 33) := fun z => hq (Or.inr (Or.inl z))
  omega), by rw [h.2.1], by rw [h.2.1]⟩, h.2.2⟩
theorem zw_L_mem {w q : Nat} (h : q ∈ zw_L w) : w ≤ q ∧ q ≤ w + 9 := by
  simp only [zw_L, List.mem_cons, List.not_mem_nil, or_false] at h
  omega
theorem zcf_w {M M' : zm_M} (h : zf (zw_L 23) M M') : zcf M M' := ⟨zu_zf h (fun q hq => Or.inr (Or.inl (by have := zw_L_mem hq; omega))), zg_of h (fun z => by have := zw_L_mem z; omega)⟩
/-- the ring is untouched by what the World changes -/
theorem zk_c_w {M M' : zm_M} {s c : Nat} {H : Nat → zW} (hH : ∀ i, i < s → zw_sz (H i)) (h : zk_c M 16 s c H) (e : zf (zw_L 23) M M') : zk_c M' 16 s c H := by
  obtain ⟨k1, k2, k3, k4, k5⟩ := h
  have e16 := (e 16 (fun z => by have := zw_L_mem z; omega)).1
  refine ⟨by rw [e16]; exact k1, k2, by rw [e16]; exact k3, k4, fun i hi => zw_cong (hH i hi) (k5 i hi) (fun q hq => (e q (fun z => ?_)).1)⟩
  have a := zw_L_mem hq
  have b := zw_L_mem z
  omega
/-- the same for the reference -/
def zP_m (j : Nat) : Prop := j = 3 ∨ (6 ≤ j ∧ j < 90) ∨ 164 ≤ j
def zmf (M M' : zm_M) : Prop := zf [1] M M' ∧ ∀ j, ¬ zP_m j → M'.1 1 j = M.1 1 j
theorem zmf_refl {M : zm_M} : zmf M M := ⟨zf_refl, fun _ _ => rfl⟩
theorem zmf_trans {M M' M'' : zm_M} (h : zmf M M') (h2 : zmf M' M'') : zmf M M'' := ⟨zf_trans h.1 h2.1, fun j hj => (h2.2 j hj).trans (h.2 j hj)⟩
theorem zmf_h {M M' : zm_M} (h : zh [] M M') : zmf M M' := ⟨h.1, fun j hj => h.2 j (fun z => hj (by unfold zh_in at z; unfold zP_m; omega))⟩
theorem zk_m_h {M M' : zm_M} {L : List Nat} {s : Nat} {H : Nat → zW} (hH : ∀ i, i < s → zw_sz (H i)) (h : zk_m M 1 s H) (e : zh L M M') : zk_m M' 1 s H := by
  obtain ⟨k1, k2, k3⟩ := h
  refine ⟨by rw [e.2 3 (by unfold zh_in; omega)]; exact k1, k2, fun i hi => zw_r_c (hH i hi) (k3 i hi) (fun k hk => e.2 _ (by unfold zh_in; omega)) (fun k hk => e.2 _ (by unfold zh_in; omega))⟩
/-! whether one may be wronged -/
def zo_cw (n : Nat) (b : Nat → Int32) (m : Nat) (fr to : Int32) : Bool := zo_is n fr && zo_is n to && zt_ab b to.toNatClampNeg fr.toNatClampNeg && decide (m < 10)
theorem c11_canWrong {E : zm_E} (hE : zm_ok E.2.2.1 E.2.2.2.2) (d : Nat) {n m : Nat} (hm : m ≤ 10) (fr to : Int32) {M : zm_M} (hw : zt_wf n (M.1 18)) (hc : M.1 17 0 = nI n) (hd : M.1 23 2 = nI m) : zm_R E (d + 3) mX11_canWrong [.ref 15, .int fr, .int to] M (fun r M' => r = some (.int (zi_b (zo_cw n (M.1 18) m fr to))) ∧ M' = M) := by
  refine zX11_canWrong hE rfl (fun G h0 h52 h53 => ?_)
  show G 0 [some (.ref 15), some (.int fr), some (.int to), none] [] M
  have hn := hw.1
  have no : zo_cw n (M.1 18) m fr to = false → G 52 [some (.ref 15), some (.int fr), some (.int to), some (.ref 17)] [] M := by
    intro h
    refine h52 _ _ _ ?_
    simp only [bX11_canWrong_52, zw_0, zw_1, zs_iconst, zb_15, zb_16, zb_17, za_18, za_19, za_20, za_21, za_22, zb_23, za_24, za_25, za_26, za_27, za_28, za_29, za_30, za_31, za_32, zb_35, za_36, za_37, za_38, za_39, za_40, zb_377, zb_378, za_379, za_380, za_381, za_382, za_383, zb_384, za_385, za_386, za_387, za_388, za_389, za_390, za_391, za_392, za_393, zb_396, za_397, za_398, za_399, za_400, za_401, zb_738, za_739, za_740, za_741, za_742, za_743, za_744, za_745, za_746, za_747, zb_748, za_749, za_750, zb_751, zb_752, za_753, za_754, za_755, za_756, zb_757, za_758, za_759, za_760, zb_761, za_763, za_764, za_765, true_and, and_true, Nat.reduceAdd]
    refine h53 _ _ _ ?_
    simp only [bX11_canWrong_53, zw_0, zw_1, zs_ireturn, zn_int, zn_b0, zn_b1, zb_15, zb_16, zb_17, za_18, za_19, za_20, za_21, za_22, zb_23, za_24, za_25, za_26, za_27, za_28, za_29, za_30, za_31, za_32, zb_35, za_36, za_37, za_38, za_39, za_40, zb_377, zb_378, za_379, za_380, za_381, za_382, za_383, zb_384, za_385, za_386, za_387, za_388, za_389, za_390, za_391, za_392, za_393, zb_396, za_397, za_398, za_399, za_400, za_401, zb_738, za_739, za_740, za_741, za_742, za_743, za_744, za_745, za_746, za_747, zb_748, za_749, za_750, zb_751, zb_752, za_753, za_754, za_755, za_756, zb_757, za_758, za_759, za_760, zb_761, za_763, za_764, za_765, true_and, and_true, Nat.reduceAdd]
    rw [h]; rfl
  refine h0 _ _ _ ?_
  simp only [bX11_canWrong_0, zw_0, zw_1, zs_aloadn0, zs_aloadNn0, zg_11_10, zg_11_28, zs_astoren3, zs_astoreNn3, zs_aloadn3, zs_aloadNn3, zs_iloadn1, zi_11_82, zs_ifeq, zs_iloadn2, zi_11_143, zg_11_136, zg_11_146, zs_bipush, zs_icge, zs_iconst, zs_goto, zc_none, zc_int, zc_ref, zc_null, zc_long, zh_0, zh_1, zh_2, zh_3, zh_4, zt_i, zt_l, zt_r, zt_n, zb_15, zb_16, zb_17, za_18, za_19, za_20, za_21, za_22, zb_23, za_24, za_25, za_26, za_27, za_28, za_29, za_30, za_31, za_32, zb_35, za_36, za_37, za_38, za_39, za_40, zb_377, zb_378, za_379, za_380, za_381, za_382, za_383, zb_384, za_385, za_386, za_387, za_388, za_389, za_390, za_391, za_392, za_393, zb_396, za_397, za_398, za_399, za_400, za_401, zb_738, za_739, za_740, za_741, za_742, za_743, za_744, za_745, za_746, za_747, zb_748, za_749, za_750, zb_751, zb_752, za_753, za_754, za_755, za_756, zb_757, za_758, za_759, za_760, zb_761, za_763, za_764, za_765, true_and, and_true, Nat.reduceAdd]
  refine zm_R_eq (c7_has hE (d + 1) (n := n) (by omega) fr hc) ?_
  simp only [bX11_canWrong_0, zw_0, zw_1, zs_aloadn0, zs_aloadNn0, zg_11_10, zg_11_28, zs_astoren3, zs_astoreNn3, zs_aloadn3, zs_aloadNn3, zs_iloadn1, zi_11_82, zs_ifeq, zs_iloadn2, zi_11_143, zg_11_136, zg_11_146, zs_bipush, zs_icge, zs_iconst, zs_goto, zc_none, zc_int, zc_ref, zc_null, zc_long, zh_0, zh_1, zh_2, zh_3, zh_4, zt_i, zt_l, zt_r, zt_n, zb_15, zb_16, zb_17, za_18, za_19, za_20, za_21, za_22, zb_23, za_24, za_25, za_26, za_27, za_28, za_29, za_30, za_31, za_32, zb_35, za_36, za_37, za_38, za_39, za_40, zb_377, zb_378, za_379, za_380, za_381, za_382, za_383, zb_384, za_385, za_386, za_387, za_388, za_389, za_390, za_391, za_392, za_393, zb_396, za_397, za_398, za_399, za_400, za_401, zb_738, za_739, za_740, za_741, za_742, za_743, za_744, za_745, za_746, za_747, zb_748, za_749, za_750, zb_751, zb_752, za_753, za_754, za_755, za_756, zb_757, za_758, za_759, za_760, zb_761, za_763, za_764, za_765, true_and, and_true, Nat.reduceAdd, zi_b0]
  refine ⟨fun h => no (by unfold zo_cw; rw [h]; rfl), fun h1 => ?_⟩
  refine zm_R_eq (c7_has hE (d + 1) (n := n) (by omega) to hc) ?_
  simp only [bX11_canWrong_0, zw_0, zw_1, zs_aloadn0, zs_aloadNn0, zg_11_10, zg_11_28, zs_astoren3, zs_astoreNn3, zs_aloadn3, zs_aloadNn3, zs_iloadn1, zi_11_82, zs_ifeq, zs_iloadn2, zi_11_143, zg_11_136, zg_11_146, zs_bipush, zs_icge, zs_iconst, zs_goto, zc_none, zc_int, zc_ref, zc_null, zc_long, zh_0, zh_1, zh_2, zh_3, zh_4, zt_i, zt_l, zt_r, zt_n, zb_15, zb_16, zb_17, za_18, za_19, za_20, za_21, za_22, zb_23, za_24, za_25, za_26, za_27, za_28, za_29, za_30, za_31, za_32, zb_35, za_36, za_37, za_38, za_39, za_40, zb_377, zb_378, za_379, za_380, za_381, za_382, za_383, zb_384, za_385, za_386, za_387, za_388, za_389, za_390, za_391, za_392, za_393, zb_396, za_397, za_398, za_399, za_400, za_401, zb_738, za_739, za_740, za_741, za_742, za_743, za_744, za_745, za_746, za_747, zb_748, za_749, za_750, zb_751, zb_752, za_753, za_754, za_755, za_756, zb_757, za_758, za_759, za_760, zb_761, za_763, za_764, za_765, true_and, and_true, Nat.reduceAdd, zi_b0]
  refine ⟨fun h => no (by unfold zo_cw; rw [h]; simp), fun h2 => ?_⟩
  simp only [Bool.not_eq_false] at h1 h2
  obtain ⟨i, hi, rfl⟩ := zo_of h1 (by omega)
  obtain ⟨j, hj, rfl⟩ := zo_of h2 (by omega)
  refine zm_R_eq (c7_isAbove hE d hw hj hi) ?_
  simp only [bX11_canWrong_0, zw_0, zw_1, zs_aloadn0, zs_aloadNn0, zg_11_10, zg_11_28, zs_astoren3, zs_astoreNn3, zs_aloadn3, zs_aloadNn3, zs_iloadn1, zi_11_82, zs_ifeq, zs_iloadn2, zi_11_143, zg_11_136, zg_11_146, zs_bipush, zs_icge, zs_iconst, zs_goto, zc_none, zc_int, zc_ref, zc_null, zc_long, zh_0, zh_1, zh_2, zh_3, zh_4, zt_i, zt_l, zt_r, zt_n, zb_15, zb_16, zb_17, za_18, za_19, za_20, za_21, za_22, zb_23, za_24, za_25, za_26, za_27, za_28, za_29, za_30, za_31, za_32, zb_35, za_36, za_37, za_38, za_39, za_40, zb_377, zb_378, za_379, za_380, za_381, za_382, za_383, zb_384, za_385, za_386, za_387, za_388, za_389, za_390, za_391, za_392, za_393, zb_396, za_397, za_398, za_399, za_400, za_401, zb_738, za_739, za_740, za_741, za_742, za_743, za_744, za_745, za_746, za_747, zb_748, za_749, za_750, zb_751, zb_752, za_753, za_754, za_755, za_756, zb_757, za_758, za_759, za_760, zb_761, za_763, za_764, za_765, true_and, and_true, Nat.reduceAdd, zi_b0, hd]
  refine ⟨fun h => no (by unfold zo_cw; rw [nI_clamp (by omega), nI_clamp (by omega), h]; simp), fun h3 => ?_⟩
  simp only [Bool.not_eq_false] at h3
  refine ⟨fun h => no ?_, fun h => ?_⟩
  · have : ¬ m < 10 := fun z => absurd h (nI_ge (b := 10) z (by decide))
    unfold zo_cw
    rw [decide_eq_false this]; simp
  · have : m < 10 := by
      rcases Nat.lt_or_ge m 10 with z | z
      · exact z
      · exact absurd (nI_le (a := 10) z (by omega)) h
    refine h53 _ _ _ ?_
    simp only [bX11_canWrong_53, zw_0, zw_1, zs_ireturn, zn_int, zn_b0, zn_b1, zb_15, zb_16, zb_17, za_18, za_19, za_20, za_21, za_22, zb_23, za_24, za_25, za_26, za_27, za_28, za_29, za_30, za_31, za_32, zb_35, za_36, za_37, za_38, za_39, za_40, zb_377, zb_378, za_379, za_380, za_381, za_382, za_383, zb_384, za_385, za_386, za_387, za_388, za_389, za_390, za_391, za_392, za_393, zb_396, za_397, za_398, za_399, za_400, za_401, zb_738, za_739, za_740, za_741, za_742, za_743, za_744, za_745, za_746, za_747, zb_748, za_749, za_750, zb_751, zb_752, za_753, za_754, za_755, za_756, zb_757, za_758, za_759, za_760, zb_761, za_763, za_764, za_765, true_and, and_true, Nat.reduceAdd]
    unfold zo_cw
    rw [h1, h2, nI_clamp (by omega), nI_clamp (by omega), h3, decide_eq_true this]
    rfl
theorem c_canWrong {E : zm_E} (hE : zm_ok E.2.2.1 E.2.2.2.2) (d : Nat) {n m : Nat} (hm : m ≤ 10) (fr to : Int32) {M : zm_M} (hw : zt_wf n (fun i => M.1 1 (90 + i))) (hc : M.1 1 0 = nI n) (hd : M.1 1 8 = nI m) : zm_R E (d + 3) mX12_canWrong [.ref 0, .int fr, .int to] M (fun r M' => r = some (.int (zi_b (zo_cw n (fun i => M.1 1 (90 + i)) m fr to))) ∧ M' = M) := by
  refine zX12_canWrong hE rfl (fun G h0 h41 h42 => ?_)
  show G 0 [some (.ref 0), some (.int fr), some (.int to)] [] M
  have hn := hw.1
  have no : zo_cw n (fun i => M.1 1 (90 + i)) m fr to = false → G 41 [some (.ref 0), some (.int fr), some (.int to)] [] M := by
    intro h
    refine h41 _ _ _ ?_
    simp only [bX12_canWrong_41, zw_0, zw_1, zs_iconst, zb_0, za_1, za_2, za_3, za_4, za_5, za_6, za_7, za_8, za_9, za_10, za_11, za_12, za_13, za_14, true_and, and_true, Nat.reduceAdd]
    refine h42 _ _ _ ?_
    simp only [bX12_canWrong_42, zw_0, zw_1, zs_ireturn, zn_int, zn_b0, zn_b1, zb_0, za_1, za_2, za_3, za_4, za_5, za_6, za_7, za_8, za_9, za_10, za_11, za_12, za_13, za_14, true_and, and_true, Nat.reduceAdd]
    rw [h]; rfl
  refine h0 _ _ _ ?_
  simp only [bX12_canWrong_0, zw_0, zw_1, zs_aloadn0, zs_aloadNn0, zs_iloadn1, zi_12_73, zs_ifeq, zs_iloadn2, zi_12_350, zg_12_7, zs_bipush, zs_iaload, zs_icge, zs_iconst, zs_goto, zh_0, zh_1, zh_2, zh_3, zh_4, zt_i, zt_l, zt_r, zt_n, zb_0, za_1, za_2, za_3, za_4, za_5, za_6, za_7, za_8, za_9, za_10, za_11, za_12, za_13, za_14, zu_0, zu_1, zu_2, zu_3, zu_4, zu_5, zu_6, zu_7, zu_8, zu_9, zu_10, zu_11, zu_12, zu_13, zu_14, zu_15, zu_16, zu_17, zu_18, zu_19, zu_20, zu_21, zu_22, zu_23, zu_24, zu_25, zu_26, zu_27, zu_28, zu_29, zu_30, zu_90, zv_0_9, zv_1_9, zv_2_9, zv_3_9, zv_4_9, zv_5_9, zv_6_9, zv_7_9, zv_8_9, zv_0_330, zv_0_4544, zv_1_4544, zv_2_4544, zv_3_4544, zv_4_4544, zv_5_4544, zv_6_4544, zv_7_4544, zv_8_4544, zv_9_4544, zv_10_4544, zv_11_4544, zv_12_4544, zv_13_4544, zv_14_4544, zv_15_4544, zv_16_4544, zv_17_4544, zv_18_4544, zv_19_4544, zv_20_4544, zv_21_4544, zv_22_4544, zv_23_4544, zv_24_4544, zv_25_4544, zv_26_4544, zv_27_4544, zv_28_4544, zv_29_4544, zv_0_11, zv_1_11, zv_0_160, true_and, and_true, Nat.reduceAdd]
  refine zm_R_eq (c_isOfficer hE d fr M) ?_
  rw [hc, zo_in (by omega)]
  simp only [bX12_canWrong_0, zw_0, zw_1, zs_aloadn0, zs_aloadNn0, zs_iloadn1, zi_12_73, zs_ifeq, zs_iloadn2, zi_12_350, zg_12_7, zs_bipush, zs_iaload, zs_icge, zs_iconst, zs_goto, zh_0, zh_1, zh_2, zh_3, zh_4, zt_i, zt_l, zt_r, zt_n, zb_0, za_1, za_2, za_3, za_4, za_5, za_6, za_7, za_8, za_9, za_10, za_11, za_12, za_13, za_14, zu_0, zu_1, zu_2, zu_3, zu_4, zu_5, zu_6, zu_7, zu_8, zu_9, zu_10, zu_11, zu_12, zu_13, zu_14, zu_15, zu_16, zu_17, zu_18, zu_19, zu_20, zu_21, zu_22, zu_23, zu_24, zu_25, zu_26, zu_27, zu_28, zu_29, zu_30, zu_90, zv_0_9, zv_1_9, zv_2_9, zv_3_9, zv_4_9, zv_5_9, zv_6_9, zv_7_9, zv_8_9, zv_0_330, zv_0_4544, zv_1_4544, zv_2_4544, zv_3_4544, zv_4_4544, zv_5_4544, zv_6_4544, zv_7_4544, zv_8_4544, zv_9_4544, zv_10_4544, zv_11_4544, zv_12_4544, zv_13_4544, zv_14_4544, zv_15_4544, zv_16_4544, zv_17_4544, zv_18_4544, zv_19_4544, zv_20_4544, zv_21_4544, zv_22_4544, zv_23_4544, zv_24_4544, zv_25_4544, zv_26_4544, zv_27_4544, zv_28_4544, zv_29_4544, zv_0_11, zv_1_11, zv_0_160, true_and, and_true, Nat.reduceAdd, zi_b0]
  refine ⟨fun h => no (by unfold zo_cw; rw [h]; rfl), fun h1 => ?_⟩
  refine zm_R_eq (c_isOfficer hE d to M) ?_
  rw [hc, zo_in (by omega)]
  simp only [bX12_canWrong_0, zw_0, zw_1, zs_aloadn0, zs_aloadNn0, zs_iloadn1, zi_12_73, zs_ifeq, zs_iloadn2, zi_12_350, zg_12_7, zs_bipush, zs_iaload, zs_icge, zs_iconst, zs_goto, zh_0, zh_1, zh_2, zh_3, zh_4, zt_i, zt_l, zt_r, zt_n, zb_0, za_1, za_2, za_3, za_4, za_5, za_6, za_7, za_8, za_9, za_10, za_11, za_12, za_13, za_14, zu_0, zu_1, zu_2, zu_3, zu_4, zu_5, zu_6, zu_7, zu_8, zu_9, zu_10, zu_11, zu_12, zu_13, zu_14, zu_15, zu_16, zu_17, zu_18, zu_19, zu_20, zu_21, zu_22, zu_23, zu_24, zu_25, zu_26, zu_27, zu_28, zu_29, zu_30, zu_90, zv_0_9, zv_1_9, zv_2_9, zv_3_9, zv_4_9, zv_5_9, zv_6_9, zv_7_9, zv_8_9, zv_0_330, zv_0_4544, zv_1_4544, zv_2_4544, zv_3_4544, zv_4_4544, zv_5_4544, zv_6_4544, zv_7_4544, zv_8_4544, zv_9_4544, zv_10_4544, zv_11_4544, zv_12_4544, zv_13_4544, zv_14_4544, zv_15_4544, zv_16_4544, zv_17_4544, zv_18_4544, zv_19_4544, zv_20_4544, zv_21_4544, zv_22_4544, zv_23_4544, zv_24_4544, zv_25_4544, zv_26_4544, zv_27_4544, zv_28_4544, zv_29_4544, zv_0_11, zv_1_11, zv_0_160, true_and, and_true, Nat.reduceAdd, zi_b0]
  refine ⟨fun h => no (by unfold zo_cw; rw [h]; simp), fun h2 => ?_⟩
  simp only [Bool.not_eq_false] at h1 h2
  obtain ⟨i, hi, rfl⟩ := zo_of h1 (by omega)
  obtain ⟨j, hj, rfl⟩ := zo_of h2 (by omega)
  refine zm_R_eq (c_isAbove hE (d + 1) hw hj hi) ?_
  simp only [bX12_canWrong_0, zw_0, zw_1, zs_aloadn0, zs_aloadNn0, zs_iloadn1, zi_12_73, zs_ifeq, zs_iloadn2, zi_12_350, zg_12_7, zs_bipush, zs_iaload, zs_icge, zs_iconst, zs_goto, zh_0, zh_1, zh_2, zh_3, zh_4, zt_i, zt_l, zt_r, zt_n, zb_0, za_1, za_2, za_3, za_4, za_5, za_6, za_7, za_8, za_9, za_10, za_11, za_12, za_13, za_14, zu_0, zu_1, zu_2, zu_3, zu_4, zu_5, zu_6, zu_7, zu_8, zu_9, zu_10, zu_11, zu_12, zu_13, zu_14, zu_15, zu_16, zu_17, zu_18, zu_19, zu_20, zu_21, zu_22, zu_23, zu_24, zu_25, zu_26, zu_27, zu_28, zu_29, zu_30, zu_90, zv_0_9, zv_1_9, zv_2_9, zv_3_9, zv_4_9, zv_5_9, zv_6_9, zv_7_9, zv_8_9, zv_0_330, zv_0_4544, zv_1_4544, zv_2_4544, zv_3_4544, zv_4_4544, zv_5_4544, zv_6_4544, zv_7_4544, zv_8_4544, zv_9_4544, zv_10_4544, zv_11_4544, zv_12_4544, zv_13_4544, zv_14_4544, zv_15_4544, zv_16_4544, zv_17_4544, zv_18_4544, zv_19_4544, zv_20_4544, zv_21_4544, zv_22_4544, zv_23_4544, zv_24_4544, zv_25_4544, zv_26_4544, zv_27_4544, zv_28_4544, zv_29_4544, zv_0_11, zv_1_11, zv_0_160, true_and, and_true, Nat.reduceAdd, zi_b0, hd]
  refine ⟨fun h => no (by unfold zo_cw; rw [nI_clamp (by omega), nI_clamp (by omega), h]; simp), fun h3 => ?_⟩
  simp only [Bool.not_eq_false] at h3
  refine ⟨fun h => no ?_, fun h => ?_⟩
  · have : ¬ m < 10 := fun z => absurd h (nI_ge (b := 10) z (by decide))
    unfold zo_cw
    rw [decide_eq_false this]; simp
  · have : m < 10 := by
      rcases Nat.lt_or_ge m 10 with z | z
      · exact z
      · exact absurd (nI_le (a := 10) z (by omega)) h
    refine h42 _ _ _ ?_
    simp only [bX12_canWrong_42, zw_0, zw_1, zs_ireturn, zn_int, zn_b0, zn_b1, zb_0, za_1, za_2, za_3, za_4, za_5, za_6, za_7, za_8, za_9, za_10, za_11, za_12, za_13, za_14, true_and, and_true, Nat.reduceAdd]
    unfold zo_cw
    rw [h1, h2, nI_clamp (by omega), nI_clamp (by omega), h3, decide_eq_true this]
    rfl
theorem zo_cw_m {n m : Nat} {b : Nat → Int32} {fr to : Int32} (h : zo_cw n b m fr to = true) : m < 10 := by
  unfold zo_cw at h
  simp only [Bool.and_eq_true, decide_eq_true_eq] at h
  exact h.2
theorem c11_wrong {E : zm_E} (hE : zm_ok E.2.2.1 E.2.2.2.2) (d : Nat) {n s c : Nat} (fr to sz : Int32) {M : zm_M} {S : zW} {H : Nat → zW} (hw : zt_wf n (M.1 18)) (hc : M.1 17 0 = nI n) (hs : zw_sz S) (hH : ∀ i, i < s → zw_sz (H i)) (hS : zw_c M 23 S) (hk : zk_c M 16 s c H) {Q : Option Value → zm_M → Prop} (q1 : (zo_cw n (M.1 18) (zWn S) fr to = false ∨ zi_in sz 1 9999 = 0) → Q (some (.int (-1))) M) (q2 : ∀ M' c', zo_cw n (M.1 18) (zWn S) fr to = true → ¬ zi_in sz 1 9999 = 0 → zw_c M' 23 (zw_beg S fr to sz) → zk_c M' 16 (zk_n s) c' (zk_ps s H S) → zcf M M' → Q (some (.int (nI (zWn S)))) M') : zm_R E (d + 4) mX11_wrong [.ref 15, .int fr, .int to, .int sz] M Q := by
  refine zX11_wrong hE rfl (fun G h0 h20 h22 => ?_)
  show G 0 [some (.ref 15), some (.int fr), some (.int to), some (.int sz)] [] M
  have bad : (zo_cw n (M.1 18) (zWn S) fr to = false ∨ zi_in sz 1 9999 = 0) → G 20 [some (.ref 15), some (.int fr), some (.int to), some (.int sz)] [] M := by
    intro hb
    refine h20 _ _ _ ?_
    simp only [bX11_wrong_20, zw_0, zw_1, zs_iconst, zs_ireturn, zn_int, zn_b0, zn_b1, zb_15, zb_16, zb_17, za_18, za_19, za_20, za_21, za_22, zb_23, za_24, za_25, za_26, za_27, za_28, za_29, za_30, za_31, za_32, zb_35, za_36, za_37, za_38, za_39, za_40, zb_377, zb_378, za_379, za_380, za_381, za_382, za_383, zb_384, za_385, za_386, za_387, za_388, za_389, za_390, za_391, za_392, za_393, zb_396, za_397, za_398, za_399, za_400, za_401, zb_738, za_739, za_740, za_741, za_742, za_743, za_744, za_745, za_746, za_747, zb_748, za_749, za_750, zb_751, zb_752, za_753, za_754, za_755, za_756, zb_757, za_758, za_759, za_760, zb_761, za_763, za_764, za_765, true_and, and_true, Nat.reduceAdd]
    exact q1 hb
  refine h0 _ _ _ ?_
  simp only [bX11_wrong_0, zw_0, zw_1, zs_aloadn0, zs_aloadNn0, zs_iloadn1, zs_iloadn2, zi_11_130, zs_ifeq, zs_iloadn3, zs_iconst, zs_sipush, zi_11_86, zs_ifne, zh_0, zh_1, zh_2, zh_3, zh_4, zt_i, zt_l, zt_r, zt_n, zb_15, zb_16, zb_17, za_18, za_19, za_20, za_21, za_22, zb_23, za_24, za_25, za_26, za_27, za_28, za_29, za_30, za_31, za_32, zb_35, za_36, za_37, za_38, za_39, za_40, zb_377, zb_378, za_379, za_380, za_381, za_382, za_383, zb_384, za_385, za_386, za_387, za_388, za_389, za_390, za_391, za_392, za_393, zb_396, za_397, za_398, za_399, za_400, za_401, zb_738, za_739, za_740, za_741, za_742, za_743, za_744, za_745, za_746, za_747, zb_748, za_749, za_750, zb_751, zb_752, za_753, za_754, za_755, za_756, zb_757, za_758, za_759, za_760, zb_761, za_763, za_764, za_765, true_and, and_true, Nat.reduceAdd]
  refine zm_R_eq (c11_canWrong hE d hs.1 fr to hw hc hS.2.2.1) ?_
  simp only [bX11_wrong_0, zw_0, zw_1, zs_aloadn0, zs_aloadNn0, zs_iloadn1, zs_iloadn2, zi_11_130, zs_ifeq, zs_iloadn3, zs_iconst, zs_sipush, zi_11_86, zs_ifne, zh_0, zh_1, zh_2, zh_3, zh_4, zt_i, zt_l, zt_r, zt_n, zb_15, zb_16, zb_17, za_18, za_19, za_20, za_21, za_22, zb_23, za_24, za_25, za_26, za_27, za_28, za_29, za_30, za_31, za_32, zb_35, za_36, za_37, za_38, za_39, za_40, zb_377, zb_378, za_379, za_380, za_381, za_382, za_383, zb_384, za_385, za_386, za_387, za_388, za_389, za_390, za_391, za_392, za_393, zb_396, za_397, za_398, za_399, za_400, za_401, zb_738, za_739, za_740, za_741, za_742, za_743, za_744, za_745, za_746, za_747, zb_748, za_749, za_750, zb_751, zb_752, za_753, za_754, za_755, za_756, zb_757, za_758, za_759, za_760, zb_761, za_763, za_764, za_765, true_and, and_true, Nat.reduceAdd, zi_b0]
  refine ⟨fun h => bad (Or.inl h), fun h1 => ?_⟩
  simp only [Bool.not_eq_false] at h1
  refine zm_R_eq (c11_within hE (d + 2) sz 1 9999 M) ?_
  simp only [bX11_wrong_0, zw_0, zw_1, zs_aloadn0, zs_aloadNn0, zs_iloadn1, zs_iloadn2, zi_11_130, zs_ifeq, zs_iloadn3, zs_iconst, zs_sipush, zi_11_86, zs_ifne, zh_0, zh_1, zh_2, zh_3, zh_4, zt_i, zt_l, zt_r, zt_n, zb_15, zb_16, zb_17, za_18, za_19, za_20, za_21, za_22, zb_23, za_24, za_25, za_26, za_27, za_28, za_29, za_30, za_31, za_32, zb_35, za_36, za_37, za_38, za_39, za_40, zb_377, zb_378, za_379, za_380, za_381, za_382, za_383, zb_384, za_385, za_386, za_387, za_388, za_389, za_390, za_391, za_392, za_393, zb_396, za_397, za_398, za_399, za_400, za_401, zb_738, za_739, za_740, za_741, za_742, za_743, za_744, za_745, za_746, za_747, zb_748, za_749, za_750, zb_751, zb_752, za_753, za_754, za_755, za_756, zb_757, za_758, za_759, za_760, zb_761, za_763, za_764, za_765, true_and, and_true, Nat.reduceAdd]
  refine ⟨fun h2 => ?_, fun h => bad (Or.inr h)⟩
  refine h22 _ _ _ ?_
  simp only [bX11_wrong_22, zw_0, zw_1, zs_aloadn0, zs_aloadNn0, zg_11_10, zi_11_133, zg_11_136, zs_iloadn1, zs_iloadn2, zs_iloadn3, zi_11_139, zs_ireturn, zh_0, zh_1, zh_2, zh_3, zh_4, zt_i, zt_l, zt_r, zt_n, zn_int, zn_b0, zn_b1, zb_15, zb_16, zb_17, za_18, za_19, za_20, za_21, za_22, zb_23, za_24, za_25, za_26, za_27, za_28, za_29, za_30, za_31, za_32, zb_35, za_36, za_37, za_38, za_39, za_40, zb_377, zb_378, za_379, za_380, za_381, za_382, za_383, zb_384, za_385, za_386, za_387, za_388, za_389, za_390, za_391, za_392, za_393, zb_396, za_397, za_398, za_399, za_400, za_401, zb_738, za_739, za_740, za_741, za_742, za_743, za_744, za_745, za_746, za_747, zb_748, za_749, za_750, zb_751, zb_752, za_753, za_754, za_755, za_756, zb_757, za_758, za_759, za_760, zb_761, za_763, za_764, za_765, true_and, and_true, Nat.reduceAdd]
  refine c6_keep hE (d + 1) hs hH hS hk (fun M1 c' a1 a2 a3 => ?_)
  simp only [bX11_wrong_22, zw_0, zw_1, zs_aloadn0, zs_aloadNn0, zg_11_10, zi_11_133, zg_11_136, zs_iloadn1, zs_iloadn2, zs_iloadn3, zi_11_139, zs_ireturn, zh_0, zh_1, zh_2, zh_3, zh_4, zt_i, zt_l, zt_r, zt_n, zn_int, zn_b0, zn_b1, zb_15, zb_16, zb_17, za_18, za_19, za_20, za_21, za_22, zb_23, za_24, za_25, za_26, za_27, za_28, za_29, za_30, za_31, za_32, zb_35, za_36, za_37, za_38, za_39, za_40, zb_377, zb_378, za_379, za_380, za_381, za_382, za_383, zb_384, za_385, za_386, za_387, za_388, za_389, za_390, za_391, za_392, za_393, zb_396, za_397, za_398, za_399, za_400, za_401, zb_738, za_739, za_740, za_741, za_742, za_743, za_744, za_745, za_746, za_747, zb_748, za_749, za_750, zb_751, zb_752, za_753, za_754, za_755, za_756, zb_757, za_758, za_759, za_760, zb_761, za_763, za_764, za_765, true_and, and_true, Nat.reduceAdd]
  have hH' : ∀ i, i < zk_n s → zw_sz (zk_ps s H S i) := by
    intro i hi
    unfold zk_n at hi
    unfold zk_ps
    by_cases e : s = 30
    · rw [if_pos e] at hi ⊢
      show zw_sz (if i = 29 then S else H (i + 1))
      split
      · exact hs
      · exact hH _ (by omega)
    · rw [if_neg e] at hi ⊢
      show zw_sz (if i = s then S else H i)
      split
      · exact hs
      · exact hH _ (by omega)
  refine c10_begin hE (d + 2) zw_23 fr to sz (zo_cw_m h1) a1 (fun M2 b1 b2 => ?_)
  simp only [bX11_wrong_22, zw_0, zw_1, zs_aloadn0, zs_aloadNn0, zg_11_10, zi_11_133, zg_11_136, zs_iloadn1, zs_iloadn2, zs_iloadn3, zi_11_139, zs_ireturn, zh_0, zh_1, zh_2, zh_3, zh_4, zt_i, zt_l, zt_r, zt_n, zn_int, zn_b0, zn_b1, zb_15, zb_16, zb_17, za_18, za_19, za_20, za_21, za_22, zb_23, za_24, za_25, za_26, za_27, za_28, za_29, za_30, za_31, za_32, zb_35, za_36, za_37, za_38, za_39, za_40, zb_377, zb_378, za_379, za_380, za_381, za_382, za_383, zb_384, za_385, za_386, za_387, za_388, za_389, za_390, za_391, za_392, za_393, zb_396, za_397, za_398, za_399, za_400, za_401, zb_738, za_739, za_740, za_741, za_742, za_743, za_744, za_745, za_746, za_747, zb_748, za_749, za_750, zb_751, zb_752, za_753, za_754, za_755, za_756, zb_757, za_758, za_759, za_760, zb_761, za_763, za_764, za_765, true_and, and_true, Nat.reduceAdd]
  exact q2 M2 c' h1 h2 b1 (zk_c_w hH' a2 b2) (zcf_trans (zcf_j a3) (zcf_w b2))
theorem zk_sz {s : Nat} {H : Nat → zW} {S : zW} (hs : zw_sz S) (hH : ∀ i, i < s → zw_sz (H i)) : ∀ i, i < zk_n s → zw_sz (zk_ps s H S i) := by
  intro i hi
  unfold zk_n at hi
  unfold zk_ps
  by_cases e : s = 30
  · rw [if_pos e] at hi ⊢
    show zw_sz (if i = 29 then S else H (i + 1))
    split
    · exact hs
    · exact hH _ (by omega)
  · rw [if_neg e] at hi ⊢
    show zw_sz (if i = s then S else H i)
    split
    · exact hs
    · exact hH _ (by omega)
theorem zmf_k {M M' : zm_M} (h1 : zf [1] M M') (h2 : ∀ j, j ≠ 3 → (j < 164 ∨ 4484 ≤ j) → M'.1 1 j = M.1 1 j) : zmf M M' := ⟨h1, fun j hj => h2 j (fun e => hj (Or.inl e)) (by unfold zP_m at hj; omega)⟩
theorem c_wrong {E : zm_E} (hE : zm_ok E.2.2.1 E.2.2.2.2) (d : Nat) {n s : Nat} (fr to sz : Int32) {M : zm_M} {S : zW} {H : Nat → zW} (hw : zt_wf n (fun i => M.1 1 (90 + i))) (hc : M.1 1 0 = nI n) (hs : zw_sz S) (hH : ∀ i, i < s → zw_sz (H i)) (hS : zw_m M S) (hk : zk_m M 1 s H) {Q : Option Value → zm_M → Prop} (q1 : (zo_cw n (fun i => M.1 1 (90 + i)) (zWn S) fr to = false ∨ zi_in sz 1 9999 = 0) → Q (some (.int (-1))) M) (q2 : ∀ M', zo_cw n (fun i => M.1 1 (90 + i)) (zWn S) fr to = true → ¬ zi_in sz 1 9999 = 0 → zw_m M' (zw_beg S fr to sz) → zk_m M' 1 (zk_n s) (zk_ps s H S) → zmf M M' → Q (some (.int (nI (zWn S)))) M') : zm_R E (d + 4) mX12_wrong [.ref 0, .int fr, .int to, .int sz] M Q := by
  refine zX12_wrong hE rfl (fun G h0 h20 h22 => ?_)
  show G 0 [some (.ref 0), some (.int fr), some (.int to), some (.int sz)] [] M
  have bad : (zo_cw n (fun i => M.1 1 (90 + i)) (zWn S) fr to = false ∨ zi_in sz 1 9999 = 0) → G 20 [some (.ref 0), some (.int fr), some (.int to), some (.int sz)] [] M := by
    intro hb
    refine h20 _ _ _ ?_
    simp only [bX12_wrong_20, zw_0, zw_1, zs_iconst, zs_ireturn, zn_int, zn_b0, zn_b1, zb_0, za_1, za_2, za_3, za_4, za_5, za_6, za_7, za_8, za_9, za_10, za_11, za_12, za_13, za_14, true_and, and_true, Nat.reduceAdd]
    exact q1 hb
  refine h0 _ _ _ ?_
  simp only [bX12_wrong_0, zw_0, zw_1, zs_aloadn0, zs_aloadNn0, zs_iloadn1, zs_iloadn2, zi_12_353, zs_ifeq, zs_iloadn3, zs_iconst, zs_sipush, zi_12_69, zs_ifne, zh_0, zh_1, zh_2, zh_3, zh_4, zt_i, zt_l, zt_r, zt_n, zb_0, za_1, za_2, za_3, za_4, za_5, za_6, za_7, za_8, za_9, za_10, za_11, za_12, za_13, za_14, true_and, and_true, Nat.reduceAdd]
  refine zm_R_eq (c_canWrong hE d hs.1 fr to hw hc hS.2.2.1) ?_
  simp only [bX12_wrong_0, zw_0, zw_1, zs_aloadn0, zs_aloadNn0, zs_iloadn1, zs_iloadn2, zi_12_353, zs_ifeq, zs_iloadn3, zs_iconst, zs_sipush, zi_12_69, zs_ifne, zh_0, zh_1, zh_2, zh_3, zh_4, zt_i, zt_l, zt_r, zt_n, zb_0, za_1, za_2, za_3, za_4, za_5, za_6, za_7, za_8, za_9, za_10, za_11, za_12, za_13, za_14, true_and, and_true, Nat.reduceAdd, zi_b0]
  refine ⟨fun h => bad (Or.inl h), fun h1 => ?_⟩
  simp only [Bool.not_eq_false] at h1
  refine zm_R_eq (c_isIn hE (d + 2) sz 1 9999 M) ?_
  simp only [bX12_wrong_0, zw_0, zw_1, zs_aloadn0, zs_aloadNn0, zs_iloadn1, zs_iloadn2, zi_12_353, zs_ifeq, zs_iloadn3, zs_iconst, zs_sipush, zi_12_69, zs_ifne, zh_0, zh_1, zh_2, zh_3, zh_4, zt_i, zt_l, zt_r, zt_n, zb_0, za_1, za_2, za_3, za_4, za_5, za_6, za_7, za_8, za_9, za_10, za_11, za_12, za_13, za_14, true_and, and_true, Nat.reduceAdd]
  refine ⟨fun h2 => ?_, fun h => bad (Or.inr h)⟩
  refine h22 _ _ _ ?_
  simp only [bX12_wrong_22, zw_0, zw_1, zs_aloadn0, zs_aloadNn0, zi_12_356, zs_iloadn1, zs_iloadn2, zs_iloadn3, zi_12_359, zg_12_7, zs_bipush, zs_iaload, zs_iconst, zs_isub, zs_ireturn, zh_0, zh_1, zh_2, zh_3, zh_4, zt_i, zt_l, zt_r, zt_n, zn_int, zn_b0, zn_b1, zb_0, za_1, za_2, za_3, za_4, za_5, za_6, za_7, za_8, za_9, za_10, za_11, za_12, za_13, za_14, zu_0, zu_1, zu_2, zu_3, zu_4, zu_5, zu_6, zu_7, zu_8, zu_9, zu_10, zu_11, zu_12, zu_13, zu_14, zu_15, zu_16, zu_17, zu_18, zu_19, zu_20, zu_21, zu_22, zu_23, zu_24, zu_25, zu_26, zu_27, zu_28, zu_29, zu_30, zu_90, zv_0_9, zv_1_9, zv_2_9, zv_3_9, zv_4_9, zv_5_9, zv_6_9, zv_7_9, zv_8_9, zv_0_330, zv_0_4544, zv_1_4544, zv_2_4544, zv_3_4544, zv_4_4544, zv_5_4544, zv_6_4544, zv_7_4544, zv_8_4544, zv_9_4544, zv_10_4544, zv_11_4544, zv_12_4544, zv_13_4544, zv_14_4544, zv_15_4544, zv_16_4544, zv_17_4544, zv_18_4544, zv_19_4544, zv_20_4544, zv_21_4544, zv_22_4544, zv_23_4544, zv_24_4544, zv_25_4544, zv_26_4544, zv_27_4544, zv_28_4544, zv_29_4544, zv_0_11, zv_1_11, zv_0_160, true_and, and_true, Nat.reduceAdd]
  refine c_keep hE (d + 2) hs hH hS hk (fun M1 a1 a2 a3 a4 => ?_)
  simp only [bX12_wrong_22, zw_0, zw_1, zs_aloadn0, zs_aloadNn0, zi_12_356, zs_iloadn1, zs_iloadn2, zs_iloadn3, zi_12_359, zg_12_7, zs_bipush, zs_iaload, zs_iconst, zs_isub, zs_ireturn, zh_0, zh_1, zh_2, zh_3, zh_4, zt_i, zt_l, zt_r, zt_n, zn_int, zn_b0, zn_b1, zb_0, za_1, za_2, za_3, za_4, za_5, za_6, za_7, za_8, za_9, za_10, za_11, za_12, za_13, za_14, zu_0, zu_1, zu_2, zu_3, zu_4, zu_5, zu_6, zu_7, zu_8, zu_9, zu_10, zu_11, zu_12, zu_13, zu_14, zu_15, zu_16, zu_17, zu_18, zu_19, zu_20, zu_21, zu_22, zu_23, zu_24, zu_25, zu_26, zu_27, zu_28, zu_29, zu_30, zu_90, zv_0_9, zv_1_9, zv_2_9, zv_3_9, zv_4_9, zv_5_9, zv_6_9, zv_7_9, zv_8_9, zv_0_330, zv_0_4544, zv_1_4544, zv_2_4544, zv_3_4544, zv_4_4544, zv_5_4544, zv_6_4544, zv_7_4544, zv_8_4544, zv_9_4544, zv_10_4544, zv_11_4544, zv_12_4544, zv_13_4544, zv_14_4544, zv_15_4544, zv_16_4544, zv_17_4544, zv_18_4544, zv_19_4544, zv_20_4544, zv_21_4544, zv_22_4544, zv_23_4544, zv_24_4544, zv_25_4544, zv_26_4544, zv_27_4544, zv_28_4544, zv_29_4544, zv_0_11, zv_1_11, zv_0_160, true_and, and_true, Nat.reduceAdd]
  refine c_wrongNow hE (d + 1) fr to sz hs (zo_cw_m h1) a1 (fun M2 b1 b2 => ?_)
  have e8 : M2.1 1 8 = nI (zWn S + 1) := b1.2.2.1
  simp only [bX12_wrong_22, zw_0, zw_1, zs_aloadn0, zs_aloadNn0, zi_12_356, zs_iloadn1, zs_iloadn2, zs_iloadn3, zi_12_359, zg_12_7, zs_bipush, zs_iaload, zs_iconst, zs_isub, zs_ireturn, zh_0, zh_1, zh_2, zh_3, zh_4, zt_i, zt_l, zt_r, zt_n, zn_int, zn_b0, zn_b1, zb_0, za_1, za_2, za_3, za_4, za_5, za_6, za_7, za_8, za_9, za_10, za_11, za_12, za_13, za_14, zu_0, zu_1, zu_2, zu_3, zu_4, zu_5, zu_6, zu_7, zu_8, zu_9, zu_10, zu_11, zu_12, zu_13, zu_14, zu_15, zu_16, zu_17, zu_18, zu_19, zu_20, zu_21, zu_22, zu_23, zu_24, zu_25, zu_26, zu_27, zu_28, zu_29, zu_30, zu_90, zv_0_9, zv_1_9, zv_2_9, zv_3_9, zv_4_9, zv_5_9, zv_6_9, zv_7_9, zv_8_9, zv_0_330, zv_0_4544, zv_1_4544, zv_2_4544, zv_3_4544, zv_4_4544, zv_5_4544, zv_6_4544, zv_7_4544, zv_8_4544, zv_9_4544, zv_10_4544, zv_11_4544, zv_12_4544, zv_13_4544, zv_14_4544, zv_15_4544, zv_16_4544, zv_17_4544, zv_18_4544, zv_19_4544, zv_20_4544, zv_21_4544, zv_22_4544, zv_23_4544, zv_24_4544, zv_25_4544, zv_26_4544, zv_27_4544, zv_28_4544, zv_29_4544, zv_0_11, zv_1_11, zv_0_160, true_and, and_true, Nat.reduceAdd, e8]
  rw [nI_pred]
  exact q2 M2 h1 h2 b1 (zk_m_h (zk_sz hs hH) a2 b2) (zmf_trans (zmf_k a3 a4) (zmf_h b2))
/-! away -/
theorem c11_away {E : zm_E} (hE : zm_ok E.2.2.1 E.2.2.2.2) (d : Nat) {n s c : Nat} (hn : n ≤ 10) (o dy : Int32) {M : zm_M} {S : zW} {H : Nat → zW} (hc : M.1 17 0 = nI n) (hs : zw_sz S) (hH : ∀ i, i < s → zw_sz (H i)) (hS : zw_c M 23 S) (hk : zk_c M 16 s c H) {Q : Option Value → zm_M → Prop} (q1 : (zo_is n o = false ∨ zi_in dy 0 99 = 0) → Q (some (.int 0)) M) (q2 : ∀ M' c' p, p < n → o = nI p → ¬ zi_in dy 0 99 = 0 → zw_c M' 23 (zw_lv S p (if dy = 0 then 0 else zWd S + dy)) → zk_c M' 16 (zk_n s) c' (zk_ps s H S) → zcf M M' → Q (some (.int 1)) M') : zm_R E (d + 3) mX11_away [.ref 15, .int o, .int dy] M Q := by
  refine zX11_away hE rfl (fun G h0 h24 h26 => ?_)
  show G 0 [some (.ref 15), some (.int o), some (.int dy)] [] M
  have bad : (zo_is n o = false ∨ zi_in dy 0 99 = 0) → G 24 [some (.ref 15), some (.int o), some (.int dy)] [] M := by
    intro hb
    refine h24 _ _ _ ?_
    simp only [bX11_away_24, zw_0, zw_1, zs_iconst, zs_ireturn, zn_int, zn_b0, zn_b1, zb_15, zb_16, zb_17, za_18, za_19, za_20, za_21, za_22, zb_23, za_24, za_25, za_26, za_27, za_28, za_29, za_30, za_31, za_32, zb_35, za_36, za_37, za_38, za_39, za_40, zb_377, zb_378, za_379, za_380, za_381, za_382, za_383, zb_384, za_385, za_386, za_387, za_388, za_389, za_390, za_391, za_392, za_393, zb_396, za_397, za_398, za_399, za_400, za_401, zb_738, za_739, za_740, za_741, za_742, za_743, za_744, za_745, za_746, za_747, zb_748, za_749, za_750, zb_751, zb_752, za_753, za_754, za_755, za_756, zb_757, za_758, za_759, za_760, zb_761, za_763, za_764, za_765, true_and, and_true, Nat.reduceAdd]
    exact q1 hb
  refine h0 _ _ _ ?_
  simp only [bX11_away_0, zw_0, zw_1, zs_aloadn0, zs_aloadNn0, zg_11_10, zg_11_28, zs_iloadn1, zi_11_82, zs_ifeq, zs_iloadn2, zs_iconst, zs_bipush, zi_11_86, zs_ifne, zh_0, zh_1, zh_2, zh_3, zh_4, zt_i, zt_l, zt_r, zt_n, zb_15, zb_16, zb_17, za_18, za_19, za_20, za_21, za_22, zb_23, za_24, za_25, za_26, za_27, za_28, za_29, za_30, za_31, za_32, zb_35, za_36, za_37, za_38, za_39, za_40, zb_377, zb_378, za_379, za_380, za_381, za_382, za_383, zb_384, za_385, za_386, za_387, za_388, za_389, za_390, za_391, za_392, za_393, zb_396, za_397, za_398, za_399, za_400, za_401, zb_738, za_739, za_740, za_741, za_742, za_743, za_744, za_745, za_746, za_747, zb_748, za_749, za_750, zb_751, zb_752, za_753, za_754, za_755, za_756, zb_757, za_758, za_759, za_760, zb_761, za_763, za_764, za_765, true_and, and_true, Nat.reduceAdd]
  refine zm_R_eq (c7_has hE (d + 1) (n := n) (by omega) o hc) ?_
  simp only [bX11_away_0, zw_0, zw_1, zs_aloadn0, zs_aloadNn0, zg_11_10, zg_11_28, zs_iloadn1, zi_11_82, zs_ifeq, zs_iloadn2, zs_iconst, zs_bipush, zi_11_86, zs_ifne, zh_0, zh_1, zh_2, zh_3, zh_4, zt_i, zt_l, zt_r, zt_n, zb_15, zb_16, zb_17, za_18, za_19, za_20, za_21, za_22, zb_23, za_24, za_25, za_26, za_27, za_28, za_29, za_30, za_31, za_32, zb_35, za_36, za_37, za_38, za_39, za_40, zb_377, zb_378, za_379, za_380, za_381, za_382, za_383, zb_384, za_385, za_386, za_387, za_388, za_389, za_390, za_391, za_392, za_393, zb_396, za_397, za_398, za_399, za_400, za_401, zb_738, za_739, za_740, za_741, za_742, za_743, za_744, za_745, za_746, za_747, zb_748, za_749, za_750, zb_751, zb_752, za_753, za_754, za_755, za_756, zb_757, za_758, za_759, za_760, zb_761, za_763, za_764, za_765, true_and, and_true, Nat.reduceAdd, zi_b0]
  refine ⟨fun h => bad (Or.inl h), fun h1 => ?_⟩
  simp only [Bool.not_eq_false] at h1
  obtain ⟨p, hp, rfl⟩ := zo_of h1 (by omega)
  refine zm_R_eq (c11_within hE (d + 1) dy 0 99 M) ?_
  simp only [bX11_away_0, zw_0, zw_1, zs_aloadn0, zs_aloadNn0, zg_11_10, zg_11_28, zs_iloadn1, zi_11_82, zs_ifeq, zs_iloadn2, zs_iconst, zs_bipush, zi_11_86, zs_ifne, zh_0, zh_1, zh_2, zh_3, zh_4, zt_i, zt_l, zt_r, zt_n, zb_15, zb_16, zb_17, za_18, za_19, za_20, za_21, za_22, zb_23, za_24, za_25, za_26, za_27, za_28, za_29, za_30, za_31, za_32, zb_35, za_36, za_37, za_38, za_39, za_40, zb_377, zb_378, za_379, za_380, za_381, za_382, za_383, zb_384, za_385, za_386, za_387, za_388, za_389, za_390, za_391, za_392, za_393, zb_396, za_397, za_398, za_399, za_400, za_401, zb_738, za_739, za_740, za_741, za_742, za_743, za_744, za_745, za_746, za_747, zb_748, za_749, za_750, zb_751, zb_752, za_753, za_754, za_755, za_756, zb_757, za_758, za_759, za_760, zb_761, za_763, za_764, za_765, true_and, and_true, Nat.reduceAdd]
  refine ⟨fun h2 => ?_, fun h => bad (Or.inr h)⟩
  refine h26 _ _ _ ?_
  simp only [bX11_away_26, zw_0, zw_1, zs_aloadn0, zs_aloadNn0, zg_11_10, zi_11_133, zg_11_136, zs_iloadn1, zs_iloadn2, zi_11_147, zs_iconst, zs_ireturn, zh_0, zh_1, zh_2, zh_3, zh_4, zt_i, zt_l, zt_r, zt_n, zn_int, zn_b0, zn_b1, zb_15, zb_16, zb_17, za_18, za_19, za_20, za_21, za_22, zb_23, za_24, za_25, za_26, za_27, za_28, za_29, za_30, za_31, za_32, zb_35, za_36, za_37, za_38, za_39, za_40, zb_377, zb_378, za_379, za_380, za_381, za_382, za_383, zb_384, za_385, za_386, za_387, za_388, za_389, za_390, za_391, za_392, za_393, zb_396, za_397, za_398, za_399, za_400, za_401, zb_738, za_739, za_740, za_741, za_742, za_743, za_744, za_745, za_746, za_747, zb_748, za_749, za_750, zb_751, zb_752, za_753, za_754, za_755, za_756, zb_757, za_758, za_759, za_760, zb_761, za_763, za_764, za_765, true_and, and_true, Nat.reduceAdd]
  refine c6_keep hE d hs hH hS hk (fun M1 c' a1 a2 a3 => ?_)
  simp only [bX11_away_26, zw_0, zw_1, zs_aloadn0, zs_aloadNn0, zg_11_10, zi_11_133, zg_11_136, zs_iloadn1, zs_iloadn2, zi_11_147, zs_iconst, zs_ireturn, zh_0, zh_1, zh_2, zh_3, zh_4, zt_i, zt_l, zt_r, zt_n, zn_int, zn_b0, zn_b1, zb_15, zb_16, zb_17, za_18, za_19, za_20, za_21, za_22, zb_23, za_24, za_25, za_26, za_27, za_28, za_29, za_30, za_31, za_32, zb_35, za_36, za_37, za_38, za_39, za_40, zb_377, zb_378, za_379, za_380, za_381, za_382, za_383, zb_384, za_385, za_386, za_387, za_388, za_389, za_390, za_391, za_392, za_393, zb_396, za_397, za_398, za_399, za_400, za_401, zb_738, za_739, za_740, za_741, za_742, za_743, za_744, za_745, za_746, za_747, zb_748, za_749, za_750, zb_751, zb_752, za_753, za_754, za_755, za_756, zb_757, za_758, za_759, za_760, zb_761, za_763, za_764, za_765, true_and, and_true, Nat.reduceAdd]
  refine c10_leave hE (d + 1) zw_23 (by omega) dy a1 (fun M2 b1 b2 => ?_)
  simp only [bX11_away_26, zw_0, zw_1, zs_aloadn0, zs_aloadNn0, zg_11_10, zi_11_133, zg_11_136, zs_iloadn1, zs_iloadn2, zi_11_147, zs_iconst, zs_ireturn, zh_0, zh_1, zh_2, zh_3, zh_4, zt_i, zt_l, zt_r, zt_n, zn_int, zn_b0, zn_b1, zb_15, zb_16, zb_17, za_18, za_19, za_20, za_21, za_22, zb_23, za_24, za_25, za_26, za_27, za_28, za_29, za_30, za_31, za_32, zb_35, za_36, za_37, za_38, za_39, za_40, zb_377, zb_378, za_379, za_380, za_381, za_382, za_383, zb_384, za_385, za_386, za_387, za_388, za_389, za_390, za_391, za_392, za_393, zb_396, za_397, za_398, za_399, za_400, za_401, zb_738, za_739, za_740, za_741, za_742, za_743, za_744, za_745, za_746, za_747, zb_748, za_749, za_750, zb_751, zb_752, za_753, za_754, za_755, za_756, zb_757, za_758, za_759, za_760, zb_761, za_763, za_764, za_765, true_and, and_true, Nat.reduceAdd]
  exact q2 M2 c' p hp rfl h2 b1 (zk_c_w (zk_sz hs hH) a2 b2) (zcf_trans (zcf_j a3) (zcf_w b2))
theorem zw_m_lv {M : zm_M} {S : zW} (hs : zw_sz S) (h : zw_m M S) {p : Nat} (hp : p < 10) (v : Int32) : zw_m (zm_wi M 1 (10 + p) v) (zw_lv S p v) := by
  obtain ⟨h1, h2, h3, h4, h5, h6, h7⟩ := h
  have ne : ∀ j, j ≠ 10 + p → (zm_wi M 1 (10 + p) v).1 1 j = M.1 1 j := fun j hj => by rw [zm_wi_same, if_neg hj]
  refine ⟨(ne _ (by omega)).trans h1, (ne _ (by omega)).trans h2, (ne _ (by omega)).trans h3, (ne _ (by omega)).trans h4, fun i hi => ?_, fun x k hx hk => (ne _ (by omega)).trans (h6 x k hx hk), fun i hi => ⟨(ne _ (by omega)).trans (h7 i hi).1, (ne _ (by omega)).trans (h7 i hi).2⟩⟩
  show (zm_wi M 1 (10 + p) v).1 1 (6 + (4 + i)) = if i = p then v else zWo S i
  by_cases c : i = p
  · rw [if_pos c, zm_wi_same, if_pos (by omega)]
  · rw [if_neg c]; exact (ne _ (by omega)).trans (h5 i hi)
theorem c_away {E : zm_E} (hE : zm_ok E.2.2.1 E.2.2.2.2) (d : Nat) {n s : Nat} (hn : n ≤ 10) (o dy : Int32) {M : zm_M} {S : zW} {H : Nat → zW} (hc : M.1 1 0 = nI n) (hs : zw_sz S) (hH : ∀ i, i < s → zw_sz (H i)) (hS : zw_m M S) (hk : zk_m M 1 s H) {Q : Option Value → zm_M → Prop} (q1 : (zo_is n o = false ∨ zi_in dy 0 99 = 0) → Q (some (.int 0)) M) (q2 : ∀ M' p, p < n → o = nI p → ¬ zi_in dy 0 99 = 0 → zw_m M' (zw_lv S p (if dy = 0 then 0 else zWd S + dy)) → zk_m M' 1 (zk_n s) (zk_ps s H S) → zmf M M' → Q (some (.int 1)) M') : zm_R E (d + 3) mX12_away [.ref 0, .int o, .int dy] M Q := by
  refine zX12_away hE rfl (fun G h0 h18 h20 h40 h49 => ?_)
  show G 0 [some (.ref 0), some (.int o), some (.int dy)] [] M
  have bad : (zo_is n o = false ∨ zi_in dy 0 99 = 0) → G 18 [some (.ref 0), some (.int o), some (.int dy)] [] M := by
    intro hb
    refine h18 _ _ _ ?_
    simp only [bX12_away_18, zw_0, zw_1, zs_iconst, zs_ireturn, zn_int, zn_b0, zn_b1, zb_0, za_1, za_2, za_3, za_4, za_5, za_6, za_7, za_8, za_9, za_10, za_11, za_12, za_13, za_14, true_and, and_true, Nat.reduceAdd]
    exact q1 hb
  refine h0 _ _ _ ?_
  simp only [bX12_away_0, zw_0, zw_1, zs_aloadn0, zs_aloadNn0, zs_iloadn1, zi_12_73, zs_ifeq, zs_iloadn2, zs_iconst, zs_bipush, zi_12_69, zs_ifne, zh_0, zh_1, zh_2, zh_3, zh_4, zt_i, zt_l, zt_r, zt_n, zb_0, za_1, za_2, za_3, za_4, za_5, za_6, za_7, za_8, za_9, za_10, za_11, za_12, za_13, za_14, true_and, and_true, Nat.reduceAdd]
  refine zm_R_eq (c_isOfficer hE d o M) ?_
  rw [hc, zo_in (by omega)]
  simp only [bX12_away_0, zw_0, zw_1, zs_aloadn0, zs_aloadNn0, zs_iloadn1, zi_12_73, zs_ifeq, zs_iloadn2, zs_iconst, zs_bipush, zi_12_69, zs_ifne, zh_0, zh_1, zh_2, zh_3, zh_4, zt_i, zt_l, zt_r, zt_n, zb_0, za_1, za_2, za_3, za_4, za_5, za_6, za_7, za_8, za_9, za_10, za_11, za_12, za_13, za_14, true_and, and_true, Nat.reduceAdd, zi_b0]
  refine ⟨fun h => bad (Or.inl h), fun h1 => ?_⟩
  simp only [Bool.not_eq_false] at h1
  obtain ⟨p, hp, rfl⟩ := zo_of h1 (by omega)
  refine zm_R_eq (c_isIn hE (d + 1) dy 0 99 M) ?_
  simp only [bX12_away_0, zw_0, zw_1, zs_aloadn0, zs_aloadNn0, zs_iloadn1, zi_12_73, zs_ifeq, zs_iloadn2, zs_iconst, zs_bipush, zi_12_69, zs_ifne, zh_0, zh_1, zh_2, zh_3, zh_4, zt_i, zt_l, zt_r, zt_n, zb_0, za_1, za_2, za_3, za_4, za_5, za_6, za_7, za_8, za_9, za_10, za_11, za_12, za_13, za_14, true_and, and_true, Nat.reduceAdd]
  refine ⟨fun h2 => ?_, fun h => bad (Or.inr h)⟩
  refine h20 _ _ _ ?_
  simp only [bX12_away_20, zw_0, zw_1, zs_aloadn0, zs_aloadNn0, zi_12_356, zg_12_7, zs_bipush, zs_iloadn1, zs_iadd, zs_iloadn2, zs_ifne, zs_iconst, zs_goto, zh_0, zh_1, zh_2, zh_3, zh_4, zt_i, zt_l, zt_r, zt_n, zb_0, za_1, za_2, za_3, za_4, za_5, za_6, za_7, za_8, za_9, za_10, za_11, za_12, za_13, za_14, true_and, and_true, Nat.reduceAdd]
  refine c_keep hE (d + 1) hs hH hS hk (fun M1 a1 a2 a3 a4 => ?_)
  obtain ⟨i1, i2⟩ := zx_ck (k := 10) (p := p) (N := 4544) (by omega) (by decide)
  have fin : ∀ v, v = (if dy = 0 then 0 else zWd S + dy) → G 49 [some (.ref 0), some (.int (nI p)), some (.int dy)] [.int v, .int (nI (10 + p)), .ref 1] M1 := by
    intro v hv
    refine h49 _ _ _ ?_
    simp only [bX12_away_49, zw_0, zw_1, zs_iastore, zs_iconst, zs_ireturn, zn_int, zn_b0, zn_b1, zb_0, za_1, za_2, za_3, za_4, za_5, za_6, za_7, za_8, za_9, za_10, za_11, za_12, za_13, za_14, zu_0, zu_1, zu_2, zu_3, zu_4, zu_5, zu_6, zu_7, zu_8, zu_9, zu_10, zu_11, zu_12, zu_13, zu_14, zu_15, zu_16, zu_17, zu_18, zu_19, zu_20, zu_21, zu_22, zu_23, zu_24, zu_25, zu_26, zu_27, zu_28, zu_29, zu_30, zu_90, zv_0_9, zv_1_9, zv_2_9, zv_3_9, zv_4_9, zv_5_9, zv_6_9, zv_7_9, zv_8_9, zv_0_330, zv_0_4544, zv_1_4544, zv_2_4544, zv_3_4544, zv_4_4544, zv_5_4544, zv_6_4544, zv_7_4544, zv_8_4544, zv_9_4544, zv_10_4544, zv_11_4544, zv_12_4544, zv_13_4544, zv_14_4544, zv_15_4544, zv_16_4544, zv_17_4544, zv_18_4544, zv_19_4544, zv_20_4544, zv_21_4544, zv_22_4544, zv_23_4544, zv_24_4544, zv_25_4544, zv_26_4544, zv_27_4544, zv_28_4544, zv_29_4544, zv_0_11, zv_1_11, zv_0_160, true_and, and_true, Nat.reduceAdd, i1, i2]
    rw [hv]
    have hh : zh [] M1 (zm_wi M1 1 (10 + p) (if dy = 0 then 0 else zWd S + dy)) := zh_wi zh_refl (Or.inl (by omega))
    exact q2 _ p hp rfl h2 (zw_m_lv hs a1 (by omega) _) (zk_m_h (zk_sz hs hH) a2 hh) (zmf_trans (zmf_k a3 a4) (zmf_h hh))
  have d6 : M1.1 1 6 = zWd S := a1.1
  simp only [bX12_away_20, zw_0, zw_1, zs_aloadn0, zs_aloadNn0, zi_12_356, zg_12_7, zs_bipush, zs_iloadn1, zs_iadd, zs_iloadn2, zs_ifne, zs_iconst, zs_goto, zh_0, zh_1, zh_2, zh_3, zh_4, zt_i, zt_l, zt_r, zt_n, zb_0, za_1, za_2, za_3, za_4, za_5, za_6, za_7, za_8, za_9, za_10, za_11, za_12, za_13, za_14, true_and, and_true, Nat.reduceAdd, zx_10]
  refine ⟨fun h => ?_, fun h => fin _ (by rw [if_pos h])⟩
  refine h40 _ _ _ ?_
  simp only [bX12_away_40, zw_0, zw_1, zs_aloadn0, zs_aloadNn0, zg_12_7, zs_bipush, zs_iaload, zs_iloadn2, zs_iadd, zb_0, za_1, za_2, za_3, za_4, za_5, za_6, za_7, za_8, za_9, za_10, za_11, za_12, za_13, za_14, zu_0, zu_1, zu_2, zu_3, zu_4, zu_5, zu_6, zu_7, zu_8, zu_9, zu_10, zu_11, zu_12, zu_13, zu_14, zu_15, zu_16, zu_17, zu_18, zu_19, zu_20, zu_21, zu_22, zu_23, zu_24, zu_25, zu_26, zu_27, zu_28, zu_29, zu_30, zu_90, zv_0_9, zv_1_9, zv_2_9, zv_3_9, zv_4_9, zv_5_9, zv_6_9, zv_7_9, zv_8_9, zv_0_330, zv_0_4544, zv_1_4544, zv_2_4544, zv_3_4544, zv_4_4544, zv_5_4544, zv_6_4544, zv_7_4544, zv_8_4544, zv_9_4544, zv_10_4544, zv_11_4544, zv_12_4544, zv_13_4544, zv_14_4544, zv_15_4544, zv_16_4544, zv_17_4544, zv_18_4544, zv_19_4544, zv_20_4544, zv_21_4544, zv_22_4544, zv_23_4544, zv_24_4544, zv_25_4544, zv_26_4544, zv_27_4544, zv_28_4544, zv_29_4544, zv_0_11, zv_1_11, zv_0_160, true_and, and_true, Nat.reduceAdd, d6]
  exact fin _ (by rw [if_neg h])
