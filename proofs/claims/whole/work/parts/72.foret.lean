/-! ===== foretold, pardoned ===== -/
def ze_it (wr : Bool) (n : Nat) (b pr : Nat → Int32) (T : Nat → Option zD) : Nat → zW → zW
  | 0, S => S
  | f + 1, S => if zWd S = 9999 then S else ze_it wr n b pr T f (ze_ps wr n b pr T S)
theorem ze_it_2 (wr : Bool) (n : Nat) (b pr : Nat → Int32) (T : Nat → Option zD) {k : Nat} : ∀ (f : Nat) (S : zW), zWa S 4 k = 2 → ∀ x, zWa (ze_it wr n b pr T f S) x k = zWa S x k := by
  intro f
  induction f with
  | zero => intro S _ x; rfl
  | succ f ih =>
    intro S h x
    simp only [ze_it]
    split
    · rfl
    · rw [ih _ (by rw [ze_ps_2 wr n b pr T S h]; exact h) x, ze_ps_2 wr n b pr T S h]
theorem zq_it (wr wr' : Bool) (n : Nat) (b pr : Nat → Int32) (T : Nat → Option zD) : ∀ (f : Nat) (S S' : zW), zq_e S S' → zq_e (ze_it wr n b pr T f S) (ze_it wr' n b pr T f S') := by
  intro f
  induction f with
  | zero => intro S S' h; exact h
  | succ f ih =>
    intro S S' h
    simp only [ze_it]
    rw [← h.1]
    by_cases c : zWd S = 9999
    · rw [if_pos c, if_pos c]; exact h
    · rw [if_neg c, if_neg c]; exact ih _ _ (zq_ps h wr wr' n b pr T).1
/-- the day in which it is pardoned first -/
def ze_par (wr : Bool) (n : Nat) (b pr : Nat → Int32) (T : Nat → Option zD) (k : Nat) : Nat → Nat → zW → Int32
  | 0, _, _ => -1
  | f + 1, i, S => if zWd S = 9999 then -1 else if (ze_p1 wr n b pr T S).2.2.testBit k then nI i else ze_par wr n b pr T k f (i + 1) (ze_ps wr n b pr T S)
theorem ze_ps_n (wr : Bool) (n : Nat) (b pr : Nat → Int32) (T : Nat → Option zD) {S : zW} (hw : zt_wf n b) (h : zw_i n b S) : zWn (ze_ps wr n b pr T S) = zWn S := (ze_p2_i hw h).2
theorem ze_par_no (wr : Bool) (n : Nat) (b pr : Nat → Int32) (T : Nat → Option zD) {k : Nat} (hw : zt_wf n b) : ∀ (f i : Nat) (S : zW), zw_i n b S → k < zWn S → ¬ zWa S 4 k = 0 → ze_par wr n b pr T k f i S = -1 := by
  intro f
  induction f with
  | zero => intro i S _ _ _; rfl
  | succ f ih =>
    intro i S hi hk h
    simp only [ze_par]
    by_cases c : zWd S = 9999
    · rw [if_pos c]
    · rw [if_neg c]
      obtain ⟨a1, a2⟩ := (ze_ps_k wr n b pr T S hk).2 h
      rw [a1, if_neg (by decide)]
      obtain ⟨dd, d1, d2, d3⟩ := zw_d9 hi
      have : ¬ dd = 9999 := fun z => c (d3.mpr z)
      exact ih _ _ (ze_ps_i hw hi d2 (by omega)).1 (by rw [ze_ps_n wr n b pr T hw hi]; exact hk) a2
theorem zq_par (wr wr' : Bool) (n : Nat) (b pr : Nat → Int32) (T : Nat → Option zD) (k : Nat) : ∀ (f i : Nat) (S S' : zW), zq_e S S' → ze_par wr n b pr T k f i S = ze_par wr' n b pr T k f i S' := by
  intro f
  induction f with
  | zero => intro i S S' h; rfl
  | succ f ih =>
    intro i S S' h
    obtain ⟨h1, h2⟩ := zq_ps h wr wr' n b pr T
    simp only [ze_par]
    rw [← h.1, ← h2, ih _ _ _ h1]
def zq_fo (S : zW) (k : Nat) (w : Int32) : Int32 := if w = 0 then zWa S 2 k else if w = 1 then zWa S 3 k else if w = 2 then zWa S 4 k else -1
/-! the class: in a dream -/
theorem zCs_d {n tn s : Nat} {b pr : Nat → Int32} {T : Nat → Option zD} {S : zW} {H : Nat → zW} {M M' : zm_M} (hi : zw_i n b S) (hA : ∀ i, i < s → zw_i n b (H i)) (hC : zCs n tn b pr T S s H M) (hN : zN M') (hf : zf (zF 738) M M') : zCs n tn b pr T S s H M' := by
  have no : ∀ q, q < 738 → q ∉ zF 738 := fun q hq => zF_no (by omega) (by omega)
  obtain ⟨c1, c2, c3, c4, c5, c, c6⟩ := hC
  have e16 := (hf 16 (no 16 (by omega))).1
  have el : zr_law M' = zr_law M := by unfold zr_law; rw [e16]
  refine ⟨zc_s9_f c1 hf (no _ (by omega)) (no _ (by omega)) (no _ (by omega)) (no _ (by omega)), hN, by rw [e16]; exact c3, ?_, zw_cong hi.1 c5 (fun q hq => (hf q (no q (by have := zw_L_mem hq; omega))).1), c, zk_c_g (fun i hi => (hA i hi).1) c6 (fun q hq => (hf q (no q (by omega))).1)⟩
  rw [el]
  refine zc_T_f c4 hf (fun q hq => ?_)
  rcases List.mem_append.mp hq with z | z
  · have := zw_L_mem z; omega
  · simp at z; omega
theorem zw_cp_f {M : zm_M} {v w : Nat} : zf (zw_L v) M (zw_cp M v w) := fun q hq => ⟨zw_cp_o (by
  rcases Nat.lt_or_ge q v with z | z
  · exact Or.inl z
  · rcases Nat.lt_or_ge (v + 9) q with z2 | z2
    · exact Or.inr z2
    · exfalso
      apply hq
      simp only [zw_L, List.mem_cons, List.not_mem_nil, or_false]
      omega), rfl, rfl⟩
theorem c11_foretold {E : zm_E} (hE : zm_ok E.2.2.1 E.2.2.2.2) (d : Nat) {n tn s : Nat} (v a w : Int32) {b pr : Nat → Int32} {T : Nat → Option zD} {S : zW} {H : Nat → zW} {M : zm_M} (htn : tn ≤ 4) (hA : zAl n b T S s H) (hC : zCs n tn b pr T S s H M) {Q : Option Value → zm_M → Prop} (q1 : (zi_in v 1 60 = 0 ∨ zo_is (zWn S) a = false) → Q (some (.int (-1))) M) (q2 : ∀ f k M', 1 ≤ f → f ≤ 60 → k < zWn S → v = nI f → a = nI k → zN M' → zf (zF 738) M M' → Q (some (.int (zq_fo (ze_it true n b pr T f S) k w))) M') : zm_R E (d + 6) mX11_foretold [.ref 15, .int v, .int a, .int w] M Q := by
  refine zX11_foretold hE rfl (fun G h0 h24 h26 h43 h100 h128 h138 h148 h158 => ?_)
  show G 0 [some (.ref 15), some (.int v), some (.int a), some (.int w), none] [] M
  have bad : (zi_in v 1 60 = 0 ∨ zo_is (zWn S) a = false) → G 24 [some (.ref 15), some (.int v), some (.int a), some (.int w), none] [] M := by
    intro h
    refine h24 _ _ _ ?_
    simp only [bX11_foretold_24, zw_0, zw_1, zs_iconst, zs_ireturn, zn_int, zn_b0, zn_b1, zb_15, zb_16, zb_17, za_18, za_19, za_20, za_21, za_22, zb_23, za_24, za_25, za_26, za_27, za_28, za_29, za_30, za_31, za_32, zb_35, za_36, za_37, za_38, za_39, za_40, zb_377, zb_378, za_379, za_380, za_381, za_382, za_383, zb_384, za_385, za_386, za_387, za_388, za_389, za_390, za_391, za_392, za_393, zb_396, za_397, za_398, za_399, za_400, za_401, zb_738, za_739, za_740, za_741, za_742, za_743, za_744, za_745, za_746, za_747, zb_748, za_749, za_750, zb_751, zb_752, za_753, za_754, za_755, za_756, zb_757, za_758, za_759, za_760, zb_761, za_763, za_764, za_765, true_and, and_true, Nat.reduceAdd]
    exact q1 h
  have hm10 := hA.2.2.1.1.1
  refine h0 _ _ _ ?_
  simp only [bX11_foretold_0, zw_0, zw_1, zs_iloadn1, zs_iconst, zs_bipush, zi_11_86, zs_ifeq, zs_aloadn0, zs_aloadNn0, zg_11_10, zg_11_136, zs_iloadn2, zi_11_151, zs_ifne, zh_0, zh_1, zh_2, zh_3, zh_4, zt_i, zt_l, zt_r, zt_n, zb_15, zb_16, zb_17, za_18, za_19, za_20, za_21, za_22, zb_23, za_24, za_25, za_26, za_27, za_28, za_29, za_30, za_31, za_32, zb_35, za_36, za_37, za_38, za_39, za_40, zb_377, zb_378, za_379, za_380, za_381, za_382, za_383, zb_384, za_385, za_386, za_387, za_388, za_389, za_390, za_391, za_392, za_393, zb_396, za_397, za_398, za_399, za_400, za_401, zb_738, za_739, za_740, za_741, za_742, za_743, za_744, za_745, za_746, za_747, zb_748, za_749, za_750, zb_751, zb_752, za_753, za_754, za_755, za_756, zb_757, za_758, za_759, za_760, zb_761, za_763, za_764, za_765, true_and, and_true, Nat.reduceAdd]
  refine zm_R_eq (c11_within hE (d + 4) v 1 60 M) ?_
  simp only [bX11_foretold_0, zw_0, zw_1, zs_iloadn1, zs_iconst, zs_bipush, zi_11_86, zs_ifeq, zs_aloadn0, zs_aloadNn0, zg_11_10, zg_11_136, zs_iloadn2, zi_11_151, zs_ifne, zh_0, zh_1, zh_2, zh_3, zh_4, zt_i, zt_l, zt_r, zt_n, zb_15, zb_16, zb_17, za_18, za_19, za_20, za_21, za_22, zb_23, za_24, za_25, za_26, za_27, za_28, za_29, za_30, za_31, za_32, zb_35, za_36, za_37, za_38, za_39, za_40, zb_377, zb_378, za_379, za_380, za_381, za_382, za_383, zb_384, za_385, za_386, za_387, za_388, za_389, za_390, za_391, za_392, za_393, zb_396, za_397, za_398, za_399, za_400, za_401, zb_738, za_739, za_740, za_741, za_742, za_743, za_744, za_745, za_746, za_747, zb_748, za_749, za_750, zb_751, zb_752, za_753, za_754, za_755, za_756, zb_757, za_758, za_759, za_760, zb_761, za_763, za_764, za_765, true_and, and_true, Nat.reduceAdd]
  refine ⟨fun h => bad (Or.inl h), fun hv => ?_⟩
  refine zm_R_eq (c10_has hE (d + 4) (w := 23) (n := zWn S) (Or.inl rfl) (by omega) a hC.2.2.2.2.1.2.2.1) ?_
  simp only [bX11_foretold_0, zw_0, zw_1, zs_iloadn1, zs_iconst, zs_bipush, zi_11_86, zs_ifeq, zs_aloadn0, zs_aloadNn0, zg_11_10, zg_11_136, zs_iloadn2, zi_11_151, zs_ifne, zh_0, zh_1, zh_2, zh_3, zh_4, zt_i, zt_l, zt_r, zt_n, zb_15, zb_16, zb_17, za_18, za_19, za_20, za_21, za_22, zb_23, za_24, za_25, za_26, za_27, za_28, za_29, za_30, za_31, za_32, zb_35, za_36, za_37, za_38, za_39, za_40, zb_377, zb_378, za_379, za_380, za_381, za_382, za_383, zb_384, za_385, za_386, za_387, za_388, za_389, za_390, za_391, za_392, za_393, zb_396, za_397, za_398, za_399, za_400, za_401, zb_738, za_739, za_740, za_741, za_742, za_743, za_744, za_745, za_746, za_747, zb_748, za_749, za_750, zb_751, zb_752, za_753, za_754, za_755, za_756, zb_757, za_758, za_759, za_760, zb_761, za_763, za_764, za_765, true_and, and_true, Nat.reduceAdd, zi_b1, zi_b0]
  refine ⟨fun ha => ?_, fun h => bad (Or.inr h)⟩
  have ha : zo_is (zWn S) a = true := by simpa using ha
  obtain ⟨f, hf1, hf2, rfl⟩ : ∃ f, 1 ≤ f ∧ f ≤ 60 ∧ v = nI f := zi_1of (by decide) hv
  obtain ⟨k, hk, rfl⟩ := zo_of ha (by omega)
  have q2 := fun M' => q2 f k M' hf1 hf2 hk rfl rfl
  have i1 : vp_in (nI k) 10 := vp_in_nI (by omega) (by decide)
  have i2 : (nI k).toNatClampNeg = k := nI_clamp (by omega)
  generalize hSF : ze_it true n b pr T f S = SF at *
  have fin : ∀ (S1 : zW) (M1 : zm_M) (l4 : Option Value), k < zWn S1 → (∀ x, zWa S1 x k = zWa SF x k) → zw_c M1 738 S1 → zN M1 → zf (zF 738) M M1 → G 100 [some (.ref 15), some (.int (nI f)), some (.int (nI k)), some (.int w), l4] [] M1 := by
    intro S1 M1 l4 hk1 e hS1 hN1 f1
    have a2 : M1.1 741 k = zWa SF 2 k := (hS1.2.2.2.2.1 2 k (by decide) hk1).trans (e 2)
    have a3 : M1.1 742 k = zWa SF 3 k := (hS1.2.2.2.2.1 3 k (by decide) hk1).trans (e 3)
    have a4 : M1.1 743 k = zWa SF 4 k := (hS1.2.2.2.2.1 4 k (by decide) hk1).trans (e 4)
    have q2 := q2 M1 hN1 f1
    unfold zq_fo at q2
    refine h100 _ _ _ ?_
    simp only [bX11_foretold_100, zw_0, zw_1, zs_iloadn3, zs_tsw, zm_sw, zb_15, zb_16, zb_17, za_18, za_19, za_20, za_21, za_22, zb_23, za_24, za_25, za_26, za_27, za_28, za_29, za_30, za_31, za_32, zb_35, za_36, za_37, za_38, za_39, za_40, zb_377, zb_378, za_379, za_380, za_381, za_382, za_383, zb_384, za_385, za_386, za_387, za_388, za_389, za_390, za_391, za_392, za_393, zb_396, za_397, za_398, za_399, za_400, za_401, zb_738, za_739, za_740, za_741, za_742, za_743, za_744, za_745, za_746, za_747, zb_748, za_749, za_750, zb_751, zb_752, za_753, za_754, za_755, za_756, zb_757, za_758, za_759, za_760, zb_761, za_763, za_764, za_765, true_and, and_true, Nat.reduceAdd]
    refine ⟨fun h => ?_, fun n0 => ⟨fun h => ?_, fun n1 => ⟨fun h => ?_, fun n2 => ?_⟩⟩⟩
    · rw [if_pos h] at q2
      refine h128 _ _ _ ?_
      simp only [bX11_foretold_128, zw_0, zw_1, zs_aloadn0, zs_aloadNn0, zg_11_22, zg_11_158, zs_iloadn2, zs_iaload, zs_ireturn, zn_int, zn_b0, zn_b1, zb_15, zb_16, zb_17, za_18, za_19, za_20, za_21, za_22, zb_23, za_24, za_25, za_26, za_27, za_28, za_29, za_30, za_31, za_32, zb_35, za_36, za_37, za_38, za_39, za_40, zb_377, zb_378, za_379, za_380, za_381, za_382, za_383, zb_384, za_385, za_386, za_387, za_388, za_389, za_390, za_391, za_392, za_393, zb_396, za_397, za_398, za_399, za_400, za_401, zb_738, za_739, za_740, za_741, za_742, za_743, za_744, za_745, za_746, za_747, zb_748, za_749, za_750, zb_751, zb_752, za_753, za_754, za_755, za_756, zb_757, za_758, za_759, za_760, zb_761, za_763, za_764, za_765, zu_0, zu_1, zu_2, zu_3, zu_4, zu_5, zu_6, zu_7, zu_8, zu_9, zu_10, zu_11, zu_12, zu_13, zu_14, zu_15, zu_16, zu_17, zu_18, zu_19, zu_20, zu_21, zu_22, zu_23, zu_24, zu_25, zu_26, zu_27, zu_28, zu_29, zu_30, zu_90, zv_0_9, zv_1_9, zv_2_9, zv_3_9, zv_4_9, zv_5_9, zv_6_9, zv_7_9, zv_8_9, zv_0_330, zv_0_4544, zv_1_4544, zv_2_4544, zv_3_4544, zv_4_4544, zv_5_4544, zv_6_4544, zv_7_4544, zv_8_4544, zv_9_4544, zv_10_4544, zv_11_4544, zv_12_4544, zv_13_4544, zv_14_4544, zv_15_4544, zv_16_4544, zv_17_4544, zv_18_4544, zv_19_4544, zv_20_4544, zv_21_4544, zv_22_4544, zv_23_4544, zv_24_4544, zv_25_4544, zv_26_4544, zv_27_4544, zv_28_4544, zv_29_4544, zv_0_11, zv_1_11, zv_0_160, true_and, and_true, Nat.reduceAdd, i1, i2, a2]
      exact q2
    · rw [if_neg n0, if_pos h] at q2
      refine h138 _ _ _ ?_
      simp only [bX11_foretold_138, zw_0, zw_1, zs_aloadn0, zs_aloadNn0, zg_11_22, zg_11_269, zs_iloadn2, zs_iaload, zs_ireturn, zn_int, zn_b0, zn_b1, zb_15, zb_16, zb_17, za_18, za_19, za_20, za_21, za_22, zb_23, za_24, za_25, za_26, za_27, za_28, za_29, za_30, za_31, za_32, zb_35, za_36, za_37, za_38, za_39, za_40, zb_377, zb_378, za_379, za_380, za_381, za_382, za_383, zb_384, za_385, za_386, za_387, za_388, za_389, za_390, za_391, za_392, za_393, zb_396, za_397, za_398, za_399, za_400, za_401, zb_738, za_739, za_740, za_741, za_742, za_743, za_744, za_745, za_746, za_747, zb_748, za_749, za_750, zb_751, zb_752, za_753, za_754, za_755, za_756, zb_757, za_758, za_759, za_760, zb_761, za_763, za_764, za_765, zu_0, zu_1, zu_2, zu_3, zu_4, zu_5, zu_6, zu_7, zu_8, zu_9, zu_10, zu_11, zu_12, zu_13, zu_14, zu_15, zu_16, zu_17, zu_18, zu_19, zu_20, zu_21, zu_22, zu_23, zu_24, zu_25, zu_26, zu_27, zu_28, zu_29, zu_30, zu_90, zv_0_9, zv_1_9, zv_2_9, zv_3_9, zv_4_9, zv_5_9, zv_6_9, zv_7_9, zv_8_9, zv_0_330, zv_0_4544, zv_1_4544, zv_2_4544, zv_3_4544, zv_4_4544, zv_5_4544, zv_6_4544, zv_7_4544, zv_8_4544, zv_9_4544, zv_10_4544, zv_11_4544, zv_12_4544, zv_13_4544, zv_14_4544, zv_15_4544, zv_16_4544, zv_17_4544, zv_18_4544, zv_19_4544, zv_20_4544, zv_21_4544, zv_22_4544, zv_23_4544, zv_24_4544, zv_25_4544, zv_26_4544, zv_27_4544, zv_28_4544, zv_29_4544, zv_0_11, zv_1_11, zv_0_160, true_and, and_true, Nat.reduceAdd, i1, i2, a3]
      exact q2
    · rw [if_neg n0, if_neg n1, if_pos h] at q2
      refine h148 _ _ _ ?_
      simp only [bX11_foretold_148, zw_0, zw_1, zs_aloadn0, zs_aloadNn0, zg_11_22, zg_11_152, zs_iloadn2, zs_iaload, zs_ireturn, zn_int, zn_b0, zn_b1, zb_15, zb_16, zb_17, za_18, za_19, za_20, za_21, za_22, zb_23, za_24, za_25, za_26, za_27, za_28, za_29, za_30, za_31, za_32, zb_35, za_36, za_37, za_38, za_39, za_40, zb_377, zb_378, za_379, za_380, za_381, za_382, za_383, zb_384, za_385, za_386, za_387, za_388, za_389, za_390, za_391, za_392, za_393, zb_396, za_397, za_398, za_399, za_400, za_401, zb_738, za_739, za_740, za_741, za_742, za_743, za_744, za_745, za_746, za_747, zb_748, za_749, za_750, zb_751, zb_752, za_753, za_754, za_755, za_756, zb_757, za_758, za_759, za_760, zb_761, za_763, za_764, za_765, zu_0, zu_1, zu_2, zu_3, zu_4, zu_5, zu_6, zu_7, zu_8, zu_9, zu_10, zu_11, zu_12, zu_13, zu_14, zu_15, zu_16, zu_17, zu_18, zu_19, zu_20, zu_21, zu_22, zu_23, zu_24, zu_25, zu_26, zu_27, zu_28, zu_29, zu_30, zu_90, zv_0_9, zv_1_9, zv_2_9, zv_3_9, zv_4_9, zv_5_9, zv_6_9, zv_7_9, zv_8_9, zv_0_330, zv_0_4544, zv_1_4544, zv_2_4544, zv_3_4544, zv_4_4544, zv_5_4544, zv_6_4544, zv_7_4544, zv_8_4544, zv_9_4544, zv_10_4544, zv_11_4544, zv_12_4544, zv_13_4544, zv_14_4544, zv_15_4544, zv_16_4544, zv_17_4544, zv_18_4544, zv_19_4544, zv_20_4544, zv_21_4544, zv_22_4544, zv_23_4544, zv_24_4544, zv_25_4544, zv_26_4544, zv_27_4544, zv_28_4544, zv_29_4544, zv_0_11, zv_1_11, zv_0_160, true_and, and_true, Nat.reduceAdd, i1, i2, a4]
      exact q2
    · rw [if_neg n0, if_neg n1, if_neg n2] at q2
      refine h158 _ _ _ ?_
      simp only [bX11_foretold_158, zw_0, zw_1, zs_iconst, zs_ireturn, zn_int, zn_b0, zn_b1, zb_15, zb_16, zb_17, za_18, za_19, za_20, za_21, za_22, zb_23, za_24, za_25, za_26, za_27, za_28, za_29, za_30, za_31, za_32, zb_35, za_36, za_37, za_38, za_39, za_40, zb_377, zb_378, za_379, za_380, za_381, za_382, za_383, zb_384, za_385, za_386, za_387, za_388, za_389, za_390, za_391, za_392, za_393, zb_396, za_397, za_398, za_399, za_400, za_401, zb_738, za_739, za_740, za_741, za_742, za_743, za_744, za_745, za_746, za_747, zb_748, za_749, za_750, zb_751, zb_752, za_753, za_754, za_755, za_756, zb_757, za_758, za_759, za_760, zb_761, za_763, za_764, za_765, true_and, and_true, Nat.reduceAdd]
      exact q2
  have lF : ∀ q, q ∈ zF 738 → q < 41 ∨ 738 ≤ q := fun q hq => by
    rcases List.mem_append.mp hq with z | z
    · have := zw_L_mem z; omega
    · simp at z; omega
  have no : ∀ q, q < 738 → q ∉ zF 738 := fun q hq => zF_no (by omega) (by omega)
  have loop : ∀ (g i : Nat) (S1 : zW) (M1 : zm_M), i + g = f → zw_i n b S1 → zWn S1 = zWn S → zw_c M1 738 S1 → zN M1 → zf (zF 738) M M1 → (∀ x, zWa (ze_it true n b pr T g S1) x k = zWa SF x k) → G 43 [some (.ref 15), some (.int (nI f)), some (.int (nI k)), some (.int w), some (.int (nI i))] [] M1 := by
    intro g
    induction g with
    | zero =>
      intro i S1 M1 hi hi1 hn1 hS1 hN1 f1 e
      refine h43 _ _ _ ?_
      simp only [bX11_foretold_43, zw_0, zw_1, zs_iload4, zs_iloadn1, zs_icge, zs_aloadn0, zs_aloadNn0, zg_11_22, zg_11_167, zs_sipush, zg_11_152, zs_iloadn2, zs_iaload, zs_iconst, zs_iceq, zg_11_44, zg_11_10, zi_11_174, zi_11_178, zs_popi, zs_popr, zs_popn, zs_iinc4, zs_goto, zc_none, zc_int, zc_ref, zc_null, zc_long, zh_0, zh_1, zh_2, zh_3, zh_4, zt_i, zt_l, zt_r, zt_n, zb_15, zb_16, zb_17, za_18, za_19, za_20, za_21, za_22, zb_23, za_24, za_25, za_26, za_27, za_28, za_29, za_30, za_31, za_32, zb_35, za_36, za_37, za_38, za_39, za_40, zb_377, zb_378, za_379, za_380, za_381, za_382, za_383, zb_384, za_385, za_386, za_387, za_388, za_389, za_390, za_391, za_392, za_393, zb_396, za_397, za_398, za_399, za_400, za_401, zb_738, za_739, za_740, za_741, za_742, za_743, za_744, za_745, za_746, za_747, zb_748, za_749, za_750, zb_751, zb_752, za_753, za_754, za_755, za_756, zb_757, za_758, za_759, za_760, zb_761, za_763, za_764, za_765, zu_0, zu_1, zu_2, zu_3, zu_4, zu_5, zu_6, zu_7, zu_8, zu_9, zu_10, zu_11, zu_12, zu_13, zu_14, zu_15, zu_16, zu_17, zu_18, zu_19, zu_20, zu_21, zu_22, zu_23, zu_24, zu_25, zu_26, zu_27, zu_28, zu_29, zu_30, zu_90, zv_0_9, zv_1_9, zv_2_9, zv_3_9, zv_4_9, zv_5_9, zv_6_9, zv_7_9, zv_8_9, zv_0_330, zv_0_4544, zv_1_4544, zv_2_4544, zv_3_4544, zv_4_4544, zv_5_4544, zv_6_4544, zv_7_4544, zv_8_4544, zv_9_4544, zv_10_4544, zv_11_4544, zv_12_4544, zv_13_4544, zv_14_4544, zv_15_4544, zv_16_4544, zv_17_4544, zv_18_4544, zv_19_4544, zv_20_4544, zv_21_4544, zv_22_4544, zv_23_4544, zv_24_4544, zv_25_4544, zv_26_4544, zv_27_4544, zv_28_4544, zv_29_4544, zv_0_11, zv_1_11, zv_0_160, true_and, and_true, Nat.reduceAdd]
      exact ⟨fun _ => fin S1 M1 _ (by omega) e hS1 hN1 f1, fun h => absurd (nI_le (by omega) (by omega)) h⟩
    | succ g ih =>
      intro i S1 M1 hi hi1 hn1 hS1 hN1 f1 e
      obtain ⟨dd, d1, d2, d3⟩ := zw_d9 hi1
      have m0 : M1.1 738 0 = nI dd := by rw [← d2]; exact hS1.1
      have c9 : ((9999 : Int32) ≤ nI dd) = (9999 ≤ dd) := propext (nI_leI (a := 9999) (by decide) (by omega))
      have a4 : M1.1 743 k = zWa S1 4 k := hS1.2.2.2.2.1 4 k (by decide) (by omega)
      simp only [ze_it] at e
      refine h43 _ _ _ ?_
      simp only [bX11_foretold_43, zw_0, zw_1, zs_iload4, zs_iloadn1, zs_icge, zs_aloadn0, zs_aloadNn0, zg_11_22, zg_11_167, zs_sipush, zg_11_152, zs_iloadn2, zs_iaload, zs_iconst, zs_iceq, zg_11_44, zg_11_10, zi_11_174, zi_11_178, zs_popi, zs_popr, zs_popn, zs_iinc4, zs_goto, zc_none, zc_int, zc_ref, zc_null, zc_long, zh_0, zh_1, zh_2, zh_3, zh_4, zt_i, zt_l, zt_r, zt_n, zb_15, zb_16, zb_17, za_18, za_19, za_20, za_21, za_22, zb_23, za_24, za_25, za_26, za_27, za_28, za_29, za_30, za_31, za_32, zb_35, za_36, za_37, za_38, za_39, za_40, zb_377, zb_378, za_379, za_380, za_381, za_382, za_383, zb_384, za_385, za_386, za_387, za_388, za_389, za_390, za_391, za_392, za_393, zb_396, za_397, za_398, za_399, za_400, za_401, zb_738, za_739, za_740, za_741, za_742, za_743, za_744, za_745, za_746, za_747, zb_748, za_749, za_750, zb_751, zb_752, za_753, za_754, za_755, za_756, zb_757, za_758, za_759, za_760, zb_761, za_763, za_764, za_765, zu_0, zu_1, zu_2, zu_3, zu_4, zu_5, zu_6, zu_7, zu_8, zu_9, zu_10, zu_11, zu_12, zu_13, zu_14, zu_15, zu_16, zu_17, zu_18, zu_19, zu_20, zu_21, zu_22, zu_23, zu_24, zu_25, zu_26, zu_27, zu_28, zu_29, zu_30, zu_90, zv_0_9, zv_1_9, zv_2_9, zv_3_9, zv_4_9, zv_5_9, zv_6_9, zv_7_9, zv_8_9, zv_0_330, zv_0_4544, zv_1_4544, zv_2_4544, zv_3_4544, zv_4_4544, zv_5_4544, zv_6_4544, zv_7_4544, zv_8_4544, zv_9_4544, zv_10_4544, zv_11_4544, zv_12_4544, zv_13_4544, zv_14_4544, zv_15_4544, zv_16_4544, zv_17_4544, zv_18_4544, zv_19_4544, zv_20_4544, zv_21_4544, zv_22_4544, zv_23_4544, zv_24_4544, zv_25_4544, zv_26_4544, zv_27_4544, zv_28_4544, zv_29_4544, zv_0_11, zv_1_11, zv_0_160, true_and, and_true, Nat.reduceAdd, m0, c9, i1, i2, a4]
      refine ⟨fun h => absurd h (nI_ge (by omega) (by omega)), fun _ => ⟨fun h9 => ?_, fun h9 => ⟨fun h2 => ?_, fun h2 => ?_⟩⟩⟩
      · rw [if_pos (d3.mpr (by omega))] at e
        exact fin S1 M1 _ (by omega) e hS1 hN1 f1
      · have hne : ¬ zWd S1 = 9999 := fun z => h9 (by have := d3.mp z; omega)
        rw [if_neg hne] at e
        refine fin S1 M1 _ (by omega) (fun x => ?_) hS1 hN1 f1
        rw [← e x, ze_it_2 true n b pr T g _ (by rw [ze_ps_2 true n b pr T S1 h2]; exact h2) x, ze_ps_2 true n b pr T S1 h2]
      · have hne : ¬ zWd S1 = 9999 := fun z => h9 (by have := d3.mp z; omega)
        rw [if_neg hne] at e
        have e16 := (f1 16 (no 16 (by omega))).1
        refine zm_R_eq (c6_law hE (d + 3) htn (by rw [e16]; exact hC.2.2.1)) ?_
        rw [show zr_law M1 = zr_law M by unfold zr_law; rw [e16]]
        simp only [bX11_foretold_43, zw_0, zw_1, zs_iload4, zs_iloadn1, zs_icge, zs_aloadn0, zs_aloadNn0, zg_11_22, zg_11_167, zs_sipush, zg_11_152, zs_iloadn2, zs_iaload, zs_iconst, zs_iceq, zg_11_44, zg_11_10, zi_11_174, zi_11_178, zs_popi, zs_popr, zs_popn, zs_iinc4, zs_goto, zc_none, zc_int, zc_ref, zc_null, zc_long, zh_0, zh_1, zh_2, zh_3, zh_4, zt_i, zt_l, zt_r, zt_n, zb_15, zb_16, zb_17, za_18, za_19, za_20, za_21, za_22, zb_23, za_24, za_25, za_26, za_27, za_28, za_29, za_30, za_31, za_32, zb_35, za_36, za_37, za_38, za_39, za_40, zb_377, zb_378, za_379, za_380, za_381, za_382, za_383, zb_384, za_385, za_386, za_387, za_388, za_389, za_390, za_391, za_392, za_393, zb_396, za_397, za_398, za_399, za_400, za_401, zb_738, za_739, za_740, za_741, za_742, za_743, za_744, za_745, za_746, za_747, zb_748, za_749, za_750, zb_751, zb_752, za_753, za_754, za_755, za_756, zb_757, za_758, za_759, za_760, zb_761, za_763, za_764, za_765, zu_0, zu_1, zu_2, zu_3, zu_4, zu_5, zu_6, zu_7, zu_8, zu_9, zu_10, zu_11, zu_12, zu_13, zu_14, zu_15, zu_16, zu_17, zu_18, zu_19, zu_20, zu_21, zu_22, zu_23, zu_24, zu_25, zu_26, zu_27, zu_28, zu_29, zu_30, zu_90, zv_0_9, zv_1_9, zv_2_9, zv_3_9, zv_4_9, zv_5_9, zv_6_9, zv_7_9, zv_8_9, zv_0_330, zv_0_4544, zv_1_4544, zv_2_4544, zv_3_4544, zv_4_4544, zv_5_4544, zv_6_4544, zv_7_4544, zv_8_4544, zv_9_4544, zv_10_4544, zv_11_4544, zv_12_4544, zv_13_4544, zv_14_4544, zv_15_4544, zv_16_4544, zv_17_4544, zv_18_4544, zv_19_4544, zv_20_4544, zv_21_4544, zv_22_4544, zv_23_4544, zv_24_4544, zv_25_4544, zv_26_4544, zv_27_4544, zv_28_4544, zv_29_4544, zv_0_11, zv_1_11, zv_0_160, true_and, and_true, Nat.reduceAdd, zt_val]
        refine c0_pass hE d (Or.inr rfl) (zc_s9_f hC.1 f1 (no _ (by omega)) (no _ (by omega)) (no _ (by omega)) (no _ (by omega))) hN1 (zc_T_f hC.2.2.2.1 f1 lF) hA.2.1 hi1 hS1 (fun M3 b1 b2 b3 => ?_)
        simp only [bX11_foretold_43, zw_0, zw_1, zs_iload4, zs_iloadn1, zs_icge, zs_aloadn0, zs_aloadNn0, zg_11_22, zg_11_167, zs_sipush, zg_11_152, zs_iloadn2, zs_iaload, zs_iconst, zs_iceq, zg_11_44, zg_11_10, zi_11_174, zi_11_178, zs_popi, zs_popr, zs_popn, zs_iinc4, zs_goto, zc_none, zc_int, zc_ref, zc_null, zc_long, zh_0, zh_1, zh_2, zh_3, zh_4, zt_i, zt_l, zt_r, zt_n, zb_15, zb_16, zb_17, za_18, za_19, za_20, za_21, za_22, zb_23, za_24, za_25, za_26, za_27, za_28, za_29, za_30, za_31, za_32, zb_35, za_36, za_37, za_38, za_39, za_40, zb_377, zb_378, za_379, za_380, za_381, za_382, za_383, zb_384, za_385, za_386, za_387, za_388, za_389, za_390, za_391, za_392, za_393, zb_396, za_397, za_398, za_399, za_400, za_401, zb_738, za_739, za_740, za_741, za_742, za_743, za_744, za_745, za_746, za_747, zb_748, za_749, za_750, zb_751, zb_752, za_753, za_754, za_755, za_756, zb_757, za_758, za_759, za_760, zb_761, za_763, za_764, za_765, zu_0, zu_1, zu_2, zu_3, zu_4, zu_5, zu_6, zu_7, zu_8, zu_9, zu_10, zu_11, zu_12, zu_13, zu_14, zu_15, zu_16, zu_17, zu_18, zu_19, zu_20, zu_21, zu_22, zu_23, zu_24, zu_25, zu_26, zu_27, zu_28, zu_29, zu_30, zu_90, zv_0_9, zv_1_9, zv_2_9, zv_3_9, zv_4_9, zv_5_9, zv_6_9, zv_7_9, zv_8_9, zv_0_330, zv_0_4544, zv_1_4544, zv_2_4544, zv_3_4544, zv_4_4544, zv_5_4544, zv_6_4544, zv_7_4544, zv_8_4544, zv_9_4544, zv_10_4544, zv_11_4544, zv_12_4544, zv_13_4544, zv_14_4544, zv_15_4544, zv_16_4544, zv_17_4544, zv_18_4544, zv_19_4544, zv_20_4544, zv_21_4544, zv_22_4544, zv_23_4544, zv_24_4544, zv_25_4544, zv_26_4544, zv_27_4544, zv_28_4544, zv_29_4544, zv_0_11, zv_1_11, zv_0_160, true_and, and_true, Nat.reduceAdd, nI_1]
        obtain ⟨g1, g2⟩ := ze_ps_i (wr := true) (pr := pr) (T := T) hA.1 hi1 d2 (by omega)
        exact ih (i + 1) _ M3 (by omega) g1 (g2.trans hn1) b1 b2 (zf_trans f1 b3) e
  refine h26 _ _ _ ?_
  simp only [bX11_foretold_26, zw_0, zw_1, zs_aloadn0, zs_aloadNn0, zg_11_22, zg_11_10, zg_11_136, zi_11_279, zs_iconst, zs_istore4, zc_none, zc_int, zc_ref, zc_null, zc_long, zh_0, zh_1, zh_2, zh_3, zh_4, zt_i, zt_l, zt_r, zt_n, zb_15, zb_16, zb_17, za_18, za_19, za_20, za_21, za_22, zb_23, za_24, za_25, za_26, za_27, za_28, za_29, za_30, za_31, za_32, zb_35, za_36, za_37, za_38, za_39, za_40, zb_377, zb_378, za_379, za_380, za_381, za_382, za_383, zb_384, za_385, za_386, za_387, za_388, za_389, za_390, za_391, za_392, za_393, zb_396, za_397, za_398, za_399, za_400, za_401, zb_738, za_739, za_740, za_741, za_742, za_743, za_744, za_745, za_746, za_747, zb_748, za_749, za_750, zb_751, zb_752, za_753, za_754, za_755, za_756, zb_757, za_758, za_759, za_760, zb_761, za_763, za_764, za_765, true_and, and_true, Nat.reduceAdd]
  refine c10_copy hE (d + 4) zw_738 zw_23 ?_
  simp only [bX11_foretold_26, zw_0, zw_1, zs_aloadn0, zs_aloadNn0, zg_11_22, zg_11_10, zg_11_136, zi_11_279, zs_iconst, zs_istore4, zc_none, zc_int, zc_ref, zc_null, zc_long, zh_0, zh_1, zh_2, zh_3, zh_4, zt_i, zt_l, zt_r, zt_n, zb_15, zb_16, zb_17, za_18, za_19, za_20, za_21, za_22, zb_23, za_24, za_25, za_26, za_27, za_28, za_29, za_30, za_31, za_32, zb_35, za_36, za_37, za_38, za_39, za_40, zb_377, zb_378, za_379, za_380, za_381, za_382, za_383, zb_384, za_385, za_386, za_387, za_388, za_389, za_390, za_391, za_392, za_393, zb_396, za_397, za_398, za_399, za_400, za_401, zb_738, za_739, za_740, za_741, za_742, za_743, za_744, za_745, za_746, za_747, zb_748, za_749, za_750, zb_751, zb_752, za_753, za_754, za_755, za_756, zb_757, za_758, za_759, za_760, zb_761, za_763, za_764, za_765, true_and, and_true, Nat.reduceAdd]
  have f0 : zf (zw_L 738) M (zw_cp M 738 23) := zw_cp_f
  exact loop f 0 S _ (by omega) hA.2.2.1 rfl (zw_c_like hA.2.2.1.1 hC.2.2.2.2.1 (zw_cp_like (by omega))) (fun i hi => by rw [(f0 749 (by decide)).1]; exact hC.2.1 i hi) (zf_sub f0 (fun q hq => zF_w hq)) (fun x => by rw [hSF])
theorem c11_pardoned {E : zm_E} (hE : zm_ok E.2.2.1 E.2.2.2.2) (d : Nat) {n tn s : Nat} (a : Int32) {b pr : Nat → Int32} {T : Nat → Option zD} {S : zW} {H : Nat → zW} {M : zm_M} (htn : tn ≤ 4) (hA : zAl n b T S s H) (hC : zCs n tn b pr T S s H M) {Q : Option Value → zm_M → Prop} (q1 : zo_is (zWn S) a = false → Q (some (.int (-1))) M) (q2 : ∀ k M', k < zWn S → a = nI k → zN M' → zf (zF 738) M M' → Q (some (.int (ze_par true n b pr T k 60 1 S))) M') : zm_R E (d + 6) mX11_pardoned [.ref 15, .int a] M Q := by
  refine zX11_pardoned hE rfl (fun G h0 h16 h32 h97 h103 => ?_)
  show G 0 [some (.ref 15), some (.int a), none] [] M
  have hm10 := hA.2.2.1.1.1
  refine h0 _ _ _ ?_
  simp only [bX11_pardoned_0, zw_0, zw_1, zs_aloadn0, zs_aloadNn0, zg_11_10, zg_11_136, zs_iloadn1, zi_11_151, zs_ifne, zs_iconst, zs_ireturn, zh_0, zh_1, zh_2, zh_3, zh_4, zt_i, zt_l, zt_r, zt_n, zn_int, zn_b0, zn_b1, zb_15, zb_16, zb_17, za_18, za_19, za_20, za_21, za_22, zb_23, za_24, za_25, za_26, za_27, za_28, za_29, za_30, za_31, za_32, zb_35, za_36, za_37, za_38, za_39, za_40, zb_377, zb_378, za_379, za_380, za_381, za_382, za_383, zb_384, za_385, za_386, za_387, za_388, za_389, za_390, za_391, za_392, za_393, zb_396, za_397, za_398, za_399, za_400, za_401, zb_738, za_739, za_740, za_741, za_742, za_743, za_744, za_745, za_746, za_747, zb_748, za_749, za_750, zb_751, zb_752, za_753, za_754, za_755, za_756, zb_757, za_758, za_759, za_760, zb_761, za_763, za_764, za_765, true_and, and_true, Nat.reduceAdd]
  refine zm_R_eq (c10_has hE (d + 4) (w := 23) (n := zWn S) (Or.inl rfl) (by omega) a hC.2.2.2.2.1.2.2.1) ?_
  simp only [bX11_pardoned_0, zw_0, zw_1, zs_aloadn0, zs_aloadNn0, zg_11_10, zg_11_136, zs_iloadn1, zi_11_151, zs_ifne, zs_iconst, zs_ireturn, zh_0, zh_1, zh_2, zh_3, zh_4, zt_i, zt_l, zt_r, zt_n, zn_int, zn_b0, zn_b1, zb_15, zb_16, zb_17, za_18, za_19, za_20, za_21, za_22, zb_23, za_24, za_25, za_26, za_27, za_28, za_29, za_30, za_31, za_32, zb_35, za_36, za_37, za_38, za_39, za_40, zb_377, zb_378, za_379, za_380, za_381, za_382, za_383, zb_384, za_385, za_386, za_387, za_388, za_389, za_390, za_391, za_392, za_393, zb_396, za_397, za_398, za_399, za_400, za_401, zb_738, za_739, za_740, za_741, za_742, za_743, za_744, za_745, za_746, za_747, zb_748, za_749, za_750, zb_751, zb_752, za_753, za_754, za_755, za_756, zb_757, za_758, za_759, za_760, zb_761, za_763, za_764, za_765, true_and, and_true, Nat.reduceAdd, zi_b1, zi_b0]
  refine ⟨fun ha => ?_, fun h => q1 h⟩
  have ha : zo_is (zWn S) a = true := by simpa using ha
  obtain ⟨k, hk, rfl⟩ := zo_of ha (by omega)
  have q2 := fun M' => q2 k M' hk rfl
  have i1 : vp_in (nI k) 10 := vp_in_nI (by omega) (by decide)
  have i2 : (nI k).toNatClampNeg = k := nI_clamp (by omega)
  generalize hSF : ze_par true n b pr T k 60 1 S = R at *
  have no : ∀ q, q < 738 → q ∉ zF 738 := fun q hq => zF_no (by omega) (by omega)
  have lF : ∀ q, q ∈ zF 738 → q < 41 ∨ 738 ≤ q := fun q hq => by
    rcases List.mem_append.mp hq with z | z
    · have := zw_L_mem z; omega
    · simp at z; omega
  have fin : ∀ (M1 : zm_M) (l2 : Option Value), R = -1 → zN M1 → zf (zF 738) M M1 → G 103 [some (.ref 15), some (.int (nI k)), l2] [] M1 := by
    intro M1 l2 hR hN1 f1
    refine h103 _ _ _ ?_
    simp only [bX11_pardoned_103, zw_0, zw_1, zs_iconst, zs_ireturn, zn_int, zn_b0, zn_b1, zb_15, zb_16, zb_17, za_18, za_19, za_20, za_21, za_22, zb_23, za_24, za_25, za_26, za_27, za_28, za_29, za_30, za_31, za_32, zb_35, za_36, za_37, za_38, za_39, za_40, zb_377, zb_378, za_379, za_380, za_381, za_382, za_383, zb_384, za_385, za_386, za_387, za_388, za_389, za_390, za_391, za_392, za_393, zb_396, za_397, za_398, za_399, za_400, za_401, zb_738, za_739, za_740, za_741, za_742, za_743, za_744, za_745, za_746, za_747, zb_748, za_749, za_750, zb_751, zb_752, za_753, za_754, za_755, za_756, zb_757, za_758, za_759, za_760, zb_761, za_763, za_764, za_765, true_and, and_true, Nat.reduceAdd]
    rw [← hR]
    exact q2 M1 hN1 f1
  have loop : ∀ (g i : Nat) (S1 : zW) (M1 : zm_M), i + g = 61 → zw_i n b S1 → zWn S1 = zWn S → zw_c M1 738 S1 → zN M1 → zf (zF 738) M M1 → ze_par true n b pr T k g i S1 = R → G 32 [some (.ref 15), some (.int (nI k)), some (.int (nI i))] [] M1 := by
    intro g
    induction g with
    | zero =>
      intro i S1 M1 hi hi1 hn1 hS1 hN1 f1 e
      refine h32 _ _ _ ?_
      simp only [bX11_pardoned_32, zw_0, zw_1, zs_iloadn2, zs_bipush, zs_icgt, zs_aloadn0, zs_aloadNn0, zg_11_22, zg_11_167, zs_sipush, zs_icge, zg_11_152, zs_iloadn1, zs_iaload, zs_ifne, zg_11_44, zg_11_10, zi_11_174, zi_11_178, zs_popi, zs_popr, zs_popn, zs_iconst, zs_icne, zs_ireturn, zh_0, zh_1, zh_2, zh_3, zh_4, zt_i, zt_l, zt_r, zt_n, zn_int, zn_b0, zn_b1, zb_15, zb_16, zb_17, za_18, za_19, za_20, za_21, za_22, zb_23, za_24, za_25, za_26, za_27, za_28, za_29, za_30, za_31, za_32, zb_35, za_36, za_37, za_38, za_39, za_40, zb_377, zb_378, za_379, za_380, za_381, za_382, za_383, zb_384, za_385, za_386, za_387, za_388, za_389, za_390, za_391, za_392, za_393, zb_396, za_397, za_398, za_399, za_400, za_401, zb_738, za_739, za_740, za_741, za_742, za_743, za_744, za_745, za_746, za_747, zb_748, za_749, za_750, zb_751, zb_752, za_753, za_754, za_755, za_756, zb_757, za_758, za_759, za_760, zb_761, za_763, za_764, za_765, zu_0, zu_1, zu_2, zu_3, zu_4, zu_5, zu_6, zu_7, zu_8, zu_9, zu_10, zu_11, zu_12, zu_13, zu_14, zu_15, zu_16, zu_17, zu_18, zu_19, zu_20, zu_21, zu_22, zu_23, zu_24, zu_25, zu_26, zu_27, zu_28, zu_29, zu_30, zu_90, zv_0_9, zv_1_9, zv_2_9, zv_3_9, zv_4_9, zv_5_9, zv_6_9, zv_7_9, zv_8_9, zv_0_330, zv_0_4544, zv_1_4544, zv_2_4544, zv_3_4544, zv_4_4544, zv_5_4544, zv_6_4544, zv_7_4544, zv_8_4544, zv_9_4544, zv_10_4544, zv_11_4544, zv_12_4544, zv_13_4544, zv_14_4544, zv_15_4544, zv_16_4544, zv_17_4544, zv_18_4544, zv_19_4544, zv_20_4544, zv_21_4544, zv_22_4544, zv_23_4544, zv_24_4544, zv_25_4544, zv_26_4544, zv_27_4544, zv_28_4544, zv_29_4544, zv_0_11, zv_1_11, zv_0_160, true_and, and_true, Nat.reduceAdd]
      exact ⟨fun _ => fin M1 _ e.symm hN1 f1, fun h => absurd (nI_lt (a := 60) (by omega) (by omega)) h⟩
    | succ g ih =>
      intro i S1 M1 hi hi1 hn1 hS1 hN1 f1 e
      obtain ⟨dd, d1, d2, d3⟩ := zw_d9 hi1
      have m0 : M1.1 738 0 = nI dd := by rw [← d2]; exact hS1.1
      have c9 : ((9999 : Int32) ≤ nI dd) = (9999 ≤ dd) := propext (nI_leI (a := 9999) (by decide) (by omega))
      have a4 : M1.1 743 k = zWa S1 4 k := hS1.2.2.2.2.1 4 k (by decide) (by omega)
      refine h32 _ _ _ ?_
      simp only [bX11_pardoned_32, zw_0, zw_1, zs_iloadn2, zs_bipush, zs_icgt, zs_aloadn0, zs_aloadNn0, zg_11_22, zg_11_167, zs_sipush, zs_icge, zg_11_152, zs_iloadn1, zs_iaload, zs_ifne, zg_11_44, zg_11_10, zi_11_174, zi_11_178, zs_popi, zs_popr, zs_popn, zs_iconst, zs_icne, zs_ireturn, zh_0, zh_1, zh_2, zh_3, zh_4, zt_i, zt_l, zt_r, zt_n, zn_int, zn_b0, zn_b1, zb_15, zb_16, zb_17, za_18, za_19, za_20, za_21, za_22, zb_23, za_24, za_25, za_26, za_27, za_28, za_29, za_30, za_31, za_32, zb_35, za_36, za_37, za_38, za_39, za_40, zb_377, zb_378, za_379, za_380, za_381, za_382, za_383, zb_384, za_385, za_386, za_387, za_388, za_389, za_390, za_391, za_392, za_393, zb_396, za_397, za_398, za_399, za_400, za_401, zb_738, za_739, za_740, za_741, za_742, za_743, za_744, za_745, za_746, za_747, zb_748, za_749, za_750, zb_751, zb_752, za_753, za_754, za_755, za_756, zb_757, za_758, za_759, za_760, zb_761, za_763, za_764, za_765, zu_0, zu_1, zu_2, zu_3, zu_4, zu_5, zu_6, zu_7, zu_8, zu_9, zu_10, zu_11, zu_12, zu_13, zu_14, zu_15, zu_16, zu_17, zu_18, zu_19, zu_20, zu_21, zu_22, zu_23, zu_24, zu_25, zu_26, zu_27, zu_28, zu_29, zu_30, zu_90, zv_0_9, zv_1_9, zv_2_9, zv_3_9, zv_4_9, zv_5_9, zv_6_9, zv_7_9, zv_8_9, zv_0_330, zv_0_4544, zv_1_4544, zv_2_4544, zv_3_4544, zv_4_4544, zv_5_4544, zv_6_4544, zv_7_4544, zv_8_4544, zv_9_4544, zv_10_4544, zv_11_4544, zv_12_4544, zv_13_4544, zv_14_4544, zv_15_4544, zv_16_4544, zv_17_4544, zv_18_4544, zv_19_4544, zv_20_4544, zv_21_4544, zv_22_4544, zv_23_4544, zv_24_4544, zv_25_4544, zv_26_4544, zv_27_4544, zv_28_4544, zv_29_4544, zv_0_11, zv_1_11, zv_0_160, true_and, and_true, Nat.reduceAdd, m0, c9, i1, i2, a4]
      refine ⟨fun h => absurd h (nI_nlt (b := i) (a := 60) (by omega) (by omega)), fun _ => ⟨fun h9 => ?_, fun h9 => ⟨fun hne => ?_, fun h0 => ?_⟩⟩⟩
      · refine fin M1 _ ?_ hN1 f1
        rw [← e]; simp only [ze_par]; rw [if_pos (d3.mpr (by omega))]
      · exact fin M1 _ (by rw [← e]; exact ze_par_no true n b pr T hA.1 (g + 1) i S1 hi1 (by omega) hne) hN1 f1
      · have hne : ¬ zWd S1 = 9999 := fun z => h9 (by have := d3.mp z; omega)
        simp only [ze_par] at e
        rw [if_neg hne] at e
        have e16 := (f1 16 (no 16 (by omega))).1
        refine zm_R_eq (c6_law hE (d + 3) htn (by rw [e16]; exact hC.2.2.1)) ?_
        rw [show zr_law M1 = zr_law M by unfold zr_law; rw [e16]]
        simp only [bX11_pardoned_32, zw_0, zw_1, zs_iloadn2, zs_bipush, zs_icgt, zs_aloadn0, zs_aloadNn0, zg_11_22, zg_11_167, zs_sipush, zs_icge, zg_11_152, zs_iloadn1, zs_iaload, zs_ifne, zg_11_44, zg_11_10, zi_11_174, zi_11_178, zs_popi, zs_popr, zs_popn, zs_iconst, zs_icne, zs_ireturn, zh_0, zh_1, zh_2, zh_3, zh_4, zt_i, zt_l, zt_r, zt_n, zn_int, zn_b0, zn_b1, zb_15, zb_16, zb_17, za_18, za_19, za_20, za_21, za_22, zb_23, za_24, za_25, za_26, za_27, za_28, za_29, za_30, za_31, za_32, zb_35, za_36, za_37, za_38, za_39, za_40, zb_377, zb_378, za_379, za_380, za_381, za_382, za_383, zb_384, za_385, za_386, za_387, za_388, za_389, za_390, za_391, za_392, za_393, zb_396, za_397, za_398, za_399, za_400, za_401, zb_738, za_739, za_740, za_741, za_742, za_743, za_744, za_745, za_746, za_747, zb_748, za_749, za_750, zb_751, zb_752, za_753, za_754, za_755, za_756, zb_757, za_758, za_759, za_760, zb_761, za_763, za_764, za_765, zu_0, zu_1, zu_2, zu_3, zu_4, zu_5, zu_6, zu_7, zu_8, zu_9, zu_10, zu_11, zu_12, zu_13, zu_14, zu_15, zu_16, zu_17, zu_18, zu_19, zu_20, zu_21, zu_22, zu_23, zu_24, zu_25, zu_26, zu_27, zu_28, zu_29, zu_30, zu_90, zv_0_9, zv_1_9, zv_2_9, zv_3_9, zv_4_9, zv_5_9, zv_6_9, zv_7_9, zv_8_9, zv_0_330, zv_0_4544, zv_1_4544, zv_2_4544, zv_3_4544, zv_4_4544, zv_5_4544, zv_6_4544, zv_7_4544, zv_8_4544, zv_9_4544, zv_10_4544, zv_11_4544, zv_12_4544, zv_13_4544, zv_14_4544, zv_15_4544, zv_16_4544, zv_17_4544, zv_18_4544, zv_19_4544, zv_20_4544, zv_21_4544, zv_22_4544, zv_23_4544, zv_24_4544, zv_25_4544, zv_26_4544, zv_27_4544, zv_28_4544, zv_29_4544, zv_0_11, zv_1_11, zv_0_160, true_and, and_true, Nat.reduceAdd, zt_val]
        refine c0_pass hE d (Or.inr rfl) (zc_s9_f hC.1 f1 (no _ (by omega)) (no _ (by omega)) (no _ (by omega)) (no _ (by omega))) hN1 (zc_T_f hC.2.2.2.1 f1 lF) hA.2.1 hi1 hS1 (fun M3 b1 b2 b3 => ?_)
        obtain ⟨g1, g2⟩ := ze_ps_i (wr := true) (pr := pr) (T := T) hA.1 hi1 d2 (by omega)
        have p4 : M3.1 743 k = zWa (ze_ps true n b pr T S1) 4 k := b1.2.2.2.2.1 4 k (by decide) (by omega)
        have pk := (ze_ps_k true n b pr T S1 (k := k) (by omega)).1 h0
        simp only [bX11_pardoned_32, zw_0, zw_1, zs_iloadn2, zs_bipush, zs_icgt, zs_aloadn0, zs_aloadNn0, zg_11_22, zg_11_167, zs_sipush, zs_icge, zg_11_152, zs_iloadn1, zs_iaload, zs_ifne, zg_11_44, zg_11_10, zi_11_174, zi_11_178, zs_popi, zs_popr, zs_popn, zs_iconst, zs_icne, zs_ireturn, zh_0, zh_1, zh_2, zh_3, zh_4, zt_i, zt_l, zt_r, zt_n, zn_int, zn_b0, zn_b1, zb_15, zb_16, zb_17, za_18, za_19, za_20, za_21, za_22, zb_23, za_24, za_25, za_26, za_27, za_28, za_29, za_30, za_31, za_32, zb_35, za_36, za_37, za_38, za_39, za_40, zb_377, zb_378, za_379, za_380, za_381, za_382, za_383, zb_384, za_385, za_386, za_387, za_388, za_389, za_390, za_391, za_392, za_393, zb_396, za_397, za_398, za_399, za_400, za_401, zb_738, za_739, za_740, za_741, za_742, za_743, za_744, za_745, za_746, za_747, zb_748, za_749, za_750, zb_751, zb_752, za_753, za_754, za_755, za_756, zb_757, za_758, za_759, za_760, zb_761, za_763, za_764, za_765, zu_0, zu_1, zu_2, zu_3, zu_4, zu_5, zu_6, zu_7, zu_8, zu_9, zu_10, zu_11, zu_12, zu_13, zu_14, zu_15, zu_16, zu_17, zu_18, zu_19, zu_20, zu_21, zu_22, zu_23, zu_24, zu_25, zu_26, zu_27, zu_28, zu_29, zu_30, zu_90, zv_0_9, zv_1_9, zv_2_9, zv_3_9, zv_4_9, zv_5_9, zv_6_9, zv_7_9, zv_8_9, zv_0_330, zv_0_4544, zv_1_4544, zv_2_4544, zv_3_4544, zv_4_4544, zv_5_4544, zv_6_4544, zv_7_4544, zv_8_4544, zv_9_4544, zv_10_4544, zv_11_4544, zv_12_4544, zv_13_4544, zv_14_4544, zv_15_4544, zv_16_4544, zv_17_4544, zv_18_4544, zv_19_4544, zv_20_4544, zv_21_4544, zv_22_4544, zv_23_4544, zv_24_4544, zv_25_4544, zv_26_4544, zv_27_4544, zv_28_4544, zv_29_4544, zv_0_11, zv_1_11, zv_0_160, true_and, and_true, Nat.reduceAdd, i1, i2, p4]
        refine ⟨fun hn1' => ?_, fun h1 => ?_⟩
        · rw [if_neg (fun z => hn1' (pk.mpr z))] at e
          refine h97 _ _ _ ?_
          simp only [bX11_pardoned_97, zw_0, zw_1, zs_iinc2, zs_goto, zc_none, zc_int, zc_ref, zc_null, zc_long, zb_15, zb_16, zb_17, za_18, za_19, za_20, za_21, za_22, zb_23, za_24, za_25, za_26, za_27, za_28, za_29, za_30, za_31, za_32, zb_35, za_36, za_37, za_38, za_39, za_40, zb_377, zb_378, za_379, za_380, za_381, za_382, za_383, zb_384, za_385, za_386, za_387, za_388, za_389, za_390, za_391, za_392, za_393, zb_396, za_397, za_398, za_399, za_400, za_401, zb_738, za_739, za_740, za_741, za_742, za_743, za_744, za_745, za_746, za_747, zb_748, za_749, za_750, zb_751, zb_752, za_753, za_754, za_755, za_756, zb_757, za_758, za_759, za_760, zb_761, za_763, za_764, za_765, true_and, and_true, Nat.reduceAdd, nI_1]
          exact ih (i + 1) _ M3 (by omega) g1 (g2.trans hn1) b1 b2 (zf_trans f1 b3) e
        · rw [if_pos (pk.mp h1)] at e
          rw [e]
          exact q2 M3 b2 (zf_trans f1 b3)
  refine h16 _ _ _ ?_
  simp only [bX11_pardoned_16, zw_0, zw_1, zs_aloadn0, zs_aloadNn0, zg_11_22, zg_11_10, zg_11_136, zi_11_279, zs_iconst, zs_istoren2, zc_none, zc_int, zc_ref, zc_null, zc_long, zh_0, zh_1, zh_2, zh_3, zh_4, zt_i, zt_l, zt_r, zt_n, zb_15, zb_16, zb_17, za_18, za_19, za_20, za_21, za_22, zb_23, za_24, za_25, za_26, za_27, za_28, za_29, za_30, za_31, za_32, zb_35, za_36, za_37, za_38, za_39, za_40, zb_377, zb_378, za_379, za_380, za_381, za_382, za_383, zb_384, za_385, za_386, za_387, za_388, za_389, za_390, za_391, za_392, za_393, zb_396, za_397, za_398, za_399, za_400, za_401, zb_738, za_739, za_740, za_741, za_742, za_743, za_744, za_745, za_746, za_747, zb_748, za_749, za_750, zb_751, zb_752, za_753, za_754, za_755, za_756, zb_757, za_758, za_759, za_760, zb_761, za_763, za_764, za_765, true_and, and_true, Nat.reduceAdd]
  refine c10_copy hE (d + 4) zw_738 zw_23 ?_
  simp only [bX11_pardoned_16, zw_0, zw_1, zs_aloadn0, zs_aloadNn0, zg_11_22, zg_11_10, zg_11_136, zi_11_279, zs_iconst, zs_istoren2, zc_none, zc_int, zc_ref, zc_null, zc_long, zh_0, zh_1, zh_2, zh_3, zh_4, zt_i, zt_l, zt_r, zt_n, zb_15, zb_16, zb_17, za_18, za_19, za_20, za_21, za_22, zb_23, za_24, za_25, za_26, za_27, za_28, za_29, za_30, za_31, za_32, zb_35, za_36, za_37, za_38, za_39, za_40, zb_377, zb_378, za_379, za_380, za_381, za_382, za_383, zb_384, za_385, za_386, za_387, za_388, za_389, za_390, za_391, za_392, za_393, zb_396, za_397, za_398, za_399, za_400, za_401, zb_738, za_739, za_740, za_741, za_742, za_743, za_744, za_745, za_746, za_747, zb_748, za_749, za_750, zb_751, zb_752, za_753, za_754, za_755, za_756, zb_757, za_758, za_759, za_760, zb_761, za_763, za_764, za_765, true_and, and_true, Nat.reduceAdd]
  have f0 : zf (zw_L 738) M (zw_cp M 738 23) := zw_cp_f
  exact loop 60 1 S _ (by omega) hA.2.2.1 rfl (zw_c_like hA.2.2.1.1 hC.2.2.2.2.1 (zw_cp_like (by omega))) (fun i hi => by rw [(f0 749 (by decide)).1]; exact hC.2.1 i hi) (zf_sub f0 (fun q hq => zF_w hq)) hSF
