/-! ===== the reference: its smallest methods ===== -/
/-! an index, as a number -/
theorem zx_in {x : Int32} {n N : Nat} (h : x = nI n) (hn : n < N) (hN : N < 2 ^ 31) : vp_in x N := by rw [h]; exact vp_in_nI hn hN
theorem zx_cl {x : Int32} {n : Nat} (h : x = nI n) (hn : n < 2 ^ 31) : x.toNatClampNeg = n := by rw [h]; exact nI_clamp hn
theorem zx_get (k w : Nat) : (20 : Int32) + 7 * nI k + nI w = nI (20 + 7 * k + w) := by
  rw [← nI_add, ← nI_add, ← pk_mul]; rfl
theorem zx_boss (p : Nat) : (90 : Int32) + nI p = nI (90 + p) := by rw [← nI_add]; rfl
def zi_in (v lo hi : Int32) : Int32 := if v < lo then 0 else if hi < v then 0 else 1
theorem zi_in_b {a b c : Int32} : zm_nr (some .boolean) (zi_in a b c) = True := by
  unfold zi_in
  split
  · exact zn_b0
  · split
    · exact zn_b0
    · exact zn_b1
theorem c_isIn {E : zm_E} (hE : zm_ok E.2.2.1 E.2.2.2.2) (d : Nat) (v lo hi : Int32) (M : zm_M) : zm_R E (d + 1) mX12_isIn [.int v, .int lo, .int hi] M (fun r M' => r = some (.int (zi_in v lo hi)) ∧ M' = M) := by
  refine zX12_isIn hE rfl (fun G h0 h14 h15 => ?_)
  show G 0 [some (.int v), some (.int lo), some (.int hi)] [] M
  repeat' (first | (refine h0 _ _ _ ?_; simp only [bX12_isIn_0, zw_0, zw_1, zs_iloadn0, zs_iloadn1, zs_iclt, zs_iloadn2, zs_icgt, zs_iconst, zs_goto, zb_0, za_1, za_2, za_3, za_4, za_5, za_6, za_7, za_8, za_9, za_10, za_11, za_12, za_13, za_14, true_and, and_true, Nat.reduceAdd]) | (refine h14 _ _ _ ?_; simp only [bX12_isIn_14, zw_0, zw_1, zs_iconst, zb_0, za_1, za_2, za_3, za_4, za_5, za_6, za_7, za_8, za_9, za_10, za_11, za_12, za_13, za_14, true_and, and_true, Nat.reduceAdd]) | (refine h15 _ _ _ ?_; simp only [bX12_isIn_15, zw_0, zw_1, zs_ireturn, zn_int, zn_b0, zn_b1, zb_0, za_1, za_2, za_3, za_4, za_5, za_6, za_7, za_8, za_9, za_10, za_11, za_12, za_13, za_14, true_and, and_true, Nat.reduceAdd]) | apply And.intro | intro _ | rfl)
  all_goals simp [zi_in, *]
def zi_cut (v : Int64) (lo hi : Int32) : Int32 := if lo.toInt64 ≤ v then (if v ≤ hi.toInt64 then v.toInt32 else hi) else lo
theorem c_cut {E : zm_E} (hE : zm_ok E.2.2.1 E.2.2.2.2) (d : Nat) (v : Int64) (lo hi : Int32) (M : zm_M) : zm_R E (d + 1) mX12_cut [.long v, .int lo, .int hi] M (fun r M' => r = some (.int (zi_cut v lo hi)) ∧ M' = M) := by
  refine zX12_cut hE rfl (fun G h0 h11 h22 h24 => ?_)
  show G 0 [some (.long v), none, some (.int lo), some (.int hi)] [] M
  repeat' (first | (refine h0 _ _ _ ?_; simp only [bX12_cut_0, zw_0, zw_1, zs_lloadn0, zs_iloadn2, zs_i2l, zs_lcmp, zs_ifge, zs_goto, zb_0, za_1, za_2, za_3, za_4, za_5, za_6, za_7, za_8, za_9, za_10, za_11, za_12, za_13, za_14, true_and, and_true, Nat.reduceAdd, lg_cmp_ge, lg_cmp_le]) | (refine h11 _ _ _ ?_; simp only [bX12_cut_11, zw_0, zw_1, zs_lloadn0, zs_iloadn3, zs_i2l, zs_lcmp, zs_ifle, zs_goto, zb_0, za_1, za_2, za_3, za_4, za_5, za_6, za_7, za_8, za_9, za_10, za_11, za_12, za_13, za_14, true_and, and_true, Nat.reduceAdd, lg_cmp_ge, lg_cmp_le]) | (refine h22 _ _ _ ?_; simp only [bX12_cut_22, zw_0, zw_1, zs_lloadn0, zs_l2i, zb_0, za_1, za_2, za_3, za_4, za_5, za_6, za_7, za_8, za_9, za_10, za_11, za_12, za_13, za_14, true_and, and_true, Nat.reduceAdd, lg_cmp_ge, lg_cmp_le]) | (refine h24 _ _ _ ?_; simp only [bX12_cut_24, zw_0, zw_1, zs_ireturn, zn_int, zn_b0, zn_b1, zb_0, za_1, za_2, za_3, za_4, za_5, za_6, za_7, za_8, za_9, za_10, za_11, za_12, za_13, za_14, true_and, and_true, Nat.reduceAdd, lg_cmp_ge, lg_cmp_le]) | apply And.intro | intro _ | rfl)
  all_goals simp only [zi_cut, if_true, if_false, *]
def zi_has (set k : Int32) : Int32 := if (set >>> (k &&& 31)) &&& 1 = 1 then 1 else 0
theorem zi_has_b {a b : Int32} : zm_nr (some .boolean) (zi_has a b) = True := by
  unfold zi_has
  split
  · exact zn_b1
  · exact zn_b0
theorem c_has {E : zm_E} (hE : zm_ok E.2.2.1 E.2.2.2.2) (d : Nat) (set k : Int32) (M : zm_M) : zm_R E (d + 1) mX12_has [.int set, .int k] M (fun r M' => r = some (.int (zi_has set k)) ∧ M' = M) := by
  refine zX12_has hE rfl (fun G h0 h13 h14 => ?_)
  show G 0 [some (.int set), some (.int k)] [] M
  repeat' (first | (refine h0 _ _ _ ?_; simp only [bX12_has_0, zw_0, zw_1, zs_iloadn0, zs_iloadn1, zs_ishr, zs_iconst, zs_iand, zs_icne, zs_goto, zb_0, za_1, za_2, za_3, za_4, za_5, za_6, za_7, za_8, za_9, za_10, za_11, za_12, za_13, za_14, true_and, and_true, Nat.reduceAdd]) | (refine h13 _ _ _ ?_; simp only [bX12_has_13, zw_0, zw_1, zs_iconst, zb_0, za_1, za_2, za_3, za_4, za_5, za_6, za_7, za_8, za_9, za_10, za_11, za_12, za_13, za_14, true_and, and_true, Nat.reduceAdd]) | (refine h14 _ _ _ ?_; simp only [bX12_has_14, zw_0, zw_1, zs_ireturn, zn_int, zn_b0, zn_b1, zb_0, za_1, za_2, za_3, za_4, za_5, za_6, za_7, za_8, za_9, za_10, za_11, za_12, za_13, za_14, true_and, and_true, Nat.reduceAdd]) | apply And.intro | intro _ | rfl)
  all_goals simp [zi_has, *]
theorem c_isOfficer {E : zm_E} (hE : zm_ok E.2.2.1 E.2.2.2.2) (d : Nat) (p : Int32) (M : zm_M) : zm_R E (d + 2) mX12_isOfficer [.ref 0, .int p] M (fun r M' => r = some (.int (zi_in p 0 (M.1 1 0 - 1))) ∧ M' = M) := by
  refine zX12_isOfficer hE rfl (fun G h0 => ?_)
  show G 0 [some (.ref 0), some (.int p)] [] M
  refine h0 _ _ _ ?_
  simp only [bX12_isOfficer_0, zw_0, zw_1, zs_iloadn1, zs_iconst, zs_aloadn0, zs_aloadNn0, zg_12_7, zs_iaload, zs_isub, zi_12_69, zs_ireturn, zh_0, zh_1, zh_2, zh_3, zh_4, zt_i, zt_l, zt_r, zt_n, zn_int, zn_b0, zn_b1, zb_0, za_1, za_2, za_3, za_4, za_5, za_6, za_7, za_8, za_9, za_10, za_11, za_12, za_13, za_14, zu_0, zu_1, zu_2, zu_3, zu_4, zu_5, zu_6, zu_7, zu_8, zu_9, zu_10, zu_11, zu_12, zu_13, zu_14, zu_15, zu_16, zu_17, zu_18, zu_19, zu_20, zu_21, zu_22, zu_23, zu_24, zu_25, zu_26, zu_27, zu_28, zu_29, zu_30, zu_90, zv_0_9, zv_1_9, zv_2_9, zv_3_9, zv_4_9, zv_5_9, zv_6_9, zv_7_9, zv_8_9, zv_0_330, zv_0_4544, zv_1_4544, zv_2_4544, zv_3_4544, zv_4_4544, zv_5_4544, zv_6_4544, zv_7_4544, zv_8_4544, zv_9_4544, zv_10_4544, zv_11_4544, zv_12_4544, zv_13_4544, zv_14_4544, zv_15_4544, zv_16_4544, zv_17_4544, zv_18_4544, zv_19_4544, zv_20_4544, zv_21_4544, zv_22_4544, zv_23_4544, zv_24_4544, zv_25_4544, zv_26_4544, zv_27_4544, zv_28_4544, zv_29_4544, zv_0_11, zv_1_11, zv_0_160, true_and, and_true, Nat.reduceAdd]
  refine zm_R_mono (c_isIn hE d p 0 _ M) ?_; rintro _ _ ⟨rfl, rfl⟩; simp only [bX12_isOfficer_0, zw_0, zw_1, zs_iloadn1, zs_iconst, zs_aloadn0, zs_aloadNn0, zg_12_7, zs_iaload, zs_isub, zi_12_69, zs_ireturn, zh_0, zh_1, zh_2, zh_3, zh_4, zt_i, zt_l, zt_r, zt_n, zn_int, zn_b0, zn_b1, zb_0, za_1, za_2, za_3, za_4, za_5, za_6, za_7, za_8, za_9, za_10, za_11, za_12, za_13, za_14, zu_0, zu_1, zu_2, zu_3, zu_4, zu_5, zu_6, zu_7, zu_8, zu_9, zu_10, zu_11, zu_12, zu_13, zu_14, zu_15, zu_16, zu_17, zu_18, zu_19, zu_20, zu_21, zu_22, zu_23, zu_24, zu_25, zu_26, zu_27, zu_28, zu_29, zu_30, zu_90, zv_0_9, zv_1_9, zv_2_9, zv_3_9, zv_4_9, zv_5_9, zv_6_9, zv_7_9, zv_8_9, zv_0_330, zv_0_4544, zv_1_4544, zv_2_4544, zv_3_4544, zv_4_4544, zv_5_4544, zv_6_4544, zv_7_4544, zv_8_4544, zv_9_4544, zv_10_4544, zv_11_4544, zv_12_4544, zv_13_4544, zv_14_4544, zv_15_4544, zv_16_4544, zv_17_4544, zv_18_4544, zv_19_4544, zv_20_4544, zv_21_4544, zv_22_4544, zv_23_4544, zv_24_4544, zv_25_4544, zv_26_4544, zv_27_4544, zv_28_4544, zv_29_4544, zv_0_11, zv_1_11, zv_0_160, true_and, and_true, Nat.reduceAdd, zi_in_b]
theorem c_isApology {E : zm_E} (hE : zm_ok E.2.2.1 E.2.2.2.2) (d : Nat) (p : Int32) (M : zm_M) : zm_R E (d + 2) mX12_isApology [.ref 0, .int p] M (fun r M' => r = some (.int (zi_in p 0 (M.1 1 8 - 1))) ∧ M' = M) := by
  refine zX12_isApology hE rfl (fun G h0 => ?_)
  show G 0 [some (.ref 0), some (.int p)] [] M
  refine h0 _ _ _ ?_
  simp only [bX12_isApology_0, zw_0, zw_1, zs_iloadn1, zs_iconst, zs_aloadn0, zs_aloadNn0, zg_12_7, zs_bipush, zs_iaload, zs_isub, zi_12_69, zs_ireturn, zh_0, zh_1, zh_2, zh_3, zh_4, zt_i, zt_l, zt_r, zt_n, zn_int, zn_b0, zn_b1, zb_0, za_1, za_2, za_3, za_4, za_5, za_6, za_7, za_8, za_9, za_10, za_11, za_12, za_13, za_14, zu_0, zu_1, zu_2, zu_3, zu_4, zu_5, zu_6, zu_7, zu_8, zu_9, zu_10, zu_11, zu_12, zu_13, zu_14, zu_15, zu_16, zu_17, zu_18, zu_19, zu_20, zu_21, zu_22, zu_23, zu_24, zu_25, zu_26, zu_27, zu_28, zu_29, zu_30, zu_90, zv_0_9, zv_1_9, zv_2_9, zv_3_9, zv_4_9, zv_5_9, zv_6_9, zv_7_9, zv_8_9, zv_0_330, zv_0_4544, zv_1_4544, zv_2_4544, zv_3_4544, zv_4_4544, zv_5_4544, zv_6_4544, zv_7_4544, zv_8_4544, zv_9_4544, zv_10_4544, zv_11_4544, zv_12_4544, zv_13_4544, zv_14_4544, zv_15_4544, zv_16_4544, zv_17_4544, zv_18_4544, zv_19_4544, zv_20_4544, zv_21_4544, zv_22_4544, zv_23_4544, zv_24_4544, zv_25_4544, zv_26_4544, zv_27_4544, zv_28_4544, zv_29_4544, zv_0_11, zv_1_11, zv_0_160, true_and, and_true, Nat.reduceAdd]
  refine zm_R_mono (c_isIn hE d p 0 _ M) ?_; rintro _ _ ⟨rfl, rfl⟩; simp only [bX12_isApology_0, zw_0, zw_1, zs_iloadn1, zs_iconst, zs_aloadn0, zs_aloadNn0, zg_12_7, zs_bipush, zs_iaload, zs_isub, zi_12_69, zs_ireturn, zh_0, zh_1, zh_2, zh_3, zh_4, zt_i, zt_l, zt_r, zt_n, zn_int, zn_b0, zn_b1, zb_0, za_1, za_2, za_3, za_4, za_5, za_6, za_7, za_8, za_9, za_10, za_11, za_12, za_13, za_14, zu_0, zu_1, zu_2, zu_3, zu_4, zu_5, zu_6, zu_7, zu_8, zu_9, zu_10, zu_11, zu_12, zu_13, zu_14, zu_15, zu_16, zu_17, zu_18, zu_19, zu_20, zu_21, zu_22, zu_23, zu_24, zu_25, zu_26, zu_27, zu_28, zu_29, zu_30, zu_90, zv_0_9, zv_1_9, zv_2_9, zv_3_9, zv_4_9, zv_5_9, zv_6_9, zv_7_9, zv_8_9, zv_0_330, zv_0_4544, zv_1_4544, zv_2_4544, zv_3_4544, zv_4_4544, zv_5_4544, zv_6_4544, zv_7_4544, zv_8_4544, zv_9_4544, zv_10_4544, zv_11_4544, zv_12_4544, zv_13_4544, zv_14_4544, zv_15_4544, zv_16_4544, zv_17_4544, zv_18_4544, zv_19_4544, zv_20_4544, zv_21_4544, zv_22_4544, zv_23_4544, zv_24_4544, zv_25_4544, zv_26_4544, zv_27_4544, zv_28_4544, zv_29_4544, zv_0_11, zv_1_11, zv_0_160, true_and, and_true, Nat.reduceAdd, zi_in_b]
theorem c_get {E : zm_E} (hE : zm_ok E.2.2.1 E.2.2.2.2) (d : Nat) {k w : Nat} (h : 20 + 7 * k + w < 4544) (M : zm_M) : zm_R E (d + 1) mX12_get [.ref 0, .int (nI k), .int (nI w)] M (fun r M' => r = some (.int (M.1 1 (20 + 7 * k + w))) ∧ M' = M) := by
  refine zX12_get hE rfl (fun G h0 => ?_)
  show G 0 [some (.ref 0), some (.int (nI k)), some (.int (nI w))] [] M
  refine h0 _ _ _ ?_
  simp only [bX12_get_0, zw_0, zw_1, zs_aloadn0, zs_aloadNn0, zg_12_7, zs_bipush, zs_iloadn1, zs_imul, zs_iadd, zs_iloadn2, zs_iaload, zs_ireturn, zn_int, zn_b0, zn_b1, zb_0, za_1, za_2, za_3, za_4, za_5, za_6, za_7, za_8, za_9, za_10, za_11, za_12, za_13, za_14, zu_0, zu_1, zu_2, zu_3, zu_4, zu_5, zu_6, zu_7, zu_8, zu_9, zu_10, zu_11, zu_12, zu_13, zu_14, zu_15, zu_16, zu_17, zu_18, zu_19, zu_20, zu_21, zu_22, zu_23, zu_24, zu_25, zu_26, zu_27, zu_28, zu_29, zu_30, zu_90, zv_0_9, zv_1_9, zv_2_9, zv_3_9, zv_4_9, zv_5_9, zv_6_9, zv_7_9, zv_8_9, zv_0_330, zv_0_4544, zv_1_4544, zv_2_4544, zv_3_4544, zv_4_4544, zv_5_4544, zv_6_4544, zv_7_4544, zv_8_4544, zv_9_4544, zv_10_4544, zv_11_4544, zv_12_4544, zv_13_4544, zv_14_4544, zv_15_4544, zv_16_4544, zv_17_4544, zv_18_4544, zv_19_4544, zv_20_4544, zv_21_4544, zv_22_4544, zv_23_4544, zv_24_4544, zv_25_4544, zv_26_4544, zv_27_4544, zv_28_4544, zv_29_4544, zv_0_11, zv_1_11, zv_0_160, true_and, and_true, Nat.reduceAdd]
  exact ⟨zx_in (zx_get k w) h (by decide), by rw [zx_cl (zx_get k w) (by omega)]⟩
theorem c_put {E : zm_E} (hE : zm_ok E.2.2.1 E.2.2.2.2) (d : Nat) {k w : Nat} (h : 20 + 7 * k + w < 4544) (v : Int32) (M : zm_M) : zm_R E (d + 1) mX12_put [.ref 0, .int (nI k), .int (nI w), .int v] M (fun r M' => r = none ∧ M' = zm_wi M 1 (20 + 7 * k + w) v) := by
  refine zX12_put hE rfl (fun G h0 => ?_)
  show G 0 [some (.ref 0), some (.int (nI k)), some (.int (nI w)), some (.int v)] [] M
  refine h0 _ _ _ ?_
  simp only [bX12_put_0, zw_0, zw_1, zs_aloadn0, zs_aloadNn0, zg_12_7, zs_bipush, zs_iloadn1, zs_imul, zs_iadd, zs_iloadn2, zs_iloadn3, zs_iastore, zs_return, zn_int, zn_b0, zn_b1, zb_0, za_1, za_2, za_3, za_4, za_5, za_6, za_7, za_8, za_9, za_10, za_11, za_12, za_13, za_14, zu_0, zu_1, zu_2, zu_3, zu_4, zu_5, zu_6, zu_7, zu_8, zu_9, zu_10, zu_11, zu_12, zu_13, zu_14, zu_15, zu_16, zu_17, zu_18, zu_19, zu_20, zu_21, zu_22, zu_23, zu_24, zu_25, zu_26, zu_27, zu_28, zu_29, zu_30, zu_90, zv_0_9, zv_1_9, zv_2_9, zv_3_9, zv_4_9, zv_5_9, zv_6_9, zv_7_9, zv_8_9, zv_0_330, zv_0_4544, zv_1_4544, zv_2_4544, zv_3_4544, zv_4_4544, zv_5_4544, zv_6_4544, zv_7_4544, zv_8_4544, zv_9_4544, zv_10_4544, zv_11_4544, zv_12_4544, zv_13_4544, zv_14_4544, zv_15_4544, zv_16_4544, zv_17_4544, zv_18_4544, zv_19_4544, zv_20_4544, zv_21_4544, zv_22_4544, zv_23_4544, zv_24_4544, zv_25_4544, zv_26_4544, zv_27_4544, zv_28_4544, zv_29_4544, zv_0_11, zv_1_11, zv_0_160, true_and, and_true, Nat.reduceAdd]
  exact ⟨zx_in (zx_get k w) h (by decide), by rw [zx_cl (zx_get k w) (by omega)]⟩
/-! ===== the tree of officers ===== -/
/-- bosses: the first has none, each other one's is told ahead -/
def zt_wf (n : Nat) (b : Nat → Int32) : Prop := n ≤ 10 ∧ (0 < n → b 0 = -1) ∧ ∀ i, 0 < i → i < n → ∃ j, j < i ∧ b i = nI j
theorem zt_wf.at {n : Nat} {b : Nat → Int32} (h : zt_wf n b) {i : Nat} (hi : i < n) : b i = -1 ∨ ∃ j, j < i ∧ j < n ∧ b i = nI j := by
  cases i with
  | zero => exact Or.inl (h.2.1 hi)
  | succ i =>
    obtain ⟨j, h1, h2⟩ := h.2.2 (i + 1) (by omega) hi
    exact Or.inr ⟨j, h1, by omega, h2⟩
theorem zt_ne {j : Nat} (h : j < 2 ^ 31) : ¬ nI j = -1 := fun e => by
  have := nI_toInt h
  rw [e] at this
  have h2 : (-1 : Int32).toInt = -1 := by decide
  omega
def zt_rkf (b : Nat → Int32) : Nat → Nat → Nat
  | 0, _ => 0
  | f + 1, p => if b p = -1 then 0 else zt_rkf b f (b p).toNatClampNeg + 1
def zt_rk (b : Nat → Int32) (p : Nat) : Nat := zt_rkf b (p + 1) p
theorem zt_rkf_ge {n : Nat} {b : Nat → Int32} (h : zt_wf n b) : ∀ (p f g : Nat), p < n → p < f → p < g → zt_rkf b f p = zt_rkf b g p := by
  intro p
  induction p using Nat.strongRecOn with
  | _ p ih =>
    intro f g hp hf hg
    obtain ⟨f, rfl⟩ : ∃ k, f = k + 1 := ⟨f - 1, by omega⟩
    obtain ⟨g, rfl⟩ : ∃ k, g = k + 1 := ⟨g - 1, by omega⟩
    simp only [zt_rkf]
    rcases h.at hp with e | ⟨j, h1, h2, e⟩
    · rw [if_pos e, if_pos e]
    · have hn : ¬ b p = -1 := by rw [e]; exact zt_ne (by have := h.1; omega)
      rw [if_neg hn, if_neg hn, e, nI_clamp (by have := h.1; omega), ih j h1 f g h2 (by omega) (by omega)]
theorem zt_rk_none {b : Nat → Int32} {p : Nat} (e : b p = -1) : zt_rk b p = 0 := by
  unfold zt_rk zt_rkf
  rw [if_pos e]
theorem zt_rk_boss {n : Nat} {b : Nat → Int32} (h : zt_wf n b) {p j : Nat} (hp : p < n) (hj : j < p) (e : b p = nI j) : zt_rk b p = zt_rk b j + 1 := by
  have hn : ¬ b p = -1 := by rw [e]; exact zt_ne (by have := h.1; omega)
  unfold zt_rk
  rw [zt_rkf, if_neg hn, e, nI_clamp (by have := h.1; omega), zt_rkf_ge h j p (j + 1) (by omega) hj (by omega)]
theorem c_rankOf {E : zm_E} (hE : zm_ok E.2.2.1 E.2.2.2.2) (d : Nat) {n p : Nat} {M : zm_M} (hw : zt_wf n (fun i => M.1 1 (90 + i))) (hp : p < n) : zm_R E (d + 1) mX12_rankOf [.ref 0, .int (nI p)] M (fun r M' => r = some (.int (nI (zt_rk (fun i => M.1 1 (90 + i)) p))) ∧ M' = M) := by
  refine zX12_rankOf hE rfl (fun G h0 h12 h33 => ?_)
  show G 0 [some (.ref 0), some (.int (nI p)), none, none] [] M
  have hn10 := hw.1
  have loop : ∀ (q c : Nat), q < n → c + zt_rk (fun i => M.1 1 (90 + i)) q = zt_rk (fun i => M.1 1 (90 + i)) p → G 12 [some (.ref 0), some (.int (nI p)), some (.int (nI c)), some (.int (M.1 1 (90 + q)))] [] M := by
    intro q
    induction q using Nat.strongRecOn with
    | _ q ih =>
      intro c hq hc
      refine h12 _ _ _ ?_
      simp only [bX12_rankOf_12, zw_0, zw_1, zs_iloadn3, zs_iconst, zs_iceq, zs_iinc2, zs_aloadn0, zs_aloadNn0, zg_12_7, zs_bipush, zs_iadd, zs_iaload, zs_istoren3, zs_goto, zc_none, zc_int, zc_ref, zc_null, zc_long, zb_0, za_1, za_2, za_3, za_4, za_5, za_6, za_7, za_8, za_9, za_10, za_11, za_12, za_13, za_14, zu_0, zu_1, zu_2, zu_3, zu_4, zu_5, zu_6, zu_7, zu_8, zu_9, zu_10, zu_11, zu_12, zu_13, zu_14, zu_15, zu_16, zu_17, zu_18, zu_19, zu_20, zu_21, zu_22, zu_23, zu_24, zu_25, zu_26, zu_27, zu_28, zu_29, zu_30, zu_90, zv_0_9, zv_1_9, zv_2_9, zv_3_9, zv_4_9, zv_5_9, zv_6_9, zv_7_9, zv_8_9, zv_0_330, zv_0_4544, zv_1_4544, zv_2_4544, zv_3_4544, zv_4_4544, zv_5_4544, zv_6_4544, zv_7_4544, zv_8_4544, zv_9_4544, zv_10_4544, zv_11_4544, zv_12_4544, zv_13_4544, zv_14_4544, zv_15_4544, zv_16_4544, zv_17_4544, zv_18_4544, zv_19_4544, zv_20_4544, zv_21_4544, zv_22_4544, zv_23_4544, zv_24_4544, zv_25_4544, zv_26_4544, zv_27_4544, zv_28_4544, zv_29_4544, zv_0_11, zv_1_11, zv_0_160, true_and, and_true, Nat.reduceAdd]
      rcases hw.at hq with e | ⟨j, h1, h2, e⟩
      · have e : M.1 1 (90 + q) = -1 := e
        refine ⟨fun _ => ?_, fun hne => absurd e hne⟩
        refine h33 _ _ _ ?_
        simp only [bX12_rankOf_33, zw_0, zw_1, zs_iloadn2, zs_ireturn, zn_int, zn_b0, zn_b1, zb_0, za_1, za_2, za_3, za_4, za_5, za_6, za_7, za_8, za_9, za_10, za_11, za_12, za_13, za_14, true_and, and_true, Nat.reduceAdd]
        rw [zt_rk_none (b := fun i => M.1 1 (90 + i)) (p := q) e, Nat.add_zero] at hc
        rw [hc]
      · have hr := zt_rk_boss hw hq h1 e
        have e : M.1 1 (90 + q) = nI j := e
        refine ⟨fun hne => absurd (e.symm.trans hne) (zt_ne (by omega)), fun _ => ⟨zx_in (n := 90 + j) (by rw [e]; exact zx_boss j) (by omega) (by decide), ?_⟩⟩
        rw [zx_cl (n := 90 + j) (by rw [e]; exact zx_boss j) (by omega), nI_1]
        exact ih j h1 (c + 1) h2 (by omega)
  refine h0 _ _ _ ?_
  simp only [bX12_rankOf_0, zw_0, zw_1, zs_iconst, zs_istoren2, zs_aloadn0, zs_aloadNn0, zg_12_7, zs_bipush, zs_iloadn1, zs_iadd, zs_iaload, zs_istoren3, zc_none, zc_int, zc_ref, zc_null, zc_long, zb_0, za_1, za_2, za_3, za_4, za_5, za_6, za_7, za_8, za_9, za_10, za_11, za_12, za_13, za_14, zu_0, zu_1, zu_2, zu_3, zu_4, zu_5, zu_6, zu_7, zu_8, zu_9, zu_10, zu_11, zu_12, zu_13, zu_14, zu_15, zu_16, zu_17, zu_18, zu_19, zu_20, zu_21, zu_22, zu_23, zu_24, zu_25, zu_26, zu_27, zu_28, zu_29, zu_30, zu_90, zv_0_9, zv_1_9, zv_2_9, zv_3_9, zv_4_9, zv_5_9, zv_6_9, zv_7_9, zv_8_9, zv_0_330, zv_0_4544, zv_1_4544, zv_2_4544, zv_3_4544, zv_4_4544, zv_5_4544, zv_6_4544, zv_7_4544, zv_8_4544, zv_9_4544, zv_10_4544, zv_11_4544, zv_12_4544, zv_13_4544, zv_14_4544, zv_15_4544, zv_16_4544, zv_17_4544, zv_18_4544, zv_19_4544, zv_20_4544, zv_21_4544, zv_22_4544, zv_23_4544, zv_24_4544, zv_25_4544, zv_26_4544, zv_27_4544, zv_28_4544, zv_29_4544, zv_0_11, zv_1_11, zv_0_160, true_and, and_true, Nat.reduceAdd]
  refine ⟨zx_in (zx_boss p) (by omega) (by decide), ?_⟩
  rw [zx_cl (zx_boss p) (by omega)]
  exact loop p 0 hp (by omega)
