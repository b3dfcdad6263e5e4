/-! ===== frames: which cells change ===== -/
def zf (L : List Nat) (M M' : zm_M) : Prop := ∀ q, q ∉ L → M'.1 q = M.1 q ∧ M'.2.1 q = M.2.1 q ∧ M'.2.2 q = M.2.2 q
theorem zf_refl {L : List Nat} {M : zm_M} : zf L M M := fun _ _ => ⟨rfl, rfl, rfl⟩
theorem zf_trans {L : List Nat} {M M' M'' : zm_M} (h : zf L M M') (h2 : zf L M' M'') : zf L M M'' := fun q hq => ⟨(h2 q hq).1.trans (h q hq).1, (h2 q hq).2.1.trans (h q hq).2.1, (h2 q hq).2.2.trans (h q hq).2.2⟩
theorem zf_sub {L L' : List Nat} {M M' : zm_M} (h : zf L M M') (hs : ∀ q, q ∈ L → q ∈ L') : zf L' M M' := fun q hq => h q (fun z => hq (hs q z))
theorem zf_wa {L : List Nat} {M M' : zm_M} {p : Nat} {f : Nat → Int32} (h : zf L M M') (hp : p ∈ L) : zf L M (zm_wa M' p f) := fun q hq => ⟨by rw [← (h q hq).1]; exact zm_wa_other (fun e => hq (e ▸ hp)), (h q hq).2⟩
theorem zf_wi {L : List Nat} {M M' : zm_M} {p k : Nat} {v : Int32} (h : zf L M M') (hp : p ∈ L) : zf L M (zm_wi M' p k v) := zf_wa h hp
theorem zf_wj {L : List Nat} {M M' : zm_M} {p k : Nat} {v : Int64} (h : zf L M M') (hp : p ∈ L) : zf L M (zm_wj M' p k v) := by
  intro q hq
  refine ⟨(h q hq).1, ?_, (h q hq).2.2⟩
  have e : ¬ q = p := fun e => hq (e ▸ hp)
  rw [← (h q hq).2.1]
  simp only [zm_wj, if_neg e]
theorem zf_wr {L : List Nat} {M M' : zm_M} {p k : Nat} {v : Option Nat} (h : zf L M M') (hp : p ∈ L) : zf L M (zm_wr M' p k v) := by
  intro q hq
  refine ⟨(h q hq).1, (h q hq).2.1, ?_⟩
  have e : ¬ q = p := fun e => hq (e ▸ hp)
  rw [← (h q hq).2.2]
  simp only [zm_wr, if_neg e]
/-- of a cell, only these slots change -/
def zg (p : Nat) (F : List Nat) (M M' : zm_M) : Prop := ∀ j, j ∉ F → M'.1 p j = M.1 p j
theorem zg_refl {p : Nat} {F : List Nat} {M : zm_M} : zg p F M M := fun _ _ => rfl
theorem zg_trans {p : Nat} {F : List Nat} {M M' M'' : zm_M} (h : zg p F M M') (h2 : zg p F M' M'') : zg p F M M'' := fun j hj => (h2 j hj).trans (h j hj)
theorem zg_sub {p : Nat} {F F' : List Nat} {M M' : zm_M} (h : zg p F M M') (hs : ∀ j, j ∈ F → j ∈ F') : zg p F' M M' := fun j hj => h j (fun z => hj (hs j z))
theorem zg_wi {p : Nat} {F : List Nat} {M M' : zm_M} {k : Nat} {v : Int32} (h : zg p F M M') (hk : k ∈ F) : zg p F M (zm_wi M' p k v) := fun j hj => by
  have hn : ¬ j = k := fun e => hj (e ▸ hk)
  rw [zm_wi_same, if_neg hn]
  exact h j hj
theorem zg_wo {p q : Nat} {F : List Nat} {M M' : zm_M} {k : Nat} {v : Int32} (h : zg p F M M') (hk : p ≠ q) : zg p F M (zm_wi M' q k v) := fun j hj => by rw [zm_wi_other hk]; exact h j hj
theorem zg_of {p : Nat} {F L : List Nat} {M M' : zm_M} (h : zf L M M') (hp : p ∉ L) : zg p F M M' := fun j _ => by rw [(h p hp).1]
/-! Arrays.fill -/
theorem c_fill {E : zm_E} (hE : zm_ok E.2.2.1 E.2.2.2.2) (d : Nat) {p N : Nat} (hp : zm_ar p 0 N) (hN : N < 2 ^ 31) (v : Int32) {M : zm_M} : zm_R E (d + 1) mJ7_fill_53178 [.ref p, .int v] M (fun r M' => r = none ∧ zf [p] M M' ∧ ∀ i, i < N → M'.1 p i = v) := by
  refine zJ7_fill_53178 hE rfl (fun G h0 h5 h20 => ?_)
  show G 0 [some (.ref p), some (.int v), none, none] [] M
  have e9 : zy_ly p = (100, N) := hp.2
  have l9 : (∃ t, t < 7 ∧ zm_ar p t (zy_ly p).2) = True := eq_true ⟨0, by decide, by rw [e9]; exact hp⟩
  have n9 : Int32.ofNat (zy_ly p).2 = nI N := by rw [e9]; rfl
  have loop : ∀ (f k : Nat) (M' : zm_M), k + f = N → zf [p] M M' → (∀ i, i < k → M'.1 p i = v) → G 5 [some (.ref p), some (.int v), some (.int (nI k)), some (.int (nI N))] [] M' := by
    intro f
    induction f with
    | zero =>
      intro k M' hk h1 h2
      have hk : k = N := by omega
      subst hk
      refine h5 _ _ _ ?_
      simp only [bJ7_fill_53178_5, zw_0, zw_1, zs_iloadn2, zs_iloadn3, zs_icge, zs_aloadn0, zs_aloadNn0, zs_iloadn1, zs_iastore, zs_iinc2, zs_goto, zc_none, zc_int, zc_ref, zc_null, zc_long, zb_15, zb_16, zb_17, za_18, za_19, za_20, za_21, za_22, zb_23, za_24, za_25, za_26, za_27, za_28, za_29, za_30, za_31, za_32, zb_35, za_36, za_37, za_38, za_39, za_40, zb_377, zb_378, za_379, za_380, za_381, za_382, za_383, zb_384, za_385, za_386, za_387, za_388, za_389, za_390, za_391, za_392, za_393, zb_396, za_397, za_398, za_399, za_400, za_401, zb_738, za_739, za_740, za_741, za_742, za_743, za_744, za_745, za_746, za_747, zb_748, za_749, za_750, zb_751, zb_752, za_753, za_754, za_755, za_756, zb_757, za_758, za_759, za_760, zb_761, za_763, za_764, za_765, zu_0, zu_1, zu_2, zu_3, zu_4, zu_5, zu_6, zu_7, zu_8, zu_9, zu_10, zu_11, zu_12, zu_13, zu_14, zu_15, zu_16, zu_17, zu_18, zu_19, zu_20, zu_21, zu_22, zu_23, zu_24, zu_25, zu_26, zu_27, zu_28, zu_29, zu_30, zu_90, zv_0_9, zv_1_9, zv_2_9, zv_3_9, zv_4_9, zv_5_9, zv_6_9, zv_7_9, zv_8_9, zv_0_330, zv_0_4544, zv_1_4544, zv_2_4544, zv_3_4544, zv_4_4544, zv_5_4544, zv_6_4544, zv_7_4544, zv_8_4544, zv_9_4544, zv_10_4544, zv_11_4544, zv_12_4544, zv_13_4544, zv_14_4544, zv_15_4544, zv_16_4544, zv_17_4544, zv_18_4544, zv_19_4544, zv_20_4544, zv_21_4544, zv_22_4544, zv_23_4544, zv_24_4544, zv_25_4544, zv_26_4544, zv_27_4544, zv_28_4544, zv_29_4544, zv_0_11, zv_1_11, zv_0_160, true_and, and_true, Nat.reduceAdd]
      refine ⟨fun _ => ?_, fun h => absurd (nI_le (Nat.le_refl _) hN) h⟩
      refine h20 _ _ _ ?_
      simp only [bJ7_fill_53178_20, zw_0, zw_1, zs_return, zn_int, zn_b0, zn_b1, zb_15, zb_16, zb_17, za_18, za_19, za_20, za_21, za_22, zb_23, za_24, za_25, za_26, za_27, za_28, za_29, za_30, za_31, za_32, zb_35, za_36, za_37, za_38, za_39, za_40, zb_377, zb_378, za_379, za_380, za_381, za_382, za_383, zb_384, za_385, za_386, za_387, za_388, za_389, za_390, za_391, za_392, za_393, zb_396, za_397, za_398, za_399, za_400, za_401, zb_738, za_739, za_740, za_741, za_742, za_743, za_744, za_745, za_746, za_747, zb_748, za_749, za_750, zb_751, zb_752, za_753, za_754, za_755, za_756, zb_757, za_758, za_759, za_760, zb_761, za_763, za_764, za_765, true_and, and_true, Nat.reduceAdd]
      exact ⟨h1, h2⟩
    | succ f ih =>
      intro k M' hk h1 h2
      have i0 : (∃ n, zm_ar p 0 n ∧ vp_in (nI k) n) = True := eq_true ⟨N, hp, vp_in_nI (by omega) hN⟩
      have i2 : (nI k).toNatClampNeg = k := nI_clamp (by omega)
      refine h5 _ _ _ ?_
      simp only [bJ7_fill_53178_5, zw_0, zw_1, zs_iloadn2, zs_iloadn3, zs_icge, zs_aloadn0, zs_aloadNn0, zs_iloadn1, zs_iastore, zs_iinc2, zs_goto, zc_none, zc_int, zc_ref, zc_null, zc_long, zb_15, zb_16, zb_17, za_18, za_19, za_20, za_21, za_22, zb_23, za_24, za_25, za_26, za_27, za_28, za_29, za_30, za_31, za_32, zb_35, za_36, za_37, za_38, za_39, za_40, zb_377, zb_378, za_379, za_380, za_381, za_382, za_383, zb_384, za_385, za_386, za_387, za_388, za_389, za_390, za_391, za_392, za_393, zb_396, za_397, za_398, za_399, za_400, za_401, zb_738, za_739, za_740, za_741, za_742, za_743, za_744, za_745, za_746, za_747, zb_748, za_749, za_750, zb_751, zb_752, za_753, za_754, za_755, za_756, zb_757, za_758, za_759, za_760, zb_761, za_763, za_764, za_765, zu_0, zu_1, zu_2, zu_3, zu_4, zu_5, zu_6, zu_7, zu_8, zu_9, zu_10, zu_11, zu_12, zu_13, zu_14, zu_15, zu_16, zu_17, zu_18, zu_19, zu_20, zu_21, zu_22, zu_23, zu_24, zu_25, zu_26, zu_27, zu_28, zu_29, zu_30, zu_90, zv_0_9, zv_1_9, zv_2_9, zv_3_9, zv_4_9, zv_5_9, zv_6_9, zv_7_9, zv_8_9, zv_0_330, zv_0_4544, zv_1_4544, zv_2_4544, zv_3_4544, zv_4_4544, zv_5_4544, zv_6_4544, zv_7_4544, zv_8_4544, zv_9_4544, zv_10_4544, zv_11_4544, zv_12_4544, zv_13_4544, zv_14_4544, zv_15_4544, zv_16_4544, zv_17_4544, zv_18_4544, zv_19_4544, zv_20_4544, zv_21_4544, zv_22_4544, zv_23_4544, zv_24_4544, zv_25_4544, zv_26_4544, zv_27_4544, zv_28_4544, zv_29_4544, zv_0_11, zv_1_11, zv_0_160, true_and, and_true, Nat.reduceAdd, i0, i2]
      refine ⟨fun h => absurd h (nI_ge (by omega) hN), fun _ => ?_⟩
      rw [nI_1]
      refine ih (k + 1) _ (by omega) (zf_wi h1 List.mem_cons_self) (fun i hi => ?_)
      rw [zm_wi_same]
      split
      · rfl
      · exact h2 i (by omega)
  refine h0 _ _ _ ?_
  simp only [bJ7_fill_53178_0, zw_0, zw_1, zs_iconst, zs_istoren2, zs_aloadn0, zs_aloadNn0, zs_arraylength, zs_istoren3, zc_none, zc_int, zc_ref, zc_null, zc_long, zb_15, zb_16, zb_17, za_18, za_19, za_20, za_21, za_22, zb_23, za_24, za_25, za_26, za_27, za_28, za_29, za_30, za_31, za_32, zb_35, za_36, za_37, za_38, za_39, za_40, zb_377, zb_378, za_379, za_380, za_381, za_382, za_383, zb_384, za_385, za_386, za_387, za_388, za_389, za_390, za_391, za_392, za_393, zb_396, za_397, za_398, za_399, za_400, za_401, zb_738, za_739, za_740, za_741, za_742, za_743, za_744, za_745, za_746, za_747, zb_748, za_749, za_750, zb_751, zb_752, za_753, za_754, za_755, za_756, zb_757, za_758, za_759, za_760, zb_761, za_763, za_764, za_765, true_and, and_true, Nat.reduceAdd, l9, n9]
  exact loop N 0 M (by omega) zf_refl (fun i hi => absurd hi (by omega))
/-! ===== sets of the pile ===== -/
def zs_t (sz : Nat → Int32) (S : Nat) : Nat → Int32 := zc_s (fun k => if S.testBit k then sz k else 0)
def zs_is (sz : Nat → Int32) (n : Nat) (t : Int32) (S : Nat) : Bool := decide (zs_t sz S n = t)
def zs_f (sz : Nat → Int32) (n : Nat) (t : Int32) (N : Nat) : Nat := zc_n (zs_is sz n t) N
def zs_w (sz : Nat → Int32) (n : Nat) (t : Int32) (k N : Nat) : Nat := zc_n (fun S => zs_is sz n t S && S.testBit k) N
theorem zc_s_c {f g : Nat → Int32} : ∀ n, (∀ i, i < n → f i = g i) → zc_s f n = zc_s g n := by
  intro n
  induction n with
  | zero => intro _; rfl
  | succ n ih => intro h; simp only [zc_s]; rw [ih (fun i hi => h i (by omega)), h n (by omega)]
theorem zc_n_c {f g : Nat → Bool} : ∀ n, (∀ i, i < n → f i = g i) → zc_n f n = zc_n g n := by
  intro n
  induction n with
  | zero => intro _; rfl
  | succ n ih => intro h; simp only [zc_n]; rw [ih (fun i hi => h i (by omega)), h n (by omega)]
theorem zs_is_c {f g : Nat → Int32} {n : Nat} (h : ∀ i, i < n → f i = g i) (t : Int32) : zs_is f n t = zs_is g n t := by
  funext S
  unfold zs_is zs_t
  rw [zc_s_c n (fun i hi => by rw [h i hi])]
theorem zs_f_le (sz : Nat → Int32) (n : Nat) (t : Int32) (N : Nat) : zs_f sz n t N ≤ N := zc_n_le _ _
theorem zs_w_le (sz : Nat → Int32) (n : Nat) (t : Int32) (k N : Nat) : zs_w sz n t k N ≤ zs_f sz n t N := by
  induction N with
  | zero => exact Nat.le_refl _
  | succ N ih =>
    unfold zs_w zs_f at ih ⊢
    simp only [zc_n]
    by_cases h1 : zs_is sz n t N = true <;> by_cases h2 : N.testBit k = true <;> simp [h1, h2] <;> omega
theorem zx_bit {S q : Nat} (hS : S < 2 ^ 31) (hq : q < 31) : (nI S >>> (nI q &&& 31)) &&& 1 = if S.testBit q then 1 else 0 := by
  have h := zx_has hS hq
  have h3 : (nI S >>> (nI q &&& 31)) &&& 1 = nI (S / 2 ^ q % 2) := by
    rw [pk_shrN hS (nI q &&& 31) q (zx_sm q hq)]
    exact pk_andN (Nat.lt_of_le_of_lt (Nat.div_le_self _ _) (by omega)) 1 rfl
  rw [h3]
  have h4 : S.testBit q = decide (S / 2 ^ q % 2 = 1) := by
    rw [Nat.testBit_eq_decide_div_mod_eq]
  rw [h4]
  rcases Nat.mod_two_eq_zero_or_one (S / 2 ^ q) with z | z <;> rw [z] <;> rfl
theorem c4_sumOf {E : zm_E} (hE : zm_ok E.2.2.1 E.2.2.2.2) (d : Nat) {n S : Nat} (hn : n ≤ 8) (hS : S < 2 ^ 31) {M : zm_M} (hc : M.1 35 0 = nI n) : zm_R E (d + 1) mX4_sumOf [.ref 35, .int (nI S)] M (fun r M' => r = some (.int (zs_t (M.1 36) S n)) ∧ M' = M) := by
  refine zX4_sumOf hE rfl (fun G h0 h4 h33 => ?_)
  show G 0 [some (.ref 35), some (.int (nI S)), none, none] [] M
  have loop : ∀ (f k : Nat), k + f = n → G 4 [some (.ref 35), some (.int (nI S)), some (.int (zs_t (M.1 36) S k)), some (.int (nI k))] [] M := by
    intro f
    induction f with
    | zero =>
      intro k hk
      have hk : k = n := by omega
      subst hk
      refine h4 _ _ _ ?_
      simp only [bX4_sumOf_4, zw_0, zw_1, zs_iloadn3, zs_aloadn0, zs_aloadNn0, zg_4_9, zs_icge, zs_iloadn2, zs_iloadn1, zs_ishr, zs_iconst, zs_iand, zg_4_18, zs_iaload, zs_imul, zs_iadd, zs_istoren2, zs_iinc3, zs_goto, zc_none, zc_int, zc_ref, zc_null, zc_long, zb_15, zb_16, zb_17, za_18, za_19, za_20, za_21, za_22, zb_23, za_24, za_25, za_26, za_27, za_28, za_29, za_30, za_31, za_32, zb_35, za_36, za_37, za_38, za_39, za_40, zb_377, zb_378, za_379, za_380, za_381, za_382, za_383, zb_384, za_385, za_386, za_387, za_388, za_389, za_390, za_391, za_392, za_393, zb_396, za_397, za_398, za_399, za_400, za_401, zb_738, za_739, za_740, za_741, za_742, za_743, za_744, za_745, za_746, za_747, zb_748, za_749, za_750, zb_751, zb_752, za_753, za_754, za_755, za_756, zb_757, za_758, za_759, za_760, zb_761, za_763, za_764, za_765, zu_0, zu_1, zu_2, zu_3, zu_4, zu_5, zu_6, zu_7, zu_8, zu_9, zu_10, zu_11, zu_12, zu_13, zu_14, zu_15, zu_16, zu_17, zu_18, zu_19, zu_20, zu_21, zu_22, zu_23, zu_24, zu_25, zu_26, zu_27, zu_28, zu_29, zu_30, zu_90, zv_0_9, zv_1_9, zv_2_9, zv_3_9, zv_4_9, zv_5_9, zv_6_9, zv_7_9, zv_8_9, zv_0_330, zv_0_4544, zv_1_4544, zv_2_4544, zv_3_4544, zv_4_4544, zv_5_4544, zv_6_4544, zv_7_4544, zv_8_4544, zv_9_4544, zv_10_4544, zv_11_4544, zv_12_4544, zv_13_4544, zv_14_4544, zv_15_4544, zv_16_4544, zv_17_4544, zv_18_4544, zv_19_4544, zv_20_4544, zv_21_4544, zv_22_4544, zv_23_4544, zv_24_4544, zv_25_4544, zv_26_4544, zv_27_4544, zv_28_4544, zv_29_4544, zv_0_11, zv_1_11, zv_0_160, true_and, and_true, Nat.reduceAdd, hc]
      refine ⟨fun _ => ?_, fun h => absurd (nI_le (Nat.le_refl _) (by omega)) h⟩
      refine h33 _ _ _ ?_
      simp only [bX4_sumOf_33, zw_0, zw_1, zs_iloadn2, zs_ireturn, zn_int, zn_b0, zn_b1, zb_15, zb_16, zb_17, za_18, za_19, za_20, za_21, za_22, zb_23, za_24, za_25, za_26, za_27, za_28, za_29, za_30, za_31, za_32, zb_35, za_36, za_37, za_38, za_39, za_40, zb_377, zb_378, za_379, za_380, za_381, za_382, za_383, zb_384, za_385, za_386, za_387, za_388, za_389, za_390, za_391, za_392, za_393, zb_396, za_397, za_398, za_399, za_400, za_401, zb_738, za_739, za_740, za_741, za_742, za_743, za_744, za_745, za_746, za_747, zb_748, za_749, za_750, zb_751, zb_752, za_753, za_754, za_755, za_756, zb_757, za_758, za_759, za_760, zb_761, za_763, za_764, za_765, true_and, and_true, Nat.reduceAdd]
    | succ f ih =>
      intro k hk
      have i1 : vp_in (nI k) 8 := vp_in_nI (by omega) (by decide)
      have i2 : (nI k).toNatClampNeg = k := nI_clamp (by omega)
      refine h4 _ _ _ ?_
      simp only [bX4_sumOf_4, zw_0, zw_1, zs_iloadn3, zs_aloadn0, zs_aloadNn0, zg_4_9, zs_icge, zs_iloadn2, zs_iloadn1, zs_ishr, zs_iconst, zs_iand, zg_4_18, zs_iaload, zs_imul, zs_iadd, zs_istoren2, zs_iinc3, zs_goto, zc_none, zc_int, zc_ref, zc_null, zc_long, zb_15, zb_16, zb_17, za_18, za_19, za_20, za_21, za_22, zb_23, za_24, za_25, za_26, za_27, za_28, za_29, za_30, za_31, za_32, zb_35, za_36, za_37, za_38, za_39, za_40, zb_377, zb_378, za_379, za_380, za_381, za_382, za_383, zb_384, za_385, za_386, za_387, za_388, za_389, za_390, za_391, za_392, za_393, zb_396, za_397, za_398, za_399, za_400, za_401, zb_738, za_739, za_740, za_741, za_742, za_743, za_744, za_745, za_746, za_747, zb_748, za_749, za_750, zb_751, zb_752, za_753, za_754, za_755, za_756, zb_757, za_758, za_759, za_760, zb_761, za_763, za_764, za_765, zu_0, zu_1, zu_2, zu_3, zu_4, zu_5, zu_6, zu_7, zu_8, zu_9, zu_10, zu_11, zu_12, zu_13, zu_14, zu_15, zu_16, zu_17, zu_18, zu_19, zu_20, zu_21, zu_22, zu_23, zu_24, zu_25, zu_26, zu_27, zu_28, zu_29, zu_30, zu_90, zv_0_9, zv_1_9, zv_2_9, zv_3_9, zv_4_9, zv_5_9, zv_6_9, zv_7_9, zv_8_9, zv_0_330, zv_0_4544, zv_1_4544, zv_2_4544, zv_3_4544, zv_4_4544, zv_5_4544, zv_6_4544, zv_7_4544, zv_8_4544, zv_9_4544, zv_10_4544, zv_11_4544, zv_12_4544, zv_13_4544, zv_14_4544, zv_15_4544, zv_16_4544, zv_17_4544, zv_18_4544, zv_19_4544, zv_20_4544, zv_21_4544, zv_22_4544, zv_23_4544, zv_24_4544, zv_25_4544, zv_26_4544, zv_27_4544, zv_28_4544, zv_29_4544, zv_0_11, zv_1_11, zv_0_160, true_and, and_true, Nat.reduceAdd, hc, i1, i2]
      refine ⟨fun h => absurd h (nI_ge (by omega) (by omega)), fun _ => ?_⟩
      rw [nI_1]
      have e : zs_t (M.1 36) S k + (nI S >>> (nI k &&& 31) &&& 1) * M.1 36 k = zs_t (M.1 36) S (k + 1) := by
        rw [zx_bit hS (by omega)]
        show _ = zs_t (M.1 36) S k + (if S.testBit k = true then M.1 36 k else 0)
        by_cases hb : S.testBit k = true
        · rw [if_pos hb, if_pos hb, Int32.one_mul]
        · rw [if_neg hb, if_neg hb, Int32.zero_mul]
      rw [e]
      exact ih (k + 1) (by omega)
  refine h0 _ _ _ ?_
  simp only [bX4_sumOf_0, zw_0, zw_1, zs_iconst, zs_istoren2, zs_istoren3, zc_none, zc_int, zc_ref, zc_null, zc_long, zb_15, zb_16, zb_17, za_18, za_19, za_20, za_21, za_22, zb_23, za_24, za_25, za_26, za_27, za_28, za_29, za_30, za_31, za_32, zb_35, za_36, za_37, za_38, za_39, za_40, zb_377, zb_378, za_379, za_380, za_381, za_382, za_383, zb_384, za_385, za_386, za_387, za_388, za_389, za_390, za_391, za_392, za_393, zb_396, za_397, za_398, za_399, za_400, za_401, zb_738, za_739, za_740, za_741, za_742, za_743, za_744, za_745, za_746, za_747, zb_748, za_749, za_750, zb_751, zb_752, za_753, za_754, za_755, za_756, zb_757, za_758, za_759, za_760, zb_761, za_763, za_764, za_765, true_and, and_true, Nat.reduceAdd]
  exact loop n 0 (by omega)
/-- what the counting of the sets leaves: the count at (p, s), those it is in from (q, 0) on -/
def zs_lay (M M' : zm_M) (p s q m : Nat) (sz : Nat → Int32) (n : Nat) (t : Int32) (N : Nat) : Prop := zf [p, q] M M' ∧ zg p [s] M M' ∧ M'.1 p s = nI (zs_f sz n t N) ∧ ∀ k, k < m → M'.1 q k = nI (zs_w sz n t k N)
theorem c4_countSets {E : zm_E} (hE : zm_ok E.2.2.1 E.2.2.2.2) (d : Nat) {n : Nat} (hn : n ≤ 8) (t : Int32) {M : zm_M} (hc : M.1 35 0 = nI n) {Q : Option Value → zm_M → Prop} (q : ∀ M', zs_lay M M' 35 1 37 n (M.1 36) n t (2 ^ n) → Q none M') : zm_R E (d + 2) mX4_countSets [.ref 35, .int t] M Q := by
  refine zX4_countSets hE rfl (fun G h0 h15 h46 h74 h80 => ?_)
  show G 0 [some (.ref 35), some (.int t), none, none] [] M
  have hN : 2 ^ n ≤ 256 := by
    have := Nat.pow_le_pow_right (n := 2) (by decide) hn
    exact this
  have e1 : (1 : Int32) <<< (nI n &&& 31) = nI (2 ^ n) := zx_1s n (by omega)
  have loop : ∀ (f S : Nat) (M' : zm_M) (l3 : Option Value), S + f = 2 ^ n → zs_lay M M' 35 1 37 n (M.1 36) n t S → G 15 [some (.ref 35), some (.int t), some (.int (nI S)), l3] [] M' := by
    intro f
    induction f with
    | zero =>
      intro S M' l3 hS hL
      have hS : S = 2 ^ n := by omega
      subst hS
      have hc' : M'.1 35 0 = nI n := by rw [hL.2.1 0 (by decide)]; exact hc
      refine h15 _ _ _ ?_
      simp only [bX4_countSets_15, zw_0, zw_1, zs_iloadn2, zs_iconst, zs_aloadn0, zs_aloadNn0, zg_4_9, zs_ishl, zs_icge, zi_4_37, zs_iloadn1, zs_icne, zs_dupi, zs_dupr, zs_dupn, zg_4_15, zs_iadd, zq_4_15, zs_istoren3, zc_none, zc_int, zc_ref, zc_null, zc_long, zh_0, zh_1, zh_2, zh_3, zh_4, zt_i, zt_l, zt_r, zt_n, zb_15, zb_16, zb_17, za_18, za_19, za_20, za_21, za_22, zb_23, za_24, za_25, za_26, za_27, za_28, za_29, za_30, za_31, za_32, zb_35, za_36, za_37, za_38, za_39, za_40, zb_377, zb_378, za_379, za_380, za_381, za_382, za_383, zb_384, za_385, za_386, za_387, za_388, za_389, za_390, za_391, za_392, za_393, zb_396, za_397, za_398, za_399, za_400, za_401, zb_738, za_739, za_740, za_741, za_742, za_743, za_744, za_745, za_746, za_747, zb_748, za_749, za_750, zb_751, zb_752, za_753, za_754, za_755, za_756, zb_757, za_758, za_759, za_760, zb_761, za_763, za_764, za_765, true_and, and_true, Nat.reduceAdd, hc', e1]
      refine ⟨fun _ => ?_, fun h => absurd (nI_le (Nat.le_refl _) (by omega)) h⟩
      refine h80 _ _ _ ?_
      simp only [bX4_countSets_80, zw_0, zw_1, zs_return, zn_int, zn_b0, zn_b1, zb_15, zb_16, zb_17, za_18, za_19, za_20, za_21, za_22, zb_23, za_24, za_25, za_26, za_27, za_28, za_29, za_30, za_31, za_32, zb_35, za_36, za_37, za_38, za_39, za_40, zb_377, zb_378, za_379, za_380, za_381, za_382, za_383, zb_384, za_385, za_386, za_387, za_388, za_389, za_390, za_391, za_392, za_393, zb_396, za_397, za_398, za_399, za_400, za_401, zb_738, za_739, za_740, za_741, za_742, za_743, za_744, za_745, za_746, za_747, zb_748, za_749, za_750, zb_751, zb_752, za_753, za_754, za_755, za_756, zb_757, za_758, za_759, za_760, zb_761, za_763, za_764, za_765, true_and, and_true, Nat.reduceAdd]
      exact q M' hL
    | succ f ih =>
      intro S M' l3 hS hL
      have hc' : M'.1 35 0 = nI n := by rw [hL.2.1 0 (by decide)]; exact hc
      have e36 : M'.1 36 = M.1 36 := (hL.1 36 (by decide)).1
      have next : ∀ (M' : zm_M) (l3 : Option Value), zs_lay M M' 35 1 37 n (M.1 36) n t (S + 1) → G 74 [some (.ref 35), some (.int t), some (.int (nI S)), l3] [] M' := by
        intro M' l3 hL
        refine h74 _ _ _ ?_
        simp only [bX4_countSets_74, zw_0, zw_1, zs_iinc2, zs_goto, zc_none, zc_int, zc_ref, zc_null, zc_long, zb_15, zb_16, zb_17, za_18, za_19, za_20, za_21, za_22, zb_23, za_24, za_25, za_26, za_27, za_28, za_29, za_30, za_31, za_32, zb_35, za_36, za_37, za_38, za_39, za_40, zb_377, zb_378, za_379, za_380, za_381, za_382, za_383, zb_384, za_385, za_386, za_387, za_388, za_389, za_390, za_391, za_392, za_393, zb_396, za_397, za_398, za_399, za_400, za_401, zb_738, za_739, za_740, za_741, za_742, za_743, za_744, za_745, za_746, za_747, zb_748, za_749, za_750, zb_751, zb_752, za_753, za_754, za_755, za_756, zb_757, za_758, za_759, za_760, zb_761, za_763, za_764, za_765, true_and, and_true, Nat.reduceAdd]
        rw [nI_1]
        exact ih (S + 1) M' l3 (by omega) hL
      refine h15 _ _ _ ?_
      simp only [bX4_countSets_15, zw_0, zw_1, zs_iloadn2, zs_iconst, zs_aloadn0, zs_aloadNn0, zg_4_9, zs_ishl, zs_icge, zi_4_37, zs_iloadn1, zs_icne, zs_dupi, zs_dupr, zs_dupn, zg_4_15, zs_iadd, zq_4_15, zs_istoren3, zc_none, zc_int, zc_ref, zc_null, zc_long, zh_0, zh_1, zh_2, zh_3, zh_4, zt_i, zt_l, zt_r, zt_n, zb_15, zb_16, zb_17, za_18, za_19, za_20, za_21, za_22, zb_23, za_24, za_25, za_26, za_27, za_28, za_29, za_30, za_31, za_32, zb_35, za_36, za_37, za_38, za_39, za_40, zb_377, zb_378, za_379, za_380, za_381, za_382, za_383, zb_384, za_385, za_386, za_387, za_388, za_389, za_390, za_391, za_392, za_393, zb_396, za_397, za_398, za_399, za_400, za_401, zb_738, za_739, za_740, za_741, za_742, za_743, za_744, za_745, za_746, za_747, zb_748, za_749, za_750, zb_751, zb_752, za_753, za_754, za_755, za_756, zb_757, za_758, za_759, za_760, zb_761, za_763, za_764, za_765, true_and, and_true, Nat.reduceAdd, hc', e1]
      refine ⟨fun h => absurd h (nI_ge (by omega) (by omega)), fun _ => ?_⟩
      refine zm_R_eq (c4_sumOf hE d hn (by omega) hc') ?_
      rw [e36]
      simp only [bX4_countSets_15, zw_0, zw_1, zs_iloadn2, zs_iconst, zs_aloadn0, zs_aloadNn0, zg_4_9, zs_ishl, zs_icge, zi_4_37, zs_iloadn1, zs_icne, zs_dupi, zs_dupr, zs_dupn, zg_4_15, zs_iadd, zq_4_15, zs_istoren3, zc_none, zc_int, zc_ref, zc_null, zc_long, zh_0, zh_1, zh_2, zh_3, zh_4, zt_i, zt_l, zt_r, zt_n, zb_15, zb_16, zb_17, za_18, za_19, za_20, za_21, za_22, zb_23, za_24, za_25, za_26, za_27, za_28, za_29, za_30, za_31, za_32, zb_35, za_36, za_37, za_38, za_39, za_40, zb_377, zb_378, za_379, za_380, za_381, za_382, za_383, zb_384, za_385, za_386, za_387, za_388, za_389, za_390, za_391, za_392, za_393, zb_396, za_397, za_398, za_399, za_400, za_401, zb_738, za_739, za_740, za_741, za_742, za_743, za_744, za_745, za_746, za_747, zb_748, za_749, za_750, zb_751, zb_752, za_753, za_754, za_755, za_756, zb_757, za_758, za_759, za_760, zb_761, za_763, za_764, za_765, true_and, and_true, Nat.reduceAdd]
      refine ⟨fun h => next _ _ ?_, fun h => ?_⟩
      · have hz : zs_is (M.1 36) n t S = false := by unfold zs_is; simp [h]
        refine ⟨hL.1, hL.2.1, ?_, fun k hk => ?_⟩
        · rw [hL.2.2.1]; unfold zs_f; simp only [zc_n, hz]; simp
        · rw [hL.2.2.2 k hk]; unfold zs_w; simp only [zc_n, hz]; simp
      · have hz : zs_is (M.1 36) n t S = true := by unfold zs_is; simp [h]
        have inner : ∀ (g k : Nat) (M2 : zm_M), k + g = n → zf [35, 37] M M2 → zg 35 [1] M M2 → M2.1 35 1 = nI (zs_f (M.1 36) n t (S + 1)) → (∀ j, j < n → M2.1 37 j = nI (zs_w (M.1 36) n t j (if j < k then S + 1 else S))) → G 46 [some (.ref 35), some (.int t), some (.int (nI S)), some (.int (nI k))] [] M2 := by
          intro g
          induction g with
          | zero =>
            intro k M2 hk f1 f2 f3 f4
            have hk : k = n := by omega
            subst hk
            have hc2 : M2.1 35 0 = nI k := by rw [f2 0 (by decide)]; exact hc
            refine h46 _ _ _ ?_
            simp only [bX4_countSets_46, zw_0, zw_1, zs_iloadn3, zs_aloadn0, zs_aloadNn0, zg_4_9, zs_icge, zg_4_22, zs_dup2, zs_iaload, zs_iloadn2, zs_ishr, zs_iconst, zs_iand, zs_iadd, zs_iastore, zs_iinc3, zs_goto, zc_none, zc_int, zc_ref, zc_null, zc_long, zb_15, zb_16, zb_17, za_18, za_19, za_20, za_21, za_22, zb_23, za_24, za_25, za_26, za_27, za_28, za_29, za_30, za_31, za_32, zb_35, za_36, za_37, za_38, za_39, za_40, zb_377, zb_378, za_379, za_380, za_381, za_382, za_383, zb_384, za_385, za_386, za_387, za_388, za_389, za_390, za_391, za_392, za_393, zb_396, za_397, za_398, za_399, za_400, za_401, zb_738, za_739, za_740, za_741, za_742, za_743, za_744, za_745, za_746, za_747, zb_748, za_749, za_750, zb_751, zb_752, za_753, za_754, za_755, za_756, zb_757, za_758, za_759, za_760, zb_761, za_763, za_764, za_765, zu_0, zu_1, zu_2, zu_3, zu_4, zu_5, zu_6, zu_7, zu_8, zu_9, zu_10, zu_11, zu_12, zu_13, zu_14, zu_15, zu_16, zu_17, zu_18, zu_19, zu_20, zu_21, zu_22, zu_23, zu_24, zu_25, zu_26, zu_27, zu_28, zu_29, zu_30, zu_90, zv_0_9, zv_1_9, zv_2_9, zv_3_9, zv_4_9, zv_5_9, zv_6_9, zv_7_9, zv_8_9, zv_0_330, zv_0_4544, zv_1_4544, zv_2_4544, zv_3_4544, zv_4_4544, zv_5_4544, zv_6_4544, zv_7_4544, zv_8_4544, zv_9_4544, zv_10_4544, zv_11_4544, zv_12_4544, zv_13_4544, zv_14_4544, zv_15_4544, zv_16_4544, zv_17_4544, zv_18_4544, zv_19_4544, zv_20_4544, zv_21_4544, zv_22_4544, zv_23_4544, zv_24_4544, zv_25_4544, zv_26_4544, zv_27_4544, zv_28_4544, zv_29_4544, zv_0_11, zv_1_11, zv_0_160, true_and, and_true, Nat.reduceAdd, hc2]
            refine ⟨fun _ => next _ _ ⟨f1, f2, f3, fun j hj => ?_⟩, fun h => absurd (nI_le (Nat.le_refl _) (by omega)) h⟩
            rw [f4 j hj, if_pos hj]
          | succ g ihg =>
            intro k M2 hk f1 f2 f3 f4
            have hc2 : M2.1 35 0 = nI n := by rw [f2 0 (by decide)]; exact hc
            have i1 : vp_in (nI k) 8 := vp_in_nI (by omega) (by decide)
            have i2 : (nI k).toNatClampNeg = k := nI_clamp (by omega)
            refine h46 _ _ _ ?_
            simp only [bX4_countSets_46, zw_0, zw_1, zs_iloadn3, zs_aloadn0, zs_aloadNn0, zg_4_9, zs_icge, zg_4_22, zs_dup2, zs_iaload, zs_iloadn2, zs_ishr, zs_iconst, zs_iand, zs_iadd, zs_iastore, zs_iinc3, zs_goto, zc_none, zc_int, zc_ref, zc_null, zc_long, zb_15, zb_16, zb_17, za_18, za_19, za_20, za_21, za_22, zb_23, za_24, za_25, za_26, za_27, za_28, za_29, za_30, za_31, za_32, zb_35, za_36, za_37, za_38, za_39, za_40, zb_377, zb_378, za_379, za_380, za_381, za_382, za_383, zb_384, za_385, za_386, za_387, za_388, za_389, za_390, za_391, za_392, za_393, zb_396, za_397, za_398, za_399, za_400, za_401, zb_738, za_739, za_740, za_741, za_742, za_743, za_744, za_745, za_746, za_747, zb_748, za_749, za_750, zb_751, zb_752, za_753, za_754, za_755, za_756, zb_757, za_758, za_759, za_760, zb_761, za_763, za_764, za_765, zu_0, zu_1, zu_2, zu_3, zu_4, zu_5, zu_6, zu_7, zu_8, zu_9, zu_10, zu_11, zu_12, zu_13, zu_14, zu_15, zu_16, zu_17, zu_18, zu_19, zu_20, zu_21, zu_22, zu_23, zu_24, zu_25, zu_26, zu_27, zu_28, zu_29, zu_30, zu_90, zv_0_9, zv_1_9, zv_2_9, zv_3_9, zv_4_9, zv_5_9, zv_6_9, zv_7_9, zv_8_9, zv_0_330, zv_0_4544, zv_1_4544, zv_2_4544, zv_3_4544, zv_4_4544, zv_5_4544, zv_6_4544, zv_7_4544, zv_8_4544, zv_9_4544, zv_10_4544, zv_11_4544, zv_12_4544, zv_13_4544, zv_14_4544, zv_15_4544, zv_16_4544, zv_17_4544, zv_18_4544, zv_19_4544, zv_20_4544, zv_21_4544, zv_22_4544, zv_23_4544, zv_24_4544, zv_25_4544, zv_26_4544, zv_27_4544, zv_28_4544, zv_29_4544, zv_0_11, zv_1_11, zv_0_160, true_and, and_true, Nat.reduceAdd, hc2, i1, i2]
            refine ⟨fun h => absurd h (nI_ge (by omega) (by omega)), fun _ => ?_⟩
            rw [nI_1]
            refine ihg (k + 1) _ (by omega) (zf_wi f1 (by decide)) (zg_wo f2 (by decide)) (by rw [zm_wi_other (by decide)]; exact f3) (fun j hj => ?_)
            rw [zm_wi_same]
            split
            · next e =>
              subst e
              rw [if_pos (by omega), f4 j hj, if_neg (by omega), zx_bit (by omega) (by omega)]
              unfold zs_w
              simp only [zc_n, hz, Bool.true_and]
              split
              · rw [show (1 : Int32) = nI 1 from rfl, nI_add]
              · simp
            · next e =>
              rw [f4 j hj]
              by_cases hj2 : j < k
              · rw [if_pos hj2, if_pos (by omega)]
              · rw [if_neg hj2, if_neg (by omega)]
        refine inner n 0 _ (by omega) (zf_wi hL.1 (by decide)) (zg_wi hL.2.1 (by decide)) ?_ (fun j hj => ?_)
        · rw [zm_wi_same, if_pos rfl, hL.2.2.1, nI_1]
          unfold zs_f
          simp only [zc_n, hz, if_true]
        · rw [zm_wi_other (by decide), hL.2.2.2 j hj, if_neg (by omega)]
  refine h0 _ _ _ ?_
  simp only [bX4_countSets_0, zw_0, zw_1, zs_aloadn0, zs_aloadNn0, zs_iconst, zq_4_15, zg_4_22, zi_4_31, zs_istoren2, zc_none, zc_int, zc_ref, zc_null, zc_long, zh_0, zh_1, zh_2, zh_3, zh_4, zt_i, zt_l, zt_r, zt_n, zb_15, zb_16, zb_17, za_18, za_19, za_20, za_21, za_22, zb_23, za_24, za_25, za_26, za_27, za_28, za_29, za_30, za_31, za_32, zb_35, za_36, za_37, za_38, za_39, za_40, zb_377, zb_378, za_379, za_380, za_381, za_382, za_383, zb_384, za_385, za_386, za_387, za_388, za_389, za_390, za_391, za_392, za_393, zb_396, za_397, za_398, za_399, za_400, za_401, zb_738, za_739, za_740, za_741, za_742, za_743, za_744, za_745, za_746, za_747, zb_748, za_749, za_750, zb_751, zb_752, za_753, za_754, za_755, za_756, zb_757, za_758, za_759, za_760, zb_761, za_763, za_764, za_765, true_and, and_true, Nat.reduceAdd]
  have h37 : zm_ar 37 0 8 := ⟨by decide, by decide +kernel⟩
  refine zm_R_mono (c_fill hE d h37 (by decide) 0) ?_
  rintro _ M1 ⟨rfl, f1, f2⟩
  simp only [bX4_countSets_0, zw_0, zw_1, zs_aloadn0, zs_aloadNn0, zs_iconst, zq_4_15, zg_4_22, zi_4_31, zs_istoren2, zc_none, zc_int, zc_ref, zc_null, zc_long, zh_0, zh_1, zh_2, zh_3, zh_4, zt_i, zt_l, zt_r, zt_n, zb_15, zb_16, zb_17, za_18, za_19, za_20, za_21, za_22, zb_23, za_24, za_25, za_26, za_27, za_28, za_29, za_30, za_31, za_32, zb_35, za_36, za_37, za_38, za_39, za_40, zb_377, zb_378, za_379, za_380, za_381, za_382, za_383, zb_384, za_385, za_386, za_387, za_388, za_389, za_390, za_391, za_392, za_393, zb_396, za_397, za_398, za_399, za_400, za_401, zb_738, za_739, za_740, za_741, za_742, za_743, za_744, za_745, za_746, za_747, zb_748, za_749, za_750, zb_751, zb_752, za_753, za_754, za_755, za_756, zb_757, za_758, za_759, za_760, zb_761, za_763, za_764, za_765, true_and, and_true, Nat.reduceAdd]
  refine loop (2 ^ n) 0 M1 none (by omega) ⟨?_, ?_, ?_, fun k hk => ?_⟩
  · exact zf_trans (zf_wi zf_refl (by decide)) (zf_sub f1 (by decide))
  · exact zg_trans (zg_wi zg_refl (by decide)) (zg_of f1 (by decide))
  · rw [(f1 35 (by decide)).1, zm_wi_same, if_pos rfl]; rfl
  · rw [f2 k (by omega)]; rfl
