/-! ===== the class: a day ===== -/
theorem c2_name {E : zm_E} (hE : zm_ok E.2.2.1 E.2.2.2.2) (d : Nat) {p : Nat} (hp : p < 10) (fr to : Int32) {M : zm_M} {Q : Option Value → zm_M → Prop} (q : ∀ M', (∀ i, M'.1 749 i = if i = 2 then nI p else if i = 3 then M.1 19 p else if i = 4 then M.1 20 p else if i = 5 then fr else if i = 6 then to else M.1 749 i) → zf [749] M M' → Q none M') : zm_R E (d + 1) mX2_name [.ref 748, .int (nI p), .int fr, .int to] M Q := by
  refine zX2_name hE rfl (fun G h0 => ?_)
  show G 0 [some (.ref 748), some (.int (nI p)), some (.int fr), some (.int to)] [] M
  have v1 : vp_in (nI p) 10 := vp_in_nI hp (by decide)
  have v2 : (nI p).toNatClampNeg = p := nI_clamp (by omega)
  have r19 : ∀ (M : zm_M) (k : Nat) (v : Int32), (zm_wi M 749 k v).1 19 = M.1 19 := fun M k v => zm_wi_other (by decide)
  have r20 : ∀ (M : zm_M) (k : Nat) (v : Int32), (zm_wi M 749 k v).1 20 = M.1 20 := fun M k v => zm_wi_other (by decide)
  refine h0 _ _ _ ?_
  simp only [bX2_name_0, zw_0, zw_1, zs_aloadn0, zs_aloadNn0, zg_2_9, zs_iconst, zs_iloadn1, zs_iastore, zg_2_22, zg_2_26, zs_iaload, zg_2_31, zs_iloadn2, zs_bipush, zs_iloadn3, zs_return, zn_int, zn_b0, zn_b1, zb_15, zb_16, zb_17, za_18, za_19, za_20, za_21, za_22, zb_23, za_24, za_25, za_26, za_27, za_28, za_29, za_30, za_31, za_32, zb_35, za_36, za_37, za_38, za_39, za_40, zb_377, zb_378, za_379, za_380, za_381, za_382, za_383, zb_384, za_385, za_386, za_387, za_388, za_389, za_390, za_391, za_392, za_393, zb_396, za_397, za_398, za_399, za_400, za_401, zb_738, za_739, za_740, za_741, za_742, za_743, za_744, za_745, za_746, za_747, zb_748, za_749, za_750, zb_751, zb_752, za_753, za_754, za_755, za_756, zb_757, za_758, za_759, za_760, zb_761, za_763, za_764, za_765, zu_0, zu_1, zu_2, zu_3, zu_4, zu_5, zu_6, zu_7, zu_8, zu_9, zu_10, zu_11, zu_12, zu_13, zu_14, zu_15, zu_16, zu_17, zu_18, zu_19, zu_20, zu_21, zu_22, zu_23, zu_24, zu_25, zu_26, zu_27, zu_28, zu_29, zu_30, zu_90, zv_0_9, zv_1_9, zv_2_9, zv_3_9, zv_4_9, zv_5_9, zv_6_9, zv_7_9, zv_8_9, zv_0_330, zv_0_4544, zv_1_4544, zv_2_4544, zv_3_4544, zv_4_4544, zv_5_4544, zv_6_4544, zv_7_4544, zv_8_4544, zv_9_4544, zv_10_4544, zv_11_4544, zv_12_4544, zv_13_4544, zv_14_4544, zv_15_4544, zv_16_4544, zv_17_4544, zv_18_4544, zv_19_4544, zv_20_4544, zv_21_4544, zv_22_4544, zv_23_4544, zv_24_4544, zv_25_4544, zv_26_4544, zv_27_4544, zv_28_4544, zv_29_4544, zv_0_11, zv_1_11, zv_0_160, true_and, and_true, Nat.reduceAdd, v1, v2, r19, r20]
  refine q _ (fun i => ?_) ?_
  · simp only [zm_wi_same]
    by_cases c6 : i = 6
    · subst c6; rfl
    · by_cases c5 : i = 5
      · subst c5; rfl
      · by_cases c4 : i = 4
        · subst c4; rfl
        · by_cases c3 : i = 3
          · subst c3; rfl
          · by_cases c2 : i = 2
            · subst c2; rfl
            · simp only [c2, c3, c4, c5, c6, if_false]
  · refine zf_wi (zf_wi (zf_wi (zf_wi (zf_wi zf_refl ?_) ?_) ?_) ?_) ?_ <;> decide
/-- staff, as the class has it -/
def zc_s9 (n : Nat) (b pr : Nat → Int32) (M : zm_M) : Prop := zs_rk n M ∧ M.1 17 0 = nI n ∧ (∀ i, i < n → M.1 18 i = b i) ∧ (∀ i, i < n → M.1 19 i = pr i) ∧ (∀ i, i < n → zq_ok (pr i).toInt)
theorem zc_s9_f {n : Nat} {b pr : Nat → Int32} {M M' : zm_M} {L : List Nat} (h : zc_s9 n b pr M) (hf : zf L M M') (h17 : 17 ∉ L) (h18 : 18 ∉ L) (h19 : 19 ∉ L) (h20 : 20 ∉ L) : zc_s9 n b pr M' := by
  obtain ⟨⟨a1, a2⟩, a3, a4, a5, a6⟩ := h
  refine ⟨⟨by rw [(hf 18 h18).1]; exact a1, fun i hi => by rw [(hf 18 h18).1, (hf 20 h20).1]; exact a2 i hi⟩, by rw [(hf 17 h17).1]; exact a3, fun i hi => by rw [(hf 18 h18).1]; exact a4 i hi, fun i hi => by rw [(hf 19 h19).1]; exact a5 i hi, a6⟩
def zN (M : zm_M) : Prop := ∀ i, i < 9 → zq_ok (M.1 749 i).toInt
/-- the law at hand: lw, which says T -/
def zc_T (M : zm_M) (lw : Value) (T : Nat → Option zD) : Prop := (lw = .null ∧ ∀ w, w ≤ 2 → T w = none) ∨ ∃ L, lw = .ref L ∧ zl_ok L ∧ ∀ w, w ≤ 2 → zl_law M L w (T w)
theorem zc_T_f {M M' : zm_M} {lw : Value} {T : Nat → Option zD} {L : List Nat} (h : zc_T M lw T) (hf : zf L M M') (hL : ∀ q, q ∈ L → q < 41 ∨ 738 ≤ q) : zc_T M' lw T := by
  rcases h with h | ⟨q, h1, h2, h3⟩
  · exact Or.inl h
  · refine Or.inr ⟨q, h1, h2, fun w hw => zl_law_c (h3 w hw) (fun j a b => (hf _ (fun z => ?_)).1)⟩
    have := hL _ z
    have := h2.1
    omega
theorem zc_T_w {M : zm_M} {lw : Value} {T : Nat → Option zD} (h : zc_T M lw T) (w : Nat) (hw : w ≤ 2) : ∃ L, (lw = .null ∧ T w = none) ∨ (lw = .ref L ∧ zl_ok L ∧ zl_law M L w (T w)) := by
  rcases h with ⟨h1, h2⟩ | ⟨L, h1, h2, h3⟩
  · exact ⟨0, Or.inl ⟨h1, h2 w hw⟩⟩
  · exact ⟨L, Or.inr ⟨h1, h2, h3 w hw⟩⟩
theorem zc_T_e {M : zm_M} {lw : Value} {T : Nat → Option zD} (h : zc_T M lw T) : lw = .null ∨ ∃ L, lw = .ref L := by
  rcases h with ⟨h1, -⟩ | ⟨L, h1, -⟩
  · exact Or.inl h1
  · exact Or.inr ⟨L, h1⟩
theorem zq_rk_e {n : Nat} {b c : Nat → Int32} (h : zt_wf n b) (e : ∀ i, i < n → b i = c i) : zq_rk n b = zq_rk n c := by
  funext v
  unfold zq_rk
  split
  · next hv => rw [zt_rk_c h e v.toNat (by omega)]
  · rfl
theorem c0_nameFor {E : zm_E} (hE : zm_ok E.2.2.1 E.2.2.2.2) (d : Nat) {n w k p : Nat} {b pr : Nat → Int32} (hw : zw_ok w) {M : zm_M} {S : zW} (h9 : zc_s9 n b pr M) (hs : zw_sz S) (hk : k < zWn S) (hp : p < n) (hS : zw_c M w S) {Q : Option Value → zm_M → Prop} (q : ∀ M', (∀ i, i < 8 → M'.1 749 i = ze_nm b pr S k p i) → M'.1 749 8 = M.1 749 8 → zf [749] M M' → Q none M') (hwn : w + 9 < 749) : zm_R E (d + 2) mX0_nameFor [.ref 751, .ref w, .int (nI k), .int (nI p)] M Q := by
  refine zX0_nameFor hE rfl (fun G h0 => ?_)
  show G 0 [some (.ref 751), some (.ref w), some (.int (nI k)), some (.int (nI p))] [] M
  have ow := eq_true hw.1; have A1 := zw_A hw 1 (by decide) (by decide); have A2 := zw_A hw 2 (by decide) (by decide); have A3 := zw_A hw 3 (by decide) (by decide); have A4 := zw_A hw 4 (by decide) (by decide); have A5 := zw_A hw 5 (by decide) (by decide); have A6 := zw_A hw 6 (by decide) (by decide); have A7 := zw_A hw 7 (by decide) (by decide); have A8 := zw_A hw 8 (by decide) (by decide); have A9 := zw_A9 hw
  obtain ⟨s1, s2, s3, s4, s5, s6, s7⟩ := hS
  have hn10 := hs.1
  have hp10 := h9.1.1.1
  have i1 : vp_in (nI k) 10 := vp_in_nI (by omega) (by decide)
  have i2 : (nI k).toNatClampNeg = k := nI_clamp (by omega)
  have a0 : M.1 (w + 1) k = zWa S 0 k := s5 0 k (by decide) hk
  have a1 : M.1 (w + 2) k = zWa S 1 k := s5 1 k (by decide) hk
  have a3 : M.1 (w + 4) k = zWa S 3 k := s5 3 k (by decide) hk
  have a5 : M.1 (w + 6) k = zWa S 5 k := s5 5 k (by decide) hk
  refine h0 _ _ _ ?_
  simp only [bX0_nameFor_0, zw_0, zw_1, zs_aloadn0, zs_aloadNn0, zg_0_15, zs_iloadn3, zs_aloadn1, zs_aloadNn1, zg_0_96, zs_iloadn2, zs_iaload, zg_0_85, zi_0_102, zg_0_63, zs_iconst, zg_0_72, zs_iastore, zg_0_45, zs_bipush, zg_0_106, zs_isub, zs_return, zh_0, zh_1, zh_2, zh_3, zh_4, zt_i, zt_l, zt_r, zt_n, zn_int, zn_b0, zn_b1, zb_15, zb_16, zb_17, za_18, za_19, za_20, za_21, za_22, zb_23, za_24, za_25, za_26, za_27, za_28, za_29, za_30, za_31, za_32, zb_35, za_36, za_37, za_38, za_39, za_40, zb_377, zb_378, za_379, za_380, za_381, za_382, za_383, zb_384, za_385, za_386, za_387, za_388, za_389, za_390, za_391, za_392, za_393, zb_396, za_397, za_398, za_399, za_400, za_401, zb_738, za_739, za_740, za_741, za_742, za_743, za_744, za_745, za_746, za_747, zb_748, za_749, za_750, zb_751, zb_752, za_753, za_754, za_755, za_756, zb_757, za_758, za_759, za_760, zb_761, za_763, za_764, za_765, zu_0, zu_1, zu_2, zu_3, zu_4, zu_5, zu_6, zu_7, zu_8, zu_9, zu_10, zu_11, zu_12, zu_13, zu_14, zu_15, zu_16, zu_17, zu_18, zu_19, zu_20, zu_21, zu_22, zu_23, zu_24, zu_25, zu_26, zu_27, zu_28, zu_29, zu_30, zu_90, zv_0_9, zv_1_9, zv_2_9, zv_3_9, zv_4_9, zv_5_9, zv_6_9, zv_7_9, zv_8_9, zv_0_330, zv_0_4544, zv_1_4544, zv_2_4544, zv_3_4544, zv_4_4544, zv_5_4544, zv_6_4544, zv_7_4544, zv_8_4544, zv_9_4544, zv_10_4544, zv_11_4544, zv_12_4544, zv_13_4544, zv_14_4544, zv_15_4544, zv_16_4544, zv_17_4544, zv_18_4544, zv_19_4544, zv_20_4544, zv_21_4544, zv_22_4544, zv_23_4544, zv_24_4544, zv_25_4544, zv_26_4544, zv_27_4544, zv_28_4544, zv_29_4544, zv_0_11, zv_1_11, zv_0_160, true_and, and_true, Nat.reduceAdd, ow, A1, A2, A3, A4, A5, A6, A7, A8, A9, i1, i2, a0, a1]
  refine c2_name hE d (p := p) (by omega) _ _ (fun M1 e1 f1 => ?_)
  have g : ∀ {M2 : zm_M}, zf [749] M M2 → ∀ q, q ≠ 749 → M2.1 q = M.1 q := fun f q hq => (f q (by simp [hq])).1
  have b3 : M1.1 (w + 4) k = zWa S 3 k := by rw [g f1 _ (by omega)]; exact a3
  have r4 : ∀ (M : zm_M) (j : Nat) (v : Int32), (zm_wi M 749 j v).1 (w + 4) = M.1 (w + 4) := fun M j v => zm_wi_other (by omega)
  have r6 : ∀ (M : zm_M) (j : Nat) (v : Int32), (zm_wi M 749 j v).1 (w + 6) = M.1 (w + 6) := fun M j v => zm_wi_other (by omega)
  have r0 : ∀ (M : zm_M) (j : Nat) (v : Int32), (zm_wi M 749 j v).1 w = M.1 w := fun M j v => zm_wi_other (by omega)
  have b0 : M1.1 w 0 = zWd S := by rw [g f1 _ (by omega)]; exact s1
  have b5 : M1.1 (w + 6) k = zWa S 5 k := by rw [g f1 _ (by omega)]; exact a5
  simp only [bX0_nameFor_0, zw_0, zw_1, zs_aloadn0, zs_aloadNn0, zg_0_15, zs_iloadn3, zs_aloadn1, zs_aloadNn1, zg_0_96, zs_iloadn2, zs_iaload, zg_0_85, zi_0_102, zg_0_63, zs_iconst, zg_0_72, zs_iastore, zg_0_45, zs_bipush, zg_0_106, zs_isub, zs_return, zh_0, zh_1, zh_2, zh_3, zh_4, zt_i, zt_l, zt_r, zt_n, zn_int, zn_b0, zn_b1, zb_15, zb_16, zb_17, za_18, za_19, za_20, za_21, za_22, zb_23, za_24, za_25, za_26, za_27, za_28, za_29, za_30, za_31, za_32, zb_35, za_36, za_37, za_38, za_39, za_40, zb_377, zb_378, za_379, za_380, za_381, za_382, za_383, zb_384, za_385, za_386, za_387, za_388, za_389, za_390, za_391, za_392, za_393, zb_396, za_397, za_398, za_399, za_400, za_401, zb_738, za_739, za_740, za_741, za_742, za_743, za_744, za_745, za_746, za_747, zb_748, za_749, za_750, zb_751, zb_752, za_753, za_754, za_755, za_756, zb_757, za_758, za_759, za_760, zb_761, za_763, za_764, za_765, zu_0, zu_1, zu_2, zu_3, zu_4, zu_5, zu_6, zu_7, zu_8, zu_9, zu_10, zu_11, zu_12, zu_13, zu_14, zu_15, zu_16, zu_17, zu_18, zu_19, zu_20, zu_21, zu_22, zu_23, zu_24, zu_25, zu_26, zu_27, zu_28, zu_29, zu_30, zu_90, zv_0_9, zv_1_9, zv_2_9, zv_3_9, zv_4_9, zv_5_9, zv_6_9, zv_7_9, zv_8_9, zv_0_330, zv_0_4544, zv_1_4544, zv_2_4544, zv_3_4544, zv_4_4544, zv_5_4544, zv_6_4544, zv_7_4544, zv_8_4544, zv_9_4544, zv_10_4544, zv_11_4544, zv_12_4544, zv_13_4544, zv_14_4544, zv_15_4544, zv_16_4544, zv_17_4544, zv_18_4544, zv_19_4544, zv_20_4544, zv_21_4544, zv_22_4544, zv_23_4544, zv_24_4544, zv_25_4544, zv_26_4544, zv_27_4544, zv_28_4544, zv_29_4544, zv_0_11, zv_1_11, zv_0_160, true_and, and_true, Nat.reduceAdd, ow, A1, A2, A3, A4, A5, A6, A7, A8, A9, i1, i2, b3, r4, r6, r0, b0, b5]
  refine q _ (fun i hi => ?_) ?_ ?_
  · have e19 : M.1 19 p = pr p := h9.2.2.2.1 p hp
    have e20 : M.1 20 p = nI (zt_rk b p) := by rw [h9.1.2 p hp, zt_rk_c h9.1.1 h9.2.2.1 p hp]
    rcases (show i = 0 ∨ i = 1 ∨ i = 2 ∨ i = 3 ∨ i = 4 ∨ i = 5 ∨ i = 6 ∨ i = 7 by omega) with rfl | rfl | rfl | rfl | rfl | rfl | rfl | rfl <;> simp [zm_wi_same, e1, ze_nm, zn_l, e19, e20]
  · simp [zm_wi_same, e1]
  · exact zf_wi (zf_wi (zf_wi f1 (by decide)) (by decide)) (by decide)
theorem ze_nm_ok {n : Nat} {b pr : Nat → Int32} {S : zW} {k p : Nat} (hw : zt_wf n b) (h : zw_i n b S) (hk : k < zWn S) (hp : p < n) (hpr : ∀ i, i < n → zq_ok (pr i).toInt) : ∀ i, zq_ok (ze_nm b pr S k p i).toInt := by
  have hn := hw.1
  obtain ⟨f, t, a, s, hh, g, e0, e1, e2, e3, e4, e5, bf, bt_, ba, bs, bh, bg, ab1, ab2, ab3⟩ := h.2.2.2.1 k hk
  obtain ⟨dd, hdd, ed⟩ := h.2.1
  have hk10 := h.1.1
  have sm : ∀ m : Nat, m ≤ 9999 → zq_ok (nI m).toInt := fun m hm => by rw [nI_toInt (by omega)]; exact ⟨by omega, by omega⟩
  intro i
  unfold ze_nm
  rw [e0, e1, e3, e5, ed]
  match i with
  | 0 => exact sm dd hdd
  | 1 => exact sm s bs
  | 2 => exact sm p (by omega)
  | 3 => exact hpr p hp
  | 4 => exact sm _ (by have := zt_rk_le hw p hp; omega)
  | 5 => exact sm f (by omega)
  | 6 => exact sm t (by omega)
  | 7 =>
    show zq_ok (nI dd - nI g).toInt
    rw [zx_subI (nI_toInt (by omega)) (nI_toInt (by omega)) (by omega) (by omega)]
    exact ⟨by omega, by omega⟩
  | i + 8 =>
    refine sm _ ?_
    have : ze_dk S k p ≤ zWn S := zc_n_le _ _
    omega
theorem zx_toInt {x : Int32} {v : Int} (h : x.toInt = v) (h0 : 0 ≤ v) (h1 : v < 2 ^ 31) : x = nI v.toNat := by
  rw [zx_i32eq, h, nI_toInt (by omega)]; omega
/-- Math.min of two, to 9999 -/
theorem zx_min {x : Int32} {v : Int} (h : x.toInt = v) (h0 : 0 ≤ v) (h1 : v < 2 ^ 31) : (if (9999 : Int32) < x then 9999 else x) = ze_mn v := by
  have e : ((9999 : Int32) < x) = (9999 < v) := by rw [zx_i32lt, h]; rfl
  unfold ze_mn
  by_cases c : 9999 < v
  · have c' : (9999 : Int32) < x := by rw [e]; exact c
    rw [if_pos c', if_pos c]; rfl
  · have c' : ¬ (9999 : Int32) < x := by rw [e]; exact c
    rw [if_neg c', if_neg c]; exact zx_toInt h h0 h1
theorem zw_c_pt {M : zm_M} {w : Nat} {S : zW} (h : zw_c M w S) {x k : Nat} (hx : x < 7) (v : Int32) : zw_c (zm_wi M (w + (1 + x)) k v) w (zw_pt S x k v) := by
  obtain ⟨h1, h2, h3, h4, h5, h6, h7⟩ := h
  refine ⟨by rw [zm_wi_other (by omega)]; exact h1, by rw [zm_wi_other (by omega)]; exact h2, by rw [zm_wi_other (by omega)]; exact h3, by rw [zm_wi_other (by omega)]; exact h4, fun f j hf hj => ?_, fun p hp => by rw [zm_wi_other (by omega)]; exact h6 p hp, fun i j hi hj => by rw [zm_wi_other (by omega)]; exact h7 i j hi hj⟩
  have hj : j < zWn S := hj
  rw [zw_pt_a]
  by_cases c : f = x
  · subst c
    rw [zm_wi_same]
    by_cases c2 : j = k
    · rw [if_pos c2, if_pos ⟨rfl, c2⟩]
    · rw [if_neg c2, if_neg (by omega)]; exact h5 f j hf hj
  · rw [zm_wi_other (by omega), if_neg (by omega)]; exact h5 f j hf hj
