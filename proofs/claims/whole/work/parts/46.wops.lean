/-! ===== a World as a value ===== -/
abbrev zW : Type := Int32 × Int32 × Nat × Nat × (Nat → Nat → Int32) × (Nat → Int32) × (Nat → Nat → Int32)
def zWd (S : zW) : Int32 := S.1
def zWx (S : zW) : Int32 := S.2.1
def zWn (S : zW) : Nat := S.2.2.1
def zWm (S : zW) : Nat := S.2.2.2.1
def zWa (S : zW) : Nat → Nat → Int32 := S.2.2.2.2.1
def zWo (S : zW) : Nat → Int32 := S.2.2.2.2.2.1
def zWb (S : zW) : Nat → Nat → Int32 := S.2.2.2.2.2.2
def zw_c (M : zm_M) (w : Nat) (S : zW) : Prop := M.1 w 0 = zWd S ∧ M.1 w 1 = zWx S ∧ M.1 w 2 = nI (zWn S) ∧ M.1 w 11 = nI (zWm S) ∧ (∀ f k, f < 7 → k < zWn S → M.1 (w + (1 + f)) k = zWa S f k) ∧ (∀ p, p < 10 → M.1 (w + 8) p = zWo S p) ∧ (∀ i j, i < zWm S → j < 4 → M.1 (w + 9) (4 * i + j) = zWb S i j)
def zw_sz (S : zW) : Prop := zWn S ≤ 10 ∧ zWm S ≤ 30
def zw_L (w : Nat) : List Nat := [w, w + 1, w + 2, w + 3, w + 4, w + 5, w + 6, w + 7, w + 8, w + 9]
theorem zw_A {w : Nat} (h : zw_ok w) (j : Nat) (h1 : 1 ≤ j) (h2 : j ≤ 8) (x : Int32) : (∃ n, zm_ar (w + j) 0 n ∧ vp_in x n) = vp_in x 10 := by
  have h3 := h.2.1 (j - 1) (by omega)
  rw [show w + 1 + (j - 1) = w + j by omega] at h3
  refine propext ⟨?_, fun z => ⟨10, h3, z⟩⟩
  rintro ⟨n, z1, z2⟩
  have e : (100 + 0, n) = (100 + 0, 10) := z1.2.symm.trans h3.2
  have : n = 10 := (Prod.mk.inj e).2
  rw [← this]; exact z2
theorem zw_A9 {w : Nat} (h : zw_ok w) (x : Int32) : (∃ n, zm_ar (w + 9) 0 n ∧ vp_in x n) = vp_in x 120 := by
  have h3 := h.2.2
  refine propext ⟨?_, fun z => ⟨120, h3, z⟩⟩
  rintro ⟨n, z1, z2⟩
  have e : (100 + 0, n) = (100 + 0, 120) := z1.2.symm.trans h3.2
  have : n = 120 := (Prod.mk.inj e).2
  rw [← this]; exact z2
theorem zw_cong {M M' : zm_M} {w : Nat} {S : zW} (hs : zw_sz S) (h : zw_c M w S) (e : ∀ q, q ∈ zw_L w → M'.1 q = M.1 q) : zw_c M' w S := by
  have e0 := e w (by simp [zw_L])
  have ej : ∀ j, j ≤ 9 → M'.1 (w + j) = M.1 (w + j) := fun j hj => e (w + j) (by
    rcases (show j = 0 ∨ j = 1 ∨ j = 2 ∨ j = 3 ∨ j = 4 ∨ j = 5 ∨ j = 6 ∨ j = 7 ∨ j = 8 ∨ j = 9 by omega) with rfl | rfl | rfl | rfl | rfl | rfl | rfl | rfl | rfl | rfl <;> simp [zw_L])
  obtain ⟨h1, h2, h3, h4, h5, h6, h7⟩ := h
  refine ⟨by rw [e0]; exact h1, by rw [e0]; exact h2, by rw [e0]; exact h3, by rw [e0]; exact h4, fun f k hf hk => by rw [ej (1 + f) (by omega)]; exact h5 f k hf hk, fun p hp => by rw [ej 8 (by omega)]; exact h6 p hp, fun i j hi hj => by rw [ej 9 (by omega)]; exact h7 i j hi hj⟩
theorem zw_c_like {M M' : zm_M} {v w : Nat} {S : zW} (hs : zw_sz S) (h : zw_c M w S) (e : zw_like M' M v w) : zw_c M' v S := by
  obtain ⟨h1, h2, h3, h4, h5, h6, h7⟩ := h
  obtain ⟨e1, e2, e3, e4, e5, e6⟩ := e
  obtain ⟨s1, s2⟩ := hs
  exact ⟨by rw [e1]; exact h1, by rw [e2]; exact h2, by rw [e3]; exact h3, by rw [e4]; exact h4, fun f k hf hk => by rw [e5 (1 + f) k (by omega) (by omega) (by omega)]; exact h5 f k hf hk, fun p hp => by rw [e5 8 p (by omega) (by omega) hp]; exact h6 p hp, fun i j hi hj => by rw [e6 (4 * i + j) (by omega)]; exact h7 i j hi hj⟩
theorem zm_wi_rd (M : zm_M) (p k : Nat) (v : Int32) (q j : Nat) : (zm_wi M p k v).1 q j = if q = p then (if j = k then v else M.1 q j) else M.1 q j := by
  by_cases c : q = p
  · subst c; rw [if_pos rfl, zm_wi_same]
  · rw [if_neg c, zm_wi_other c]
/-! begin -/
def zw_beg (S : zW) (fr to sz : Int32) : zW := (zWd S, zWx S, zWn S + 1, zWm S, fun f k => if k = zWn S then (match f with | 0 => fr | 1 => to | 2 => fr | 3 => sz | 4 => 0 | 5 => zWd S | _ => 0) else zWa S f k, zWo S, zWb S)
theorem zw_beg_o {S : zW} {fr to sz : Int32} {f k : Nat} (h : ¬ k = zWn S) : zWa (zw_beg S fr to sz) f k = zWa S f k := if_neg h
theorem c10_begin {E : zm_E} (hE : zm_ok E.2.2.1 E.2.2.2.2) (d : Nat) {w : Nat} (hw : zw_ok w) (fr to sz : Int32) {M : zm_M} {S : zW} (hn : zWn S < 10) (hS : zw_c M w S) {Q : Option Value → zm_M → Prop} (q : ∀ M', zw_c M' w (zw_beg S fr to sz) → zf (zw_L w) M M' → Q (some (.int (nI (zWn S)))) M') : zm_R E (d + 1) mX10_begin [.ref w, .int fr, .int to, .int sz] M Q := by
  refine zX10_begin hE rfl (fun G h0 h11 => ?_)
  show G 0 [some (.ref w), some (.int fr), some (.int to), some (.int sz)] [] M
  have ow := eq_true hw.1; have A1 := zw_A hw 1 (by decide) (by decide); have A2 := zw_A hw 2 (by decide) (by decide); have A3 := zw_A hw 3 (by decide) (by decide); have A4 := zw_A hw 4 (by decide) (by decide); have A5 := zw_A hw 5 (by decide) (by decide); have A6 := zw_A hw 6 (by decide) (by decide); have A7 := zw_A hw 7 (by decide) (by decide); have A8 := zw_A hw 8 (by decide) (by decide); have A9 := zw_A9 hw
  obtain ⟨s1, s2, s3, s4, s5, s6, s7⟩ := hS
  have i1 : vp_in (nI (zWn S)) 10 := vp_in_nI hn (by decide)
  have i2 : (nI (zWn S)).toNatClampNeg = zWn S := nI_clamp (by omega)
  have rd : ∀ (M : zm_M) (j k x : Nat) (v : Int32), 1 ≤ j → (zm_wi M (w + j) k v).1 w x = M.1 w x := fun M j k x v hj => by rw [zm_wi_other (by omega)]
  refine h0 _ _ _ ?_
  simp only [bX10_begin_0, zw_0, zw_1, zs_aloadn0, zs_aloadNn0, zg_10_18, zs_bipush, zs_iclt, zs_iconst, zs_ireturn, zn_int, zn_b0, zn_b1, zb_15, zb_16, zb_17, za_18, za_19, za_20, za_21, za_22, zb_23, za_24, za_25, za_26, za_27, za_28, za_29, za_30, za_31, za_32, zb_35, za_36, za_37, za_38, za_39, za_40, zb_377, zb_378, za_379, za_380, za_381, za_382, za_383, zb_384, za_385, za_386, za_387, za_388, za_389, za_390, za_391, za_392, za_393, zb_396, za_397, za_398, za_399, za_400, za_401, zb_738, za_739, za_740, za_741, za_742, za_743, za_744, za_745, za_746, za_747, zb_748, za_749, za_750, zb_751, zb_752, za_753, za_754, za_755, za_756, zb_757, za_758, za_759, za_760, zb_761, za_763, za_764, za_765, true_and, and_true, Nat.reduceAdd, ow, A1, A2, A3, A4, A5, A6, A7, A8, A9, s3]
  refine ⟨fun _ => ?_, fun h => absurd (nI_lt (b := 10) hn (by decide)) h⟩
  have r1 := fun M k x v => rd M 1 k x v (by decide)
  have r2 := fun M k x v => rd M 2 k x v (by decide)
  have r3 := fun M k x v => rd M 3 k x v (by decide)
  have r4 := fun M k x v => rd M 4 k x v (by decide)
  have r5 := fun M k x v => rd M 5 k x v (by decide)
  have r6 := fun M k x v => rd M 6 k x v (by decide)
  have r7 := fun M k x v => rd M 7 k x v (by decide)
  refine h11 _ _ _ ?_
  simp only [bX10_begin_11, zw_0, zw_1, zs_aloadn0, zs_aloadNn0, zg_10_21, zg_10_18, zs_iloadn1, zs_iastore, zg_10_25, zs_iloadn2, zg_10_28, zg_10_31, zs_iloadn3, zg_10_34, zs_iconst, zg_10_37, zg_10_9, zg_10_40, zs_dupi, zs_dupr, zs_dupn, zs_iadd, zq_10_18, zs_isub, zs_ireturn, zn_int, zn_b0, zn_b1, zb_15, zb_16, zb_17, za_18, za_19, za_20, za_21, za_22, zb_23, za_24, za_25, za_26, za_27, za_28, za_29, za_30, za_31, za_32, zb_35, za_36, za_37, za_38, za_39, za_40, zb_377, zb_378, za_379, za_380, za_381, za_382, za_383, zb_384, za_385, za_386, za_387, za_388, za_389, za_390, za_391, za_392, za_393, zb_396, za_397, za_398, za_399, za_400, za_401, zb_738, za_739, za_740, za_741, za_742, za_743, za_744, za_745, za_746, za_747, zb_748, za_749, za_750, zb_751, zb_752, za_753, za_754, za_755, za_756, zb_757, za_758, za_759, za_760, zb_761, za_763, za_764, za_765, zu_0, zu_1, zu_2, zu_3, zu_4, zu_5, zu_6, zu_7, zu_8, zu_9, zu_10, zu_11, zu_12, zu_13, zu_14, zu_15, zu_16, zu_17, zu_18, zu_19, zu_20, zu_21, zu_22, zu_23, zu_24, zu_25, zu_26, zu_27, zu_28, zu_29, zu_30, zu_90, zv_0_9, zv_1_9, zv_2_9, zv_3_9, zv_4_9, zv_5_9, zv_6_9, zv_7_9, zv_8_9, zv_0_330, zv_0_4544, zv_1_4544, zv_2_4544, zv_3_4544, zv_4_4544, zv_5_4544, zv_6_4544, zv_7_4544, zv_8_4544, zv_9_4544, zv_10_4544, zv_11_4544, zv_12_4544, zv_13_4544, zv_14_4544, zv_15_4544, zv_16_4544, zv_17_4544, zv_18_4544, zv_19_4544, zv_20_4544, zv_21_4544, zv_22_4544, zv_23_4544, zv_24_4544, zv_25_4544, zv_26_4544, zv_27_4544, zv_28_4544, zv_29_4544, zv_0_11, zv_1_11, zv_0_160, true_and, and_true, Nat.reduceAdd, ow, A1, A2, A3, A4, A5, A6, A7, A8, A9, r1, r2, r3, r4, r5, r6, r7, s3, i1, i2, s1]
  rw [zm_wi_same, if_pos rfl, nI_1, nI_pred]
  refine q _ ⟨?_, ?_, ?_, ?_, fun f k hf hk => ?_, fun p hp => ?_, fun i j hi hj => ?_⟩ ?_
  · simp [zm_wi_rd, s1, zw_beg, zWd]
  · simp [zm_wi_rd, s2, zw_beg, zWx]
  · simp [zm_wi_rd, zw_beg, zWn]
  · simp [zm_wi_rd, s4, zw_beg, zWm]
  · have hk : k < zWn S + 1 := hk
    rcases (show f = 0 ∨ f = 1 ∨ f = 2 ∨ f = 3 ∨ f = 4 ∨ f = 5 ∨ f = 6 by omega) with rfl | rfl | rfl | rfl | rfl | rfl | rfl
    all_goals
      by_cases c : k = zWn S
      · subst c; simp [zm_wi_rd, zw_beg, zWa]
      · have s5' := fun f hf => s5 f k hf (by omega)
        rw [zw_beg_o c]
        simp [zm_wi_rd, c]
        first | exact s5' 0 (by omega) | exact s5' 1 (by omega) | exact s5' 2 (by omega) | exact s5' 3 (by omega) | exact s5' 4 (by omega) | exact s5' 5 (by omega) | exact s5' 6 (by omega)
  · simp [zm_wi_rd]
    exact s6 p hp
  · simp [zm_wi_rd]
    exact s7 i j hi hj
  · refine zf_wi (zf_wi (zf_wi (zf_wi (zf_wi (zf_wi (zf_wi (zf_wi zf_refl ?_) ?_) ?_) ?_) ?_) ?_) ?_) ?_ <;> simp [zw_L]
/-! leave -/
def zw_lv (S : zW) (p : Nat) (v : Int32) : zW := (zWd S, zWx S, zWn S, zWm S, zWa S, fun i => if i = p then v else zWo S i, zWb S)
theorem c10_leave {E : zm_E} (hE : zm_ok E.2.2.1 E.2.2.2.2) (d : Nat) {w p : Nat} (hw : zw_ok w) (hp : p < 10) (dy : Int32) {M : zm_M} {S : zW} (hS : zw_c M w S) {Q : Option Value → zm_M → Prop} (q : ∀ M', zw_c M' w (zw_lv S p (if dy = 0 then 0 else zWd S + dy)) → zf (zw_L w) M M' → Q none M') : zm_R E (d + 1) mX10_leave [.ref w, .int (nI p), .int dy] M Q := by
  refine zX10_leave hE rfl (fun G h0 h13 h19 => ?_)
  show G 0 [some (.ref w), some (.int (nI p)), some (.int dy)] [] M
  have ow := eq_true hw.1; have A1 := zw_A hw 1 (by decide) (by decide); have A2 := zw_A hw 2 (by decide) (by decide); have A3 := zw_A hw 3 (by decide) (by decide); have A4 := zw_A hw 4 (by decide) (by decide); have A5 := zw_A hw 5 (by decide) (by decide); have A6 := zw_A hw 6 (by decide) (by decide); have A7 := zw_A hw 7 (by decide) (by decide); have A8 := zw_A hw 8 (by decide) (by decide); have A9 := zw_A9 hw
  obtain ⟨s1, s2, s3, s4, s5, s6, s7⟩ := hS
  have i1 : vp_in (nI p) 10 := vp_in_nI hp (by decide)
  have i2 : (nI p).toNatClampNeg = p := nI_clamp (by omega)
  have fin : ∀ v, v = (if dy = 0 then 0 else zWd S + dy) → G 19 [some (.ref w), some (.int (nI p)), some (.int dy)] [.int v, .int (nI p), .ref (w + 8)] M := by
    intro v hv
    refine h19 _ _ _ ?_
    simp only [bX10_leave_19, zw_0, zw_1, zs_iastore, zs_return, zn_int, zn_b0, zn_b1, zb_15, zb_16, zb_17, za_18, za_19, za_20, za_21, za_22, zb_23, za_24, za_25, za_26, za_27, za_28, za_29, za_30, za_31, za_32, zb_35, za_36, za_37, za_38, za_39, za_40, zb_377, zb_378, za_379, za_380, za_381, za_382, za_383, zb_384, za_385, za_386, za_387, za_388, za_389, za_390, za_391, za_392, za_393, zb_396, za_397, za_398, za_399, za_400, za_401, zb_738, za_739, za_740, za_741, za_742, za_743, za_744, za_745, za_746, za_747, zb_748, za_749, za_750, zb_751, zb_752, za_753, za_754, za_755, za_756, zb_757, za_758, za_759, za_760, zb_761, za_763, za_764, za_765, zu_0, zu_1, zu_2, zu_3, zu_4, zu_5, zu_6, zu_7, zu_8, zu_9, zu_10, zu_11, zu_12, zu_13, zu_14, zu_15, zu_16, zu_17, zu_18, zu_19, zu_20, zu_21, zu_22, zu_23, zu_24, zu_25, zu_26, zu_27, zu_28, zu_29, zu_30, zu_90, zv_0_9, zv_1_9, zv_2_9, zv_3_9, zv_4_9, zv_5_9, zv_6_9, zv_7_9, zv_8_9, zv_0_330, zv_0_4544, zv_1_4544, zv_2_4544, zv_3_4544, zv_4_4544, zv_5_4544, zv_6_4544, zv_7_4544, zv_8_4544, zv_9_4544, zv_10_4544, zv_11_4544, zv_12_4544, zv_13_4544, zv_14_4544, zv_15_4544, zv_16_4544, zv_17_4544, zv_18_4544, zv_19_4544, zv_20_4544, zv_21_4544, zv_22_4544, zv_23_4544, zv_24_4544, zv_25_4544, zv_26_4544, zv_27_4544, zv_28_4544, zv_29_4544, zv_0_11, zv_1_11, zv_0_160, true_and, and_true, Nat.reduceAdd, ow, A1, A2, A3, A4, A5, A6, A7, A8, A9, i1, i2]
    rw [hv]
    refine q _ ⟨?_, ?_, ?_, ?_, fun f k hf hk => ?_, fun i hi => ?_, fun i j hi hj => ?_⟩ ?_
    · simp [zm_wi_rd, s1, zw_lv, zWd]
    · simp [zm_wi_rd, s2, zw_lv, zWx]
    · simp [zm_wi_rd, s3, zw_lv, zWn]
    · simp [zm_wi_rd, s4, zw_lv, zWm]
    · rw [zm_wi_other (by omega)]; exact s5 f k hf hk
    · rw [zm_wi_same]
      show _ = if i = p then _ else zWo S i
      by_cases c : i = p
      · rw [if_pos c, if_pos c]
      · rw [if_neg c, if_neg c]; exact s6 i hi
    · rw [zm_wi_other (by omega)]; exact s7 i j hi hj
    · exact zf_wi zf_refl (by simp [zw_L])
  refine h0 _ _ _ ?_
  simp only [bX10_leave_0, zw_0, zw_1, zs_aloadn0, zs_aloadNn0, zg_10_43, zs_iloadn1, zs_iloadn2, zs_ifne, zs_iconst, zs_goto, zb_15, zb_16, zb_17, za_18, za_19, za_20, za_21, za_22, zb_23, za_24, za_25, za_26, za_27, za_28, za_29, za_30, za_31, za_32, zb_35, za_36, za_37, za_38, za_39, za_40, zb_377, zb_378, za_379, za_380, za_381, za_382, za_383, zb_384, za_385, za_386, za_387, za_388, za_389, za_390, za_391, za_392, za_393, zb_396, za_397, za_398, za_399, za_400, za_401, zb_738, za_739, za_740, za_741, za_742, za_743, za_744, za_745, za_746, za_747, zb_748, za_749, za_750, zb_751, zb_752, za_753, za_754, za_755, za_756, zb_757, za_758, za_759, za_760, zb_761, za_763, za_764, za_765, true_and, and_true, Nat.reduceAdd, ow, A1, A2, A3, A4, A5, A6, A7, A8, A9]
  refine ⟨fun h => ?_, fun h => fin _ (by rw [if_pos h])⟩
  refine h13 _ _ _ ?_
  simp only [bX10_leave_13, zw_0, zw_1, zs_aloadn0, zs_aloadNn0, zg_10_9, zs_iloadn2, zs_iadd, zb_15, zb_16, zb_17, za_18, za_19, za_20, za_21, za_22, zb_23, za_24, za_25, za_26, za_27, za_28, za_29, za_30, za_31, za_32, zb_35, za_36, za_37, za_38, za_39, za_40, zb_377, zb_378, za_379, za_380, za_381, za_382, za_383, zb_384, za_385, za_386, za_387, za_388, za_389, za_390, za_391, za_392, za_393, zb_396, za_397, za_398, za_399, za_400, za_401, zb_738, za_739, za_740, za_741, za_742, za_743, za_744, za_745, za_746, za_747, zb_748, za_749, za_750, zb_751, zb_752, za_753, za_754, za_755, za_756, zb_757, za_758, za_759, za_760, zb_761, za_763, za_764, za_765, true_and, and_true, Nat.reduceAdd, ow, A1, A2, A3, A4, A5, A6, A7, A8, A9, s1]
  exact fin _ (by rw [if_neg h])
/-! waiting, moving, drawing -/
theorem c10_isWaiting {E : zm_E} (hE : zm_ok E.2.2.1 E.2.2.2.2) (d : Nat) {w k : Nat} (hw : zw_ok w) {M : zm_M} {S : zW} (hs : zw_sz S) (hk : k < zWn S) (hS : zw_c M w S) : zm_R E (d + 1) mX10_isWaiting [.ref w, .int (nI k)] M (fun r M' => r = some (.int (zi_b (decide (zWd S < zWa S 6 k)))) ∧ M' = M) := by
  refine zX10_isWaiting hE rfl (fun G h0 h17 h18 => ?_)
  show G 0 [some (.ref w), some (.int (nI k))] [] M
  have ow := eq_true hw.1; have A1 := zw_A hw 1 (by decide) (by decide); have A2 := zw_A hw 2 (by decide) (by decide); have A3 := zw_A hw 3 (by decide) (by decide); have A4 := zw_A hw 4 (by decide) (by decide); have A5 := zw_A hw 5 (by decide) (by decide); have A6 := zw_A hw 6 (by decide) (by decide); have A7 := zw_A hw 7 (by decide) (by decide); have A8 := zw_A hw 8 (by decide) (by decide); have A9 := zw_A9 hw
  obtain ⟨s1, s2, s3, s4, s5, s6, s7⟩ := hS
  have hk10 := hs.1
  have i1 : vp_in (nI k) 10 := vp_in_nI (by omega) (by decide)
  have i2 : (nI k).toNatClampNeg = k := nI_clamp (by omega)
  have a6 : M.1 (w + 7) k = zWa S 6 k := s5 6 k (by decide) hk
  refine h0 _ _ _ ?_
  simp only [bX10_isWaiting_0, zw_0, zw_1, zs_aloadn0, zs_aloadNn0, zg_10_9, zg_10_40, zs_iloadn1, zs_iaload, zs_icge, zs_iconst, zs_goto, zb_15, zb_16, zb_17, za_18, za_19, za_20, za_21, za_22, zb_23, za_24, za_25, za_26, za_27, za_28, za_29, za_30, za_31, za_32, zb_35, za_36, za_37, za_38, za_39, za_40, zb_377, zb_378, za_379, za_380, za_381, za_382, za_383, zb_384, za_385, za_386, za_387, za_388, za_389, za_390, za_391, za_392, za_393, zb_396, za_397, za_398, za_399, za_400, za_401, zb_738, za_739, za_740, za_741, za_742, za_743, za_744, za_745, za_746, za_747, zb_748, za_749, za_750, zb_751, zb_752, za_753, za_754, za_755, za_756, zb_757, za_758, za_759, za_760, zb_761, za_763, za_764, za_765, zu_0, zu_1, zu_2, zu_3, zu_4, zu_5, zu_6, zu_7, zu_8, zu_9, zu_10, zu_11, zu_12, zu_13, zu_14, zu_15, zu_16, zu_17, zu_18, zu_19, zu_20, zu_21, zu_22, zu_23, zu_24, zu_25, zu_26, zu_27, zu_28, zu_29, zu_30, zu_90, zv_0_9, zv_1_9, zv_2_9, zv_3_9, zv_4_9, zv_5_9, zv_6_9, zv_7_9, zv_8_9, zv_0_330, zv_0_4544, zv_1_4544, zv_2_4544, zv_3_4544, zv_4_4544, zv_5_4544, zv_6_4544, zv_7_4544, zv_8_4544, zv_9_4544, zv_10_4544, zv_11_4544, zv_12_4544, zv_13_4544, zv_14_4544, zv_15_4544, zv_16_4544, zv_17_4544, zv_18_4544, zv_19_4544, zv_20_4544, zv_21_4544, zv_22_4544, zv_23_4544, zv_24_4544, zv_25_4544, zv_26_4544, zv_27_4544, zv_28_4544, zv_29_4544, zv_0_11, zv_1_11, zv_0_160, true_and, and_true, Nat.reduceAdd, ow, A1, A2, A3, A4, A5, A6, A7, A8, A9, i1, i2, s1, a6]
  refine ⟨fun h => ?_, fun h => ?_⟩
  · refine h17 _ _ _ ?_
    simp only [bX10_isWaiting_17, zw_0, zw_1, zs_iconst, zb_15, zb_16, zb_17, za_18, za_19, za_20, za_21, za_22, zb_23, za_24, za_25, za_26, za_27, za_28, za_29, za_30, za_31, za_32, zb_35, za_36, za_37, za_38, za_39, za_40, zb_377, zb_378, za_379, za_380, za_381, za_382, za_383, zb_384, za_385, za_386, za_387, za_388, za_389, za_390, za_391, za_392, za_393, zb_396, za_397, za_398, za_399, za_400, za_401, zb_738, za_739, za_740, za_741, za_742, za_743, za_744, za_745, za_746, za_747, zb_748, za_749, za_750, zb_751, zb_752, za_753, za_754, za_755, za_756, zb_757, za_758, za_759, za_760, zb_761, za_763, za_764, za_765, true_and, and_true, Nat.reduceAdd]
    refine h18 _ _ _ ?_
    simp only [bX10_isWaiting_18, zw_0, zw_1, zs_ireturn, zn_int, zn_b0, zn_b1, zb_15, zb_16, zb_17, za_18, za_19, za_20, za_21, za_22, zb_23, za_24, za_25, za_26, za_27, za_28, za_29, za_30, za_31, za_32, zb_35, za_36, za_37, za_38, za_39, za_40, zb_377, zb_378, za_379, za_380, za_381, za_382, za_383, zb_384, za_385, za_386, za_387, za_388, za_389, za_390, za_391, za_392, za_393, zb_396, za_397, za_398, za_399, za_400, za_401, zb_738, za_739, za_740, za_741, za_742, za_743, za_744, za_745, za_746, za_747, zb_748, za_749, za_750, zb_751, zb_752, za_753, za_754, za_755, za_756, zb_757, za_758, za_759, za_760, zb_761, za_763, za_764, za_765, true_and, and_true, Nat.reduceAdd]
    rw [decide_eq_false (Int32.not_lt.mpr h)]; rfl
  · refine h18 _ _ _ ?_
    simp only [bX10_isWaiting_18, zw_0, zw_1, zs_ireturn, zn_int, zn_b0, zn_b1, zb_15, zb_16, zb_17, za_18, za_19, za_20, za_21, za_22, zb_23, za_24, za_25, za_26, za_27, za_28, za_29, za_30, za_31, za_32, zb_35, za_36, za_37, za_38, za_39, za_40, zb_377, zb_378, za_379, za_380, za_381, za_382, za_383, zb_384, za_385, za_386, za_387, za_388, za_389, za_390, za_391, za_392, za_393, zb_396, za_397, za_398, za_399, za_400, za_401, zb_738, za_739, za_740, za_741, za_742, za_743, za_744, za_745, za_746, za_747, zb_748, za_749, za_750, zb_751, zb_752, za_753, za_754, za_755, za_756, zb_757, za_758, za_759, za_760, zb_761, za_763, za_764, za_765, true_and, and_true, Nat.reduceAdd]
    rw [decide_eq_true (Int32.not_le.mp h)]; rfl
def zw_mv (S : zW) (k : Nat) : Bool := decide (¬ zWa S 4 k = 2) && decide (¬ zWd S < zWa S 6 k) && decide (¬ zWd S < zWo S (zWa S 2 k).toNatClampNeg)
theorem c10_moves {E : zm_E} (hE : zm_ok E.2.2.1 E.2.2.2.2) (d : Nat) {w k : Nat} (hw : zw_ok w) {M : zm_M} {S : zW} (hs : zw_sz S) (hk : k < zWn S) (hS : zw_c M w S) (ha : ∃ j, j < 10 ∧ zWa S 2 k = nI j) : zm_R E (d + 2) mX10_moves [.ref w, .int (nI k)] M (fun r M' => r = some (.int (zi_b (zw_mv S k))) ∧ M' = M) := by
  refine zX10_moves hE rfl (fun G h0 h40 h41 => ?_)
  show G 0 [some (.ref w), some (.int (nI k))] [] M
  have ow := eq_true hw.1; have A1 := zw_A hw 1 (by decide) (by decide); have A2 := zw_A hw 2 (by decide) (by decide); have A3 := zw_A hw 3 (by decide) (by decide); have A4 := zw_A hw 4 (by decide) (by decide); have A5 := zw_A hw 5 (by decide) (by decide); have A6 := zw_A hw 6 (by decide) (by decide); have A7 := zw_A hw 7 (by decide) (by decide); have A8 := zw_A hw 8 (by decide) (by decide); have A9 := zw_A9 hw
  have hS0 := hS
  obtain ⟨s1, s2, s3, s4, s5, s6, s7⟩ := hS
  have hk10 := hs.1
  have i1 : vp_in (nI k) 10 := vp_in_nI (by omega) (by decide)
  have i2 : (nI k).toNatClampNeg = k := nI_clamp (by omega)
  have a4 : M.1 (w + 5) k = zWa S 4 k := s5 4 k (by decide) hk
  obtain ⟨j, hj, ej⟩ := ha
  have a2 : M.1 (w + 3) k = nI j := by rw [← ej]; exact s5 2 k (by decide) hk
  have i3 : vp_in (nI j) 10 := vp_in_nI (by omega) (by decide)
  have i4 : (nI j).toNatClampNeg = j := nI_clamp (by omega)
  have o1 := s6 j hj
  have no : zw_mv S k = false → G 40 [some (.ref w), some (.int (nI k))] [] M := by
    intro h
    refine h40 _ _ _ ?_
    simp only [bX10_moves_40, zw_0, zw_1, zs_iconst, zb_15, zb_16, zb_17, za_18, za_19, za_20, za_21, za_22, zb_23, za_24, za_25, za_26, za_27, za_28, za_29, za_30, za_31, za_32, zb_35, za_36, za_37, za_38, za_39, za_40, zb_377, zb_378, za_379, za_380, za_381, za_382, za_383, zb_384, za_385, za_386, za_387, za_388, za_389, za_390, za_391, za_392, za_393, zb_396, za_397, za_398, za_399, za_400, za_401, zb_738, za_739, za_740, za_741, za_742, za_743, za_744, za_745, za_746, za_747, zb_748, za_749, za_750, zb_751, zb_752, za_753, za_754, za_755, za_756, zb_757, za_758, za_759, za_760, zb_761, za_763, za_764, za_765, true_and, and_true, Nat.reduceAdd]
    refine h41 _ _ _ ?_
    simp only [bX10_moves_41, zw_0, zw_1, zs_ireturn, zn_int, zn_b0, zn_b1, zb_15, zb_16, zb_17, za_18, za_19, za_20, za_21, za_22, zb_23, za_24, za_25, za_26, za_27, za_28, za_29, za_30, za_31, za_32, zb_35, za_36, za_37, za_38, za_39, za_40, zb_377, zb_378, za_379, za_380, za_381, za_382, za_383, zb_384, za_385, za_386, za_387, za_388, za_389, za_390, za_391, za_392, za_393, zb_396, za_397, za_398, za_399, za_400, za_401, zb_738, za_739, za_740, za_741, za_742, za_743, za_744, za_745, za_746, za_747, zb_748, za_749, za_750, zb_751, zb_752, za_753, za_754, za_755, za_756, zb_757, za_758, za_759, za_760, zb_761, za_763, za_764, za_765, true_and, and_true, Nat.reduceAdd]
    rw [h]; rfl
  refine h0 _ _ _ ?_
  simp only [bX10_moves_0, zw_0, zw_1, zs_aloadn0, zs_aloadNn0, zg_10_34, zs_iloadn1, zs_iaload, zs_iconst, zs_iceq, zi_10_58, zs_ifne, zg_10_9, zg_10_43, zg_10_28, zs_iclt, zs_goto, zh_0, zh_1, zh_2, zh_3, zh_4, zt_i, zt_l, zt_r, zt_n, zb_15, zb_16, zb_17, za_18, za_19, za_20, za_21, za_22, zb_23, za_24, za_25, za_26, za_27, za_28, za_29, za_30, za_31, za_32, zb_35, za_36, za_37, za_38, za_39, za_40, zb_377, zb_378, za_379, za_380, za_381, za_382, za_383, zb_384, za_385, za_386, za_387, za_388, za_389, za_390, za_391, za_392, za_393, zb_396, za_397, za_398, za_399, za_400, za_401, zb_738, za_739, za_740, za_741, za_742, za_743, za_744, za_745, za_746, za_747, zb_748, za_749, za_750, zb_751, zb_752, za_753, za_754, za_755, za_756, zb_757, za_758, za_759, za_760, zb_761, za_763, za_764, za_765, zu_0, zu_1, zu_2, zu_3, zu_4, zu_5, zu_6, zu_7, zu_8, zu_9, zu_10, zu_11, zu_12, zu_13, zu_14, zu_15, zu_16, zu_17, zu_18, zu_19, zu_20, zu_21, zu_22, zu_23, zu_24, zu_25, zu_26, zu_27, zu_28, zu_29, zu_30, zu_90, zv_0_9, zv_1_9, zv_2_9, zv_3_9, zv_4_9, zv_5_9, zv_6_9, zv_7_9, zv_8_9, zv_0_330, zv_0_4544, zv_1_4544, zv_2_4544, zv_3_4544, zv_4_4544, zv_5_4544, zv_6_4544, zv_7_4544, zv_8_4544, zv_9_4544, zv_10_4544, zv_11_4544, zv_12_4544, zv_13_4544, zv_14_4544, zv_15_4544, zv_16_4544, zv_17_4544, zv_18_4544, zv_19_4544, zv_20_4544, zv_21_4544, zv_22_4544, zv_23_4544, zv_24_4544, zv_25_4544, zv_26_4544, zv_27_4544, zv_28_4544, zv_29_4544, zv_0_11, zv_1_11, zv_0_160, true_and, and_true, Nat.reduceAdd, ow, A1, A2, A3, A4, A5, A6, A7, A8, A9, i1, i2, a4]
  refine ⟨fun h => no (by unfold zw_mv; simp [h]), fun h => ?_⟩
  refine zm_R_eq (c10_isWaiting hE d hw hs hk hS0) ?_
  simp only [bX10_moves_0, zw_0, zw_1, zs_aloadn0, zs_aloadNn0, zg_10_34, zs_iloadn1, zs_iaload, zs_iconst, zs_iceq, zi_10_58, zs_ifne, zg_10_9, zg_10_43, zg_10_28, zs_iclt, zs_goto, zh_0, zh_1, zh_2, zh_3, zh_4, zt_i, zt_l, zt_r, zt_n, zb_15, zb_16, zb_17, za_18, za_19, za_20, za_21, za_22, zb_23, za_24, za_25, za_26, za_27, za_28, za_29, za_30, za_31, za_32, zb_35, za_36, za_37, za_38, za_39, za_40, zb_377, zb_378, za_379, za_380, za_381, za_382, za_383, zb_384, za_385, za_386, za_387, za_388, za_389, za_390, za_391, za_392, za_393, zb_396, za_397, za_398, za_399, za_400, za_401, zb_738, za_739, za_740, za_741, za_742, za_743, za_744, za_745, za_746, za_747, zb_748, za_749, za_750, zb_751, zb_752, za_753, za_754, za_755, za_756, zb_757, za_758, za_759, za_760, zb_761, za_763, za_764, za_765, zu_0, zu_1, zu_2, zu_3, zu_4, zu_5, zu_6, zu_7, zu_8, zu_9, zu_10, zu_11, zu_12, zu_13, zu_14, zu_15, zu_16, zu_17, zu_18, zu_19, zu_20, zu_21, zu_22, zu_23, zu_24, zu_25, zu_26, zu_27, zu_28, zu_29, zu_30, zu_90, zv_0_9, zv_1_9, zv_2_9, zv_3_9, zv_4_9, zv_5_9, zv_6_9, zv_7_9, zv_8_9, zv_0_330, zv_0_4544, zv_1_4544, zv_2_4544, zv_3_4544, zv_4_4544, zv_5_4544, zv_6_4544, zv_7_4544, zv_8_4544, zv_9_4544, zv_10_4544, zv_11_4544, zv_12_4544, zv_13_4544, zv_14_4544, zv_15_4544, zv_16_4544, zv_17_4544, zv_18_4544, zv_19_4544, zv_20_4544, zv_21_4544, zv_22_4544, zv_23_4544, zv_24_4544, zv_25_4544, zv_26_4544, zv_27_4544, zv_28_4544, zv_29_4544, zv_0_11, zv_1_11, zv_0_160, true_and, and_true, Nat.reduceAdd, ow, A1, A2, A3, A4, A5, A6, A7, A8, A9, i1, i2, a2, i3, i4, o1, s1, zi_b1, decide_eq_true_eq]
  refine ⟨fun h2 => no (by unfold zw_mv; simp [h2]), fun h2 => ⟨fun h3 => no (by unfold zw_mv; rw [ej, i4]; simp [h3]), fun h3 => ?_⟩⟩
  have h2 : ¬ zWd S < zWa S 6 k := by simpa [zi_b0] using h2
  refine h41 _ _ _ ?_
  simp only [bX10_moves_41, zw_0, zw_1, zs_ireturn, zn_int, zn_b0, zn_b1, zb_15, zb_16, zb_17, za_18, za_19, za_20, za_21, za_22, zb_23, za_24, za_25, za_26, za_27, za_28, za_29, za_30, za_31, za_32, zb_35, za_36, za_37, za_38, za_39, za_40, zb_377, zb_378, za_379, za_380, za_381, za_382, za_383, zb_384, za_385, za_386, za_387, za_388, za_389, za_390, za_391, za_392, za_393, zb_396, za_397, za_398, za_399, za_400, za_401, zb_738, za_739, za_740, za_741, za_742, za_743, za_744, za_745, za_746, za_747, zb_748, za_749, za_750, zb_751, zb_752, za_753, za_754, za_755, za_756, zb_757, za_758, za_759, za_760, zb_761, za_763, za_764, za_765, true_and, and_true, Nat.reduceAdd]
  unfold zw_mv
  rw [ej, i4, decide_eq_true h, decide_eq_true h2, decide_eq_true h3]
  rfl
def zw_dr (x : Int32) : Int32 := x * 421 + 307 - (x * 421 + 307) / 30539 * 30539
def zw_drw (S : zW) : zW := (zWd S, zw_dr (zWx S), zWn S, zWm S, zWa S, zWo S, zWb S)
theorem c10_draw {E : zm_E} (hE : zm_ok E.2.2.1 E.2.2.2.2) (d : Nat) {w : Nat} (hw : zw_ok w) {M : zm_M} {S : zW} (hS : zw_c M w S) {Q : Option Value → zm_M → Prop} (q : ∀ M', zw_c M' w (zw_drw S) → zf (zw_L w) M M' → Q (some (.int (zWx S))) M') : zm_R E (d + 1) mX10_draw [.ref w] M Q := by
  refine zX10_draw hE rfl (fun G h0 => ?_)
  show G 0 [some (.ref w), none] [] M
  have ow := eq_true hw.1; have A1 := zw_A hw 1 (by decide) (by decide); have A2 := zw_A hw 2 (by decide) (by decide); have A3 := zw_A hw 3 (by decide) (by decide); have A4 := zw_A hw 4 (by decide) (by decide); have A5 := zw_A hw 5 (by decide) (by decide); have A6 := zw_A hw 6 (by decide) (by decide); have A7 := zw_A hw 7 (by decide) (by decide); have A8 := zw_A hw 8 (by decide) (by decide); have A9 := zw_A9 hw
  obtain ⟨s1, s2, s3, s4, s5, s6, s7⟩ := hS
  refine h0 _ _ _ ?_
  simp only [bX10_draw_0, zw_0, zw_1, zs_aloadn0, zs_aloadNn0, zg_10_15, zs_istoren1, zs_sipush, zs_imul, zs_iadd, zs_irem, zq_10_15, zs_iloadn1, zs_ireturn, zc_none, zc_int, zc_ref, zc_null, zc_long, zn_int, zn_b0, zn_b1, zb_15, zb_16, zb_17, za_18, za_19, za_20, za_21, za_22, zb_23, za_24, za_25, za_26, za_27, za_28, za_29, za_30, za_31, za_32, zb_35, za_36, za_37, za_38, za_39, za_40, zb_377, zb_378, za_379, za_380, za_381, za_382, za_383, zb_384, za_385, za_386, za_387, za_388, za_389, za_390, za_391, za_392, za_393, zb_396, za_397, za_398, za_399, za_400, za_401, zb_738, za_739, za_740, za_741, za_742, za_743, za_744, za_745, za_746, za_747, zb_748, za_749, za_750, zb_751, zb_752, za_753, za_754, za_755, za_756, zb_757, za_758, za_759, za_760, zb_761, za_763, za_764, za_765, true_and, and_true, Nat.reduceAdd, ow, A1, A2, A3, A4, A5, A6, A7, A8, A9, s2]
  refine ⟨by decide, q _ ⟨?_, ?_, ?_, ?_, fun f k hf hk => ?_, fun i hi => ?_, fun i j hi hj => ?_⟩ ?_⟩
  · simp [zm_wi_rd, s1, zw_drw, zWd]
  · simp [zm_wi_rd, zw_drw, zWx, zw_dr]
  · simp [zm_wi_rd, s3, zw_drw, zWn]
  · simp [zm_wi_rd, s4, zw_drw, zWm]
  · rw [zm_wi_other (by omega)]; exact s5 f k hf hk
  · rw [zm_wi_other (by omega)]; exact s6 i hi
  · rw [zm_wi_other (by omega)]; exact s7 i j hi hj
  · exact zf_wi zf_refl (by simp [zw_L])
