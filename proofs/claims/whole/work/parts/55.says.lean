/-! ===== the class: what a law says ===== -/
abbrev zD : Type := (Nat → Int) → (Int → Int) → Int
def zq_top (w : Nat) : Int := if w = 0 then 999 else if w = 1 then 10 else 9999
def zq_bd (w : Nat) (v : Int) : Int := if v < 0 then 0 else if zq_top w < v then zq_top w else v
def zq_un (w : Nat) (nm : Nat → Int) : Int := if w = 0 then nm 3 + 1 else if w = 1 then 10 - nm 3 else (nm 1).tdiv 2
def zq_said (D : Option zD) (w : Nat) (nm : Nat → Int) (rk : Int → Int) : Int := zq_bd w (match D with
  | none => zq_un w nm
  | some f => f nm rk)
theorem zq_top_0 (w : Nat) : 0 ≤ zq_top w := by
  unfold zq_top
  by_cases c : w = 0
  · rw [if_pos c]; omega
  · rw [if_neg c]
    by_cases c1 : w = 1
    · rw [if_pos c1]; omega
    · rw [if_neg c1]; omega
theorem zq_bd_in (w : Nat) (v : Int) : 0 ≤ zq_bd w v ∧ zq_bd w v ≤ zq_top w := by
  have h0 := zq_top_0 w
  unfold zq_bd
  by_cases c : v < 0
  · rw [if_pos c]; omega
  · rw [if_neg c]
    by_cases c1 : zq_top w < v
    · rw [if_pos c1]; omega
    · rw [if_neg c1]; omega
def zl_seg (cd wd : Nat → Nat) (c0 c1 : Nat) (D : zD) : Prop := c0 ≤ c1 ∧ c1 ≤ 300 ∧ ∀ nm rk st, (∀ i, i < 9 → zq_ok (nm i)) → (∀ v, zq_ok (rk v)) → ∃ k, zq_itr cd wd nm rk k (c0, st) = some (c1, D nm rk :: st)
def zl_cd (M : zm_M) (L : Nat) (cd wd : Nat → Nat) (c0 c1 : Nat) : Prop := ∀ i, c0 ≤ i → i < c1 → M.1 (L + 7) i = nI (cd i) ∧ M.1 (L + 8) i = nI (wd i) ∧ cd i ≤ 19
def zl_law (M : zm_M) (L w : Nat) (D : Option zD) : Prop := match D with
  | none => M.1 (L + 5) w = -1
  | some D => ∃ c0 c1 cd wd, M.1 (L + 5) w = nI c0 ∧ M.1 (L + 6) w = nI c1 ∧ zl_cd M L cd wd c0 c1 ∧ zl_seg cd wd c0 c1 D
def zl_ok (L : Nat) : Prop := ((41 ≤ L ∧ L + 9 ≤ 738) ∧ (L + 9 ≤ 77 ∨ 402 ≤ L)) ∧ zm_ob L 1 ∧ (∀ j, 1 ≤ j → j ≤ 4 → zm_ar (L + j) 0 24) ∧ (∀ j, 5 ≤ j → j ≤ 6 → zm_ar (L + j) 0 3) ∧ (∀ j, 7 ≤ j → j ≤ 8 → zm_ar (L + j) 0 300)
def zl_okb (L : Nat) : Bool := (decide (L + 9 ≤ 77) || decide (402 ≤ L)) && decide (41 ≤ L) && decide (L + 9 ≤ 738) && decide (zy_ly L = (1, 10)) && (List.range 5).all (fun j => decide (j = 0) || decide (zy_ly (L + j) = (100, 24))) && decide (zy_ly (L + 5) = (100, 3)) && decide (zy_ly (L + 6) = (100, 3)) && decide (zy_ly (L + 7) = (100, 300)) && decide (zy_ly (L + 8) = (100, 300))
theorem zl_ok_of {L : Nat} (h : zl_okb L = true) : zl_ok L := by
  unfold zl_okb at h
  simp only [Bool.and_eq_true, decide_eq_true_eq, List.all_eq_true, List.mem_range, Bool.or_eq_true] at h
  obtain ⟨⟨⟨⟨⟨⟨⟨⟨h0, h1⟩, h2⟩, h3⟩, h4⟩, h5⟩, h6⟩, h7⟩, h8⟩ := h
  have N : zy_N = 766 := rfl
  refine ⟨⟨⟨h1, h2⟩, h0⟩, ⟨by omega, by rw [h3], by decide⟩, fun j a b => ⟨by omega, ?_⟩, fun j a b => ⟨by omega, ?_⟩, fun j a b => ⟨by omega, ?_⟩⟩
  · rcases h4 j (by omega) with z | z
    · omega
    · exact z
  · rcases (show j = 5 ∨ j = 6 by omega) with rfl | rfl
    · exact h5
    · exact h6
  · rcases (show j = 7 ∨ j = 8 by omega) with rfl | rfl
    · exact h7
    · exact h8
theorem zl_all : ∀ t, t < 4 → zl_okb (41 + 9 * t) = true ∧ zl_okb (402 + 9 * t) = true := by decide +kernel
theorem zl_now {t : Nat} (h : t < 4) : zl_ok (41 + 9 * t) := zl_ok_of (zl_all t h).1
theorem zl_kept {t : Nat} (h : t < 4) : zl_ok (402 + 9 * t) := zl_ok_of (zl_all t h).2
theorem zl_law_c {M M' : zm_M} {L w : Nat} {D : Option zD} (h : zl_law M L w D) (e : ∀ j, 5 ≤ j → j ≤ 8 → M'.1 (L + j) = M.1 (L + j)) : zl_law M' L w D := by
  cases D with
  | none => show M'.1 (L + 5) w = -1; rw [e 5 (by omega) (by omega)]; exact h
  | some D =>
    obtain ⟨c0, c1, cd, wd, h1, h2, h3, h4⟩ := h
    exact ⟨c0, c1, cd, wd, by rw [e 5 (by omega) (by omega)]; exact h1, by rw [e 6 (by omega) (by omega)]; exact h2, fun i a b => by rw [e 7 (by omega) (by omega), e 8 (by omega) (by omega)]; exact h3 i a b, h4⟩
theorem c1_rules {E : zm_E} (hE : zm_ok E.2.2.1 E.2.2.2.2) (d : Nat) {L w : Nat} (hL : zl_ok L) (hw : w ≤ 2) (M : zm_M) : zm_R E (d + 1) mX1_rules [.ref L, .int (nI w)] M (fun r M' => r = some (.int (zi_b (decide (¬ M.1 (L + 5) w = -1)))) ∧ M' = M) := by
  refine zX1_rules hE rfl (fun G h0 h14 h15 => ?_)
  show G 0 [some (.ref L), some (.int (nI w))] [] M
  have ol := eq_true hL.2.1
  have A5 := za_of (hL.2.2.2.1 5 (by omega) (by omega))
  have v1 : vp_in (nI w) 3 := vp_in_nI (by omega) (by decide)
  have v2 : (nI w).toNatClampNeg = w := nI_clamp (by omega)
  refine h0 _ _ _ ?_
  simp only [bX1_rules_0, zw_0, zw_1, zs_aloadn0, zs_aloadNn0, zg_1_28, zs_iloadn1, zs_iaload, zs_iconst, zs_iceq, zs_goto, zb_15, zb_16, zb_17, za_18, za_19, za_20, za_21, za_22, zb_23, za_24, za_25, za_26, za_27, za_28, za_29, za_30, za_31, za_32, zb_35, za_36, za_37, za_38, za_39, za_40, zb_377, zb_378, za_379, za_380, za_381, za_382, za_383, zb_384, za_385, za_386, za_387, za_388, za_389, za_390, za_391, za_392, za_393, zb_396, za_397, za_398, za_399, za_400, za_401, zb_738, za_739, za_740, za_741, za_742, za_743, za_744, za_745, za_746, za_747, zb_748, za_749, za_750, zb_751, zb_752, za_753, za_754, za_755, za_756, zb_757, za_758, za_759, za_760, zb_761, za_763, za_764, za_765, zu_0, zu_1, zu_2, zu_3, zu_4, zu_5, zu_6, zu_7, zu_8, zu_9, zu_10, zu_11, zu_12, zu_13, zu_14, zu_15, zu_16, zu_17, zu_18, zu_19, zu_20, zu_21, zu_22, zu_23, zu_24, zu_25, zu_26, zu_27, zu_28, zu_29, zu_30, zu_90, zv_0_9, zv_1_9, zv_2_9, zv_3_9, zv_4_9, zv_5_9, zv_6_9, zv_7_9, zv_8_9, zv_0_330, zv_0_4544, zv_1_4544, zv_2_4544, zv_3_4544, zv_4_4544, zv_5_4544, zv_6_4544, zv_7_4544, zv_8_4544, zv_9_4544, zv_10_4544, zv_11_4544, zv_12_4544, zv_13_4544, zv_14_4544, zv_15_4544, zv_16_4544, zv_17_4544, zv_18_4544, zv_19_4544, zv_20_4544, zv_21_4544, zv_22_4544, zv_23_4544, zv_24_4544, zv_25_4544, zv_26_4544, zv_27_4544, zv_28_4544, zv_29_4544, zv_0_11, zv_1_11, zv_0_160, true_and, and_true, Nat.reduceAdd, ol, A5, v1, v2]
  refine ⟨fun h => ?_, fun h => ?_⟩
  · refine h14 _ _ _ ?_
    simp only [bX1_rules_14, zw_0, zw_1, zs_iconst, zb_15, zb_16, zb_17, za_18, za_19, za_20, za_21, za_22, zb_23, za_24, za_25, za_26, za_27, za_28, za_29, za_30, za_31, za_32, zb_35, za_36, za_37, za_38, za_39, za_40, zb_377, zb_378, za_379, za_380, za_381, za_382, za_383, zb_384, za_385, za_386, za_387, za_388, za_389, za_390, za_391, za_392, za_393, zb_396, za_397, za_398, za_399, za_400, za_401, zb_738, za_739, za_740, za_741, za_742, za_743, za_744, za_745, za_746, za_747, zb_748, za_749, za_750, zb_751, zb_752, za_753, za_754, za_755, za_756, zb_757, za_758, za_759, za_760, zb_761, za_763, za_764, za_765, true_and, and_true, Nat.reduceAdd]
    refine h15 _ _ _ ?_
    simp only [bX1_rules_15, zw_0, zw_1, zs_ireturn, zn_int, zn_b0, zn_b1, zb_15, zb_16, zb_17, za_18, za_19, za_20, za_21, za_22, zb_23, za_24, za_25, za_26, za_27, za_28, za_29, za_30, za_31, za_32, zb_35, za_36, za_37, za_38, za_39, za_40, zb_377, zb_378, za_379, za_380, za_381, za_382, za_383, zb_384, za_385, za_386, za_387, za_388, za_389, za_390, za_391, za_392, za_393, zb_396, za_397, za_398, za_399, za_400, za_401, zb_738, za_739, za_740, za_741, za_742, za_743, za_744, za_745, za_746, za_747, zb_748, za_749, za_750, zb_751, zb_752, za_753, za_754, za_755, za_756, zb_757, za_758, za_759, za_760, zb_761, za_763, za_764, za_765, true_and, and_true, Nat.reduceAdd]
    simp [h, zi_b]
  · refine h15 _ _ _ ?_
    simp only [bX1_rules_15, zw_0, zw_1, zs_ireturn, zn_int, zn_b0, zn_b1, zb_15, zb_16, zb_17, za_18, za_19, za_20, za_21, za_22, zb_23, za_24, za_25, za_26, za_27, za_28, za_29, za_30, za_31, za_32, zb_35, za_36, za_37, za_38, za_39, za_40, zb_377, zb_378, za_379, za_380, za_381, za_382, za_383, zb_384, za_385, za_386, za_387, za_388, za_389, za_390, za_391, za_392, za_393, zb_396, za_397, za_398, za_399, za_400, za_401, zb_738, za_739, za_740, za_741, za_742, za_743, za_744, za_745, za_746, za_747, zb_748, za_749, za_750, zb_751, zb_752, za_753, za_754, za_755, za_756, zb_757, za_758, za_759, za_760, zb_761, za_763, za_764, za_765, true_and, and_true, Nat.reduceAdd]
    simp [h, zi_b]
theorem c2_bound {E : zm_E} (hE : zm_ok E.2.2.1 E.2.2.2.2) (d : Nat) {w : Nat} (hw : w ≤ 2) {x : Int32} {v : Int} (hx : x.toInt = v) {M : zm_M} {Q : Option Value → zm_M → Prop} (q : ∀ y : Int32, y.toInt = zq_bd w v → Q (some (.int y)) M) : zm_R E (d + 1) mX2_bound [.int x, .int (nI w)] M Q := by
  refine zX2_bound hE rfl (fun G h0 h10 h20 h23 => ?_)
  show G 0 [some (.int x), some (.int (nI w)), none] [] M
  have w0 : (nI w = 0) = (w = 0) := propext (nI_eq (b := 0) (by omega) (by decide))
  have w1 : (nI w = 1) = (w = 1) := propext (nI_eq (b := 1) (by omega) (by decide))
  have fin : ∀ (t : Int32), t.toInt = zq_top w → G 23 [some (.int x), some (.int (nI w)), none] [.int t] M := by
    intro t ht
    have t0 := zq_top_0 w
    refine h23 _ _ _ ?_
    simp only [bX2_bound_23, zw_0, zw_1, zs_istoren2, zs_iconst, zs_iloadn0, zs_iloadn2, zi_2_71, zi_2_76, zs_ireturn, zc_none, zc_int, zc_ref, zc_null, zc_long, zh_0, zh_1, zh_2, zh_3, zh_4, zt_i, zt_l, zt_r, zt_n, zn_int, zn_b0, zn_b1, zb_15, zb_16, zb_17, za_18, za_19, za_20, za_21, za_22, zb_23, za_24, za_25, za_26, za_27, za_28, za_29, za_30, za_31, za_32, zb_35, za_36, za_37, za_38, za_39, za_40, zb_377, zb_378, za_379, za_380, za_381, za_382, za_383, zb_384, za_385, za_386, za_387, za_388, za_389, za_390, za_391, za_392, za_393, zb_396, za_397, za_398, za_399, za_400, za_401, zb_738, za_739, za_740, za_741, za_742, za_743, za_744, za_745, za_746, za_747, zb_748, za_749, za_750, zb_751, zb_752, za_753, za_754, za_755, za_756, zb_757, za_758, za_759, za_760, zb_761, za_763, za_764, za_765, true_and, and_true, Nat.reduceAdd]
    refine q _ ?_
    have e1 : (t < x) = (zq_top w < v) := by rw [zx_i32lt, ht, hx]
    by_cases c : zq_top w < v
    · have c' : t < x := by rw [e1]; exact c
      have e2 : ((0 : Int32) < t) = (0 < zq_top w) := by rw [zx_i32lt, ht]; rfl
      have bd : zq_bd w v = zq_top w := by
        unfold zq_bd
        rw [if_neg (show ¬ v < 0 by omega), if_pos c]
      rw [if_pos c', bd]
      by_cases c2 : 0 < zq_top w
      · have c2' : (0 : Int32) < t := by rw [e2]; exact c2
        rw [if_pos c2']; exact ht
      · have c2' : ¬ (0 : Int32) < t := by rw [e2]; exact c2
        rw [if_neg c2', show (0 : Int32).toInt = 0 from rfl]; omega
    · have c' : ¬ t < x := by rw [e1]; exact c
      have e2 : ((0 : Int32) < x) = (0 < v) := by rw [zx_i32lt, hx]; rfl
      rw [if_neg c']
      by_cases c2 : 0 < v
      · have c2' : (0 : Int32) < x := by rw [e2]; exact c2
        have bd : zq_bd w v = v := by
          unfold zq_bd
          rw [if_neg (show ¬ v < 0 by omega), if_neg c]
        rw [if_pos c2', bd]; exact hx
      · have c2' : ¬ (0 : Int32) < x := by rw [e2]; exact c2
        have bd : zq_bd w v = 0 := by
          unfold zq_bd
          by_cases c3 : v < 0
          · rw [if_pos c3]
          · rw [if_neg c3, if_neg c]; omega
        rw [if_neg c2', bd]; rfl
  refine h0 _ _ _ ?_
  simp only [bX2_bound_0, zw_0, zw_1, zs_iloadn1, zs_ifne, zs_sipush, zs_goto, zb_15, zb_16, zb_17, za_18, za_19, za_20, za_21, za_22, zb_23, za_24, za_25, za_26, za_27, za_28, za_29, za_30, za_31, za_32, zb_35, za_36, za_37, za_38, za_39, za_40, zb_377, zb_378, za_379, za_380, za_381, za_382, za_383, zb_384, za_385, za_386, za_387, za_388, za_389, za_390, za_391, za_392, za_393, zb_396, za_397, za_398, za_399, za_400, za_401, zb_738, za_739, za_740, za_741, za_742, za_743, za_744, za_745, za_746, za_747, zb_748, za_749, za_750, zb_751, zb_752, za_753, za_754, za_755, za_756, zb_757, za_758, za_759, za_760, zb_761, za_763, za_764, za_765, true_and, and_true, Nat.reduceAdd, w0]
  refine ⟨fun n0 => ?_, fun e0 => fin _ (by unfold zq_top; rw [if_pos e0]; rfl)⟩
  refine h10 _ _ _ ?_
  simp only [bX2_bound_10, zw_0, zw_1, zs_iloadn1, zs_iconst, zs_icne, zs_bipush, zs_goto, zb_15, zb_16, zb_17, za_18, za_19, za_20, za_21, za_22, zb_23, za_24, za_25, za_26, za_27, za_28, za_29, za_30, za_31, za_32, zb_35, za_36, za_37, za_38, za_39, za_40, zb_377, zb_378, za_379, za_380, za_381, za_382, za_383, zb_384, za_385, za_386, za_387, za_388, za_389, za_390, za_391, za_392, za_393, zb_396, za_397, za_398, za_399, za_400, za_401, zb_738, za_739, za_740, za_741, za_742, za_743, za_744, za_745, za_746, za_747, zb_748, za_749, za_750, zb_751, zb_752, za_753, za_754, za_755, za_756, zb_757, za_758, za_759, za_760, zb_761, za_763, za_764, za_765, true_and, and_true, Nat.reduceAdd, w1]
  refine ⟨fun n1 => ?_, fun e1 => fin _ (by unfold zq_top; rw [if_neg n0, if_pos e1]; rfl)⟩
  refine h20 _ _ _ ?_
  simp only [bX2_bound_20, zw_0, zw_1, zs_sipush, zb_15, zb_16, zb_17, za_18, za_19, za_20, za_21, za_22, zb_23, za_24, za_25, za_26, za_27, za_28, za_29, za_30, za_31, za_32, zb_35, za_36, za_37, za_38, za_39, za_40, zb_377, zb_378, za_379, za_380, za_381, za_382, za_383, zb_384, za_385, za_386, za_387, za_388, za_389, za_390, za_391, za_392, za_393, zb_396, za_397, za_398, za_399, za_400, za_401, zb_738, za_739, za_740, za_741, za_742, za_743, za_744, za_745, za_746, za_747, zb_748, za_749, za_750, zb_751, zb_752, za_753, za_754, za_755, za_756, zb_757, za_758, za_759, za_760, zb_761, za_763, za_764, za_765, true_and, and_true, Nat.reduceAdd]
  exact fin _ (by unfold zq_top; rw [if_neg n0, if_neg n1]; rfl)
theorem c2_unwritten {E : zm_E} (hE : zm_ok E.2.2.1 E.2.2.2.2) (d : Nat) {w : Nat} (hw : w ≤ 2) {M : zm_M} (hnm : ∀ i, i < 9 → zq_ok (M.1 749 i).toInt) {Q : Option Value → zm_M → Prop} (q : ∀ y : Int32, y.toInt = zq_un w (fun i => (M.1 749 i).toInt) → Q (some (.int y)) M) : zm_R E (d + 1) mX2_unwritten [.ref 748, .int (nI w)] M Q := by
  refine zX2_unwritten hE rfl (fun G h0 h28 h37 h47 => ?_)
  show G 0 [some (.ref 748), some (.int (nI w))] [] M
  have w0 : (nI w = 0) = (w = 0) := propext (nI_eq (b := 0) (by omega) (by decide))
  have w1 : (nI w = 1) = (w = 1) := propext (nI_eq (b := 1) (by omega) (by decide))
  have b3 := hnm 3 (by decide)
  have b1 := hnm 1 (by decide)
  unfold zq_ok at b3 b1
  refine h0 _ _ _ ?_
  simp only [bX2_unwritten_0, zw_0, zw_1, zs_iloadn1, zs_lsw, zm_sw, zb_15, zb_16, zb_17, za_18, za_19, za_20, za_21, za_22, zb_23, za_24, za_25, za_26, za_27, za_28, za_29, za_30, za_31, za_32, zb_35, za_36, za_37, za_38, za_39, za_40, zb_377, zb_378, za_379, za_380, za_381, za_382, za_383, zb_384, za_385, za_386, za_387, za_388, za_389, za_390, za_391, za_392, za_393, zb_396, za_397, za_398, za_399, za_400, za_401, zb_738, za_739, za_740, za_741, za_742, za_743, za_744, za_745, za_746, za_747, zb_748, za_749, za_750, zb_751, zb_752, za_753, za_754, za_755, za_756, zb_757, za_758, za_759, za_760, zb_761, za_763, za_764, za_765, true_and, and_true, Nat.reduceAdd, w0, w1]
  refine ⟨fun e0 => ?_, fun n0 => ⟨fun e1 => ?_, fun n1 => ?_⟩⟩
  · refine h28 _ _ _ ?_
    simp only [bX2_unwritten_28, zw_0, zw_1, zs_aloadn0, zs_aloadNn0, zg_2_9, zs_iconst, zs_iaload, zs_iadd, zs_ireturn, zn_int, zn_b0, zn_b1, zb_15, zb_16, zb_17, za_18, za_19, za_20, za_21, za_22, zb_23, za_24, za_25, za_26, za_27, za_28, za_29, za_30, za_31, za_32, zb_35, za_36, za_37, za_38, za_39, za_40, zb_377, zb_378, za_379, za_380, za_381, za_382, za_383, zb_384, za_385, za_386, za_387, za_388, za_389, za_390, za_391, za_392, za_393, zb_396, za_397, za_398, za_399, za_400, za_401, zb_738, za_739, za_740, za_741, za_742, za_743, za_744, za_745, za_746, za_747, zb_748, za_749, za_750, zb_751, zb_752, za_753, za_754, za_755, za_756, zb_757, za_758, za_759, za_760, zb_761, za_763, za_764, za_765, zu_0, zu_1, zu_2, zu_3, zu_4, zu_5, zu_6, zu_7, zu_8, zu_9, zu_10, zu_11, zu_12, zu_13, zu_14, zu_15, zu_16, zu_17, zu_18, zu_19, zu_20, zu_21, zu_22, zu_23, zu_24, zu_25, zu_26, zu_27, zu_28, zu_29, zu_30, zu_90, zv_0_9, zv_1_9, zv_2_9, zv_3_9, zv_4_9, zv_5_9, zv_6_9, zv_7_9, zv_8_9, zv_0_330, zv_0_4544, zv_1_4544, zv_2_4544, zv_3_4544, zv_4_4544, zv_5_4544, zv_6_4544, zv_7_4544, zv_8_4544, zv_9_4544, zv_10_4544, zv_11_4544, zv_12_4544, zv_13_4544, zv_14_4544, zv_15_4544, zv_16_4544, zv_17_4544, zv_18_4544, zv_19_4544, zv_20_4544, zv_21_4544, zv_22_4544, zv_23_4544, zv_24_4544, zv_25_4544, zv_26_4544, zv_27_4544, zv_28_4544, zv_29_4544, zv_0_11, zv_1_11, zv_0_160, true_and, and_true, Nat.reduceAdd]
    refine q _ ?_
    unfold zq_un
    rw [if_pos e0]
    exact zx_addI (x := (M.1 749 3).toInt) (y := 1) rfl rfl (by omega) (by omega)
  · refine h37 _ _ _ ?_
    simp only [bX2_unwritten_37, zw_0, zw_1, zs_bipush, zs_aloadn0, zs_aloadNn0, zg_2_9, zs_iconst, zs_iaload, zs_isub, zs_ireturn, zn_int, zn_b0, zn_b1, zb_15, zb_16, zb_17, za_18, za_19, za_20, za_21, za_22, zb_23, za_24, za_25, za_26, za_27, za_28, za_29, za_30, za_31, za_32, zb_35, za_36, za_37, za_38, za_39, za_40, zb_377, zb_378, za_379, za_380, za_381, za_382, za_383, zb_384, za_385, za_386, za_387, za_388, za_389, za_390, za_391, za_392, za_393, zb_396, za_397, za_398, za_399, za_400, za_401, zb_738, za_739, za_740, za_741, za_742, za_743, za_744, za_745, za_746, za_747, zb_748, za_749, za_750, zb_751, zb_752, za_753, za_754, za_755, za_756, zb_757, za_758, za_759, za_760, zb_761, za_763, za_764, za_765, zu_0, zu_1, zu_2, zu_3, zu_4, zu_5, zu_6, zu_7, zu_8, zu_9, zu_10, zu_11, zu_12, zu_13, zu_14, zu_15, zu_16, zu_17, zu_18, zu_19, zu_20, zu_21, zu_22, zu_23, zu_24, zu_25, zu_26, zu_27, zu_28, zu_29, zu_30, zu_90, zv_0_9, zv_1_9, zv_2_9, zv_3_9, zv_4_9, zv_5_9, zv_6_9, zv_7_9, zv_8_9, zv_0_330, zv_0_4544, zv_1_4544, zv_2_4544, zv_3_4544, zv_4_4544, zv_5_4544, zv_6_4544, zv_7_4544, zv_8_4544, zv_9_4544, zv_10_4544, zv_11_4544, zv_12_4544, zv_13_4544, zv_14_4544, zv_15_4544, zv_16_4544, zv_17_4544, zv_18_4544, zv_19_4544, zv_20_4544, zv_21_4544, zv_22_4544, zv_23_4544, zv_24_4544, zv_25_4544, zv_26_4544, zv_27_4544, zv_28_4544, zv_29_4544, zv_0_11, zv_1_11, zv_0_160, true_and, and_true, Nat.reduceAdd]
    refine q _ ?_
    unfold zq_un
    rw [if_neg n0, if_pos e1]
    exact zx_subI (x := 10) (y := (M.1 749 3).toInt) rfl rfl (by omega) (by omega)
  · refine h47 _ _ _ ?_
    simp only [bX2_unwritten_47, zw_0, zw_1, zs_aloadn0, zs_aloadNn0, zg_2_9, zs_iconst, zs_iaload, zs_idiv, zs_ireturn, zn_int, zn_b0, zn_b1, zb_15, zb_16, zb_17, za_18, za_19, za_20, za_21, za_22, zb_23, za_24, za_25, za_26, za_27, za_28, za_29, za_30, za_31, za_32, zb_35, za_36, za_37, za_38, za_39, za_40, zb_377, zb_378, za_379, za_380, za_381, za_382, za_383, zb_384, za_385, za_386, za_387, za_388, za_389, za_390, za_391, za_392, za_393, zb_396, za_397, za_398, za_399, za_400, za_401, zb_738, za_739, za_740, za_741, za_742, za_743, za_744, za_745, za_746, za_747, zb_748, za_749, za_750, zb_751, zb_752, za_753, za_754, za_755, za_756, zb_757, za_758, za_759, za_760, zb_761, za_763, za_764, za_765, zu_0, zu_1, zu_2, zu_3, zu_4, zu_5, zu_6, zu_7, zu_8, zu_9, zu_10, zu_11, zu_12, zu_13, zu_14, zu_15, zu_16, zu_17, zu_18, zu_19, zu_20, zu_21, zu_22, zu_23, zu_24, zu_25, zu_26, zu_27, zu_28, zu_29, zu_30, zu_90, zv_0_9, zv_1_9, zv_2_9, zv_3_9, zv_4_9, zv_5_9, zv_6_9, zv_7_9, zv_8_9, zv_0_330, zv_0_4544, zv_1_4544, zv_2_4544, zv_3_4544, zv_4_4544, zv_5_4544, zv_6_4544, zv_7_4544, zv_8_4544, zv_9_4544, zv_10_4544, zv_11_4544, zv_12_4544, zv_13_4544, zv_14_4544, zv_15_4544, zv_16_4544, zv_17_4544, zv_18_4544, zv_19_4544, zv_20_4544, zv_21_4544, zv_22_4544, zv_23_4544, zv_24_4544, zv_25_4544, zv_26_4544, zv_27_4544, zv_28_4544, zv_29_4544, zv_0_11, zv_1_11, zv_0_160, true_and, and_true, Nat.reduceAdd]
    refine ⟨by decide, q _ ?_⟩
    unfold zq_un
    rw [if_neg n0, if_neg n1]
    have hb := zx_tdiv (r := 2) (hnm 1 (by decide))
    unfold zq_ok at hb
    rw [Int32.toInt_div, show (2 : Int32).toInt = 2 from rfl, Int.bmod_eq_of_le (by omega) (by omega)]
theorem c2_value {E : zm_E} (hE : zm_ok E.2.2.1 E.2.2.2.2) (d : Nat) {n w L : Nat} (hw : w ≤ 2) {M : zm_M} (hr : zs_rk n M) (hc : M.1 17 0 = nI n) (hnm : ∀ i, i < 9 → zq_ok (M.1 749 i).toInt) {D : Option zD} {lw : Value} (hl : (lw = .null ∧ D = none) ∨ (lw = .ref L ∧ zl_ok L ∧ zl_law M L w D)) {Q : Option Value → zm_M → Prop} (q : ∀ x M', x.toInt = zq_said D w (fun i => (M.1 749 i).toInt) (zq_rk n (M.1 18)) → zf [748, 750] M M' → Q (some (.int x)) M') : zm_R E (d + 3) mX2_value [.ref 748, lw, .int (nI w)] M Q := by
  have un : ∀ (G : Nat → zm_L → List Value → zm_M → Prop), (∀ lv st M, zm_wp 2 (some .int) (zm_R E (d + 2)) G Q bX2_value_12 12 lv st M → G 12 lv st M) → D = none → G 12 [some (.ref 748), some lw, some (.int (nI w)), none, none, none, none] [] M := by
    intro G h12 hD
    refine h12 _ _ _ ?_
    simp only [bX2_value_12, zw_0, zw_1, zs_aloadn0, zs_aloadNn0, zs_iloadn2, zi_2_40, zi_2_44, zs_ireturn, zh_0, zh_1, zh_2, zh_3, zh_4, zt_i, zt_l, zt_r, zt_n, zn_int, zn_b0, zn_b1, zb_15, zb_16, zb_17, za_18, za_19, za_20, za_21, za_22, zb_23, za_24, za_25, za_26, za_27, za_28, za_29, za_30, za_31, za_32, zb_35, za_36, za_37, za_38, za_39, za_40, zb_377, zb_378, za_379, za_380, za_381, za_382, za_383, zb_384, za_385, za_386, za_387, za_388, za_389, za_390, za_391, za_392, za_393, zb_396, za_397, za_398, za_399, za_400, za_401, zb_738, za_739, za_740, za_741, za_742, za_743, za_744, za_745, za_746, za_747, zb_748, za_749, za_750, zb_751, zb_752, za_753, za_754, za_755, za_756, zb_757, za_758, za_759, za_760, zb_761, za_763, za_764, za_765, true_and, and_true, Nat.reduceAdd]
    refine c2_unwritten hE (d + 1) hw hnm (fun y hy => ?_)
    simp only [bX2_value_12, zw_0, zw_1, zs_aloadn0, zs_aloadNn0, zs_iloadn2, zi_2_40, zi_2_44, zs_ireturn, zh_0, zh_1, zh_2, zh_3, zh_4, zt_i, zt_l, zt_r, zt_n, zn_int, zn_b0, zn_b1, zb_15, zb_16, zb_17, za_18, za_19, za_20, za_21, za_22, zb_23, za_24, za_25, za_26, za_27, za_28, za_29, za_30, za_31, za_32, zb_35, za_36, za_37, za_38, za_39, za_40, zb_377, zb_378, za_379, za_380, za_381, za_382, za_383, zb_384, za_385, za_386, za_387, za_388, za_389, za_390, za_391, za_392, za_393, zb_396, za_397, za_398, za_399, za_400, za_401, zb_738, za_739, za_740, za_741, za_742, za_743, za_744, za_745, za_746, za_747, zb_748, za_749, za_750, zb_751, zb_752, za_753, za_754, za_755, za_756, zb_757, za_758, za_759, za_760, zb_761, za_763, za_764, za_765, true_and, and_true, Nat.reduceAdd]
    refine c2_bound hE (d + 1) hw hy (fun z hz => ?_)
    simp only [bX2_value_12, zw_0, zw_1, zs_aloadn0, zs_aloadNn0, zs_iloadn2, zi_2_40, zi_2_44, zs_ireturn, zh_0, zh_1, zh_2, zh_3, zh_4, zt_i, zt_l, zt_r, zt_n, zn_int, zn_b0, zn_b1, zb_15, zb_16, zb_17, za_18, za_19, za_20, za_21, za_22, zb_23, za_24, za_25, za_26, za_27, za_28, za_29, za_30, za_31, za_32, zb_35, za_36, za_37, za_38, za_39, za_40, zb_377, zb_378, za_379, za_380, za_381, za_382, za_383, zb_384, za_385, za_386, za_387, za_388, za_389, za_390, za_391, za_392, za_393, zb_396, za_397, za_398, za_399, za_400, za_401, zb_738, za_739, za_740, za_741, za_742, za_743, za_744, za_745, za_746, za_747, zb_748, za_749, za_750, zb_751, zb_752, za_753, za_754, za_755, za_756, zb_757, za_758, za_759, za_760, zb_761, za_763, za_764, za_765, true_and, and_true, Nat.reduceAdd]
    exact q z M (by rw [hD]; exact hz) zf_refl
  refine zX2_value hE (by rcases hl with ⟨e, -⟩ | ⟨e, -⟩ <;> rw [e] <;> rfl) (fun G h0 h12 h22 h45 h83 h106 h109 h113 h132 h138 => ?_)
  have st0 : zm_ent [.ref 748, lw, .int (nI w)] 7 = [some (.ref 748), some lw, some (.int (nI w)), none, none, none, none] := by
    rcases hl with ⟨e, -⟩ | ⟨e, -⟩ <;> rw [e] <;> rfl
  rw [st0]
  rcases hl with ⟨rfl, hD⟩ | ⟨rfl, hL, hlaw⟩
  · refine h0 _ _ _ ?_
    simp only [bX2_value_0, zw_0, zw_1, zs_aloadn1, zs_aloadNn1, zs_ifnullN, zs_ifnullR, zs_iloadn2, zi_2_34, zs_ifne, zh_0, zh_1, zh_2, zh_3, zh_4, zt_i, zt_l, zt_r, zt_n, zb_15, zb_16, zb_17, za_18, za_19, za_20, za_21, za_22, zb_23, za_24, za_25, za_26, za_27, za_28, za_29, za_30, za_31, za_32, zb_35, za_36, za_37, za_38, za_39, za_40, zb_377, zb_378, za_379, za_380, za_381, za_382, za_383, zb_384, za_385, za_386, za_387, za_388, za_389, za_390, za_391, za_392, za_393, zb_396, za_397, za_398, za_399, za_400, za_401, zb_738, za_739, za_740, za_741, za_742, za_743, za_744, za_745, za_746, za_747, zb_748, za_749, za_750, zb_751, zb_752, za_753, za_754, za_755, za_756, zb_757, za_758, za_759, za_760, zb_761, za_763, za_764, za_765, true_and, and_true, Nat.reduceAdd]
    exact un G h12 hD
  · have hL1 := hL.1
    have ol := eq_true hL.2.1
    have A5 := za_of (hL.2.2.2.1 5 (by omega) (by omega))
    have A6 := za_of (hL.2.2.2.1 6 (by omega) (by omega))
    have A7 := za_of (hL.2.2.2.2 7 (by omega) (by omega))
    have A8 := za_of (hL.2.2.2.2 8 (by omega) (by omega))
    have v1 : vp_in (nI w) 3 := vp_in_nI (by omega) (by decide)
    have v2 : (nI w).toNatClampNeg = w := nI_clamp (by omega)
    refine h0 _ _ _ ?_
    simp only [bX2_value_0, zw_0, zw_1, zs_aloadn1, zs_aloadNn1, zs_ifnullN, zs_ifnullR, zs_iloadn2, zi_2_34, zs_ifne, zh_0, zh_1, zh_2, zh_3, zh_4, zt_i, zt_l, zt_r, zt_n, zb_15, zb_16, zb_17, za_18, za_19, za_20, za_21, za_22, zb_23, za_24, za_25, za_26, za_27, za_28, za_29, za_30, za_31, za_32, zb_35, za_36, za_37, za_38, za_39, za_40, zb_377, zb_378, za_379, za_380, za_381, za_382, za_383, zb_384, za_385, za_386, za_387, za_388, za_389, za_390, za_391, za_392, za_393, zb_396, za_397, za_398, za_399, za_400, za_401, zb_738, za_739, za_740, za_741, za_742, za_743, za_744, za_745, za_746, za_747, zb_748, za_749, za_750, zb_751, zb_752, za_753, za_754, za_755, za_756, zb_757, za_758, za_759, za_760, zb_761, za_763, za_764, za_765, true_and, and_true, Nat.reduceAdd, ol]
    refine zm_R_eq (c1_rules hE (d + 1) hL hw M) ?_
    simp only [bX2_value_0, zw_0, zw_1, zs_aloadn1, zs_aloadNn1, zs_ifnullN, zs_ifnullR, zs_iloadn2, zi_2_34, zs_ifne, zh_0, zh_1, zh_2, zh_3, zh_4, zt_i, zt_l, zt_r, zt_n, zb_15, zb_16, zb_17, za_18, za_19, za_20, za_21, za_22, zb_23, za_24, za_25, za_26, za_27, za_28, za_29, za_30, za_31, za_32, zb_35, za_36, za_37, za_38, za_39, za_40, zb_377, zb_378, za_379, za_380, za_381, za_382, za_383, zb_384, za_385, za_386, za_387, za_388, za_389, za_390, za_391, za_392, za_393, zb_396, za_397, za_398, za_399, za_400, za_401, zb_738, za_739, za_740, za_741, za_742, za_743, za_744, za_745, za_746, za_747, zb_748, za_749, za_750, zb_751, zb_752, za_753, za_754, za_755, za_756, zb_757, za_758, za_759, za_760, zb_761, za_763, za_764, za_765, true_and, and_true, Nat.reduceAdd, zi_b1, zi_b0, decide_eq_true_eq, decide_eq_false_iff_not, Classical.not_not]
    cases D with
    | none =>
      have hlaw : M.1 (L + 5) w = -1 := hlaw
      exact ⟨fun h => absurd hlaw h, fun _ => un G h12 rfl⟩
    | some D =>
      obtain ⟨c0, c1, cd, wd, e5, e6, ecd, s1, s2, s3⟩ := hlaw
      refine ⟨fun _ => ?_, fun h => absurd (e5.symm.trans h) (zt_ne (by omega))⟩
      obtain ⟨k, hk⟩ := s3 (fun i => (M.1 749 i).toInt) (zq_rk n (M.1 18)) [] hnm (fun v => by
        unfold zq_rk zq_ok
        split
        · next c =>
          have := zt_rk_le hr.1 v.toNat (by omega)
          have := hr.1.1
          omega
        · omega)
      have rko : ∀ v, zq_ok (zq_rk n (M.1 18) v) := fun v => by
        unfold zq_rk zq_ok
        split
        · next c =>
          have := zt_rk_le hr.1 v.toNat (by omega)
          have := hr.1.1
          omega
        · omega
      have k0 : ∀ {M1 : zm_M} {p : Nat}, zf [748, 750] M M1 → p ≠ 748 → p ≠ 750 → M1.1 p = M.1 p := fun f a b => (f _ (by simp [a, b])).1
      have loop : ∀ (k m at_ : Nat) (st : List Int) (M1 : zm_M) (l6 : Option Value), zf [748, 750] M M1 → M1.1 748 3 = nI st.length → zq_st (M1.1 750) st → zq_all st → st.length ≤ m → m + k ≤ 300 → c0 ≤ at_ → zq_itr cd wd (fun i => (M.1 749 i).toInt) (zq_rk n (M.1 18)) k (at_, st) = some (c1, [D (fun i => (M.1 749 i).toInt) (zq_rk n (M.1 18))]) → G 45 [some (.ref 748), some (.ref L), some (.int (nI w)), some (.int (nI at_)), some (.int (nI c1)), some (.int (nI m)), l6] [] M1 := by
        intro k
        induction k with
        | zero =>
          intro m at_ st M1 l6 f1 h3 hst hall hm hmk ha hit
          cases hit
          have fin : G 138 [some (.ref 748), some (.ref L), some (.int (nI w)), some (.int (nI c1)), some (.int (nI c1)), some (.int (nI m)), l6] [] M1 := by
            refine h138 _ _ _ ?_
            simp only [bX2_value_138, zw_0, zw_1, zs_aloadn0, zs_aloadNn0, zi_2_60, zs_iloadn2, zi_2_44, zs_ireturn, zh_0, zh_1, zh_2, zh_3, zh_4, zt_i, zt_l, zt_r, zt_n, zn_int, zn_b0, zn_b1, zb_15, zb_16, zb_17, za_18, za_19, za_20, za_21, za_22, zb_23, za_24, za_25, za_26, za_27, za_28, za_29, za_30, za_31, za_32, zb_35, za_36, za_37, za_38, za_39, za_40, zb_377, zb_378, za_379, za_380, za_381, za_382, za_383, zb_384, za_385, za_386, za_387, za_388, za_389, za_390, za_391, za_392, za_393, zb_396, za_397, za_398, za_399, za_400, za_401, zb_738, za_739, za_740, za_741, za_742, za_743, za_744, za_745, za_746, za_747, zb_748, za_749, za_750, zb_751, zb_752, za_753, za_754, za_755, za_756, zb_757, za_758, za_759, za_760, zb_761, za_763, za_764, za_765, true_and, and_true, Nat.reduceAdd]
            refine c2_pop hE (d + 1) (n := 0) (by decide) h3 ?_
            simp only [bX2_value_138, zw_0, zw_1, zs_aloadn0, zs_aloadNn0, zi_2_60, zs_iloadn2, zi_2_44, zs_ireturn, zh_0, zh_1, zh_2, zh_3, zh_4, zt_i, zt_l, zt_r, zt_n, zn_int, zn_b0, zn_b1, zb_15, zb_16, zb_17, za_18, za_19, za_20, za_21, za_22, zb_23, za_24, za_25, za_26, za_27, za_28, za_29, za_30, za_31, za_32, zb_35, za_36, za_37, za_38, za_39, za_40, zb_377, zb_378, za_379, za_380, za_381, za_382, za_383, zb_384, za_385, za_386, za_387, za_388, za_389, za_390, za_391, za_392, za_393, zb_396, za_397, za_398, za_399, za_400, za_401, zb_738, za_739, za_740, za_741, za_742, za_743, za_744, za_745, za_746, za_747, zb_748, za_749, za_750, zb_751, zb_752, za_753, za_754, za_755, za_756, zb_757, za_758, za_759, za_760, zb_761, za_763, za_764, za_765, true_and, and_true, Nat.reduceAdd]
            refine c2_bound hE (d + 1) hw hst.1 (fun z hz => ?_)
            simp only [bX2_value_138, zw_0, zw_1, zs_aloadn0, zs_aloadNn0, zi_2_60, zs_iloadn2, zi_2_44, zs_ireturn, zh_0, zh_1, zh_2, zh_3, zh_4, zt_i, zt_l, zt_r, zt_n, zn_int, zn_b0, zn_b1, zb_15, zb_16, zb_17, za_18, za_19, za_20, za_21, za_22, zb_23, za_24, za_25, za_26, za_27, za_28, za_29, za_30, za_31, za_32, zb_35, za_36, za_37, za_38, za_39, za_40, zb_377, zb_378, za_379, za_380, za_381, za_382, za_383, zb_384, za_385, za_386, za_387, za_388, za_389, za_390, za_391, za_392, za_393, zb_396, za_397, za_398, za_399, za_400, za_401, zb_738, za_739, za_740, za_741, za_742, za_743, za_744, za_745, za_746, za_747, zb_748, za_749, za_750, zb_751, zb_752, za_753, za_754, za_755, za_756, zb_757, za_758, za_759, za_760, zb_761, za_763, za_764, za_765, true_and, and_true, Nat.reduceAdd]
            exact q z _ hz (zf_wi f1 (by decide))
          refine h45 _ _ _ ?_
          simp only [bX2_value_45, zw_0, zw_1, zs_iload5, zs_sipush, zs_icge, zs_iloadn3, zs_iload4, zs_aloadn1, zs_aloadNn1, zg_2_54, zs_iaload, zs_istore6, zs_iload6, zs_iconst, zs_icne, zg_2_57, zs_istoren3, zs_goto, zc_none, zc_int, zc_ref, zc_null, zc_long, zb_15, zb_16, zb_17, za_18, za_19, za_20, za_21, za_22, zb_23, za_24, za_25, za_26, za_27, za_28, za_29, za_30, za_31, za_32, zb_35, za_36, za_37, za_38, za_39, za_40, zb_377, zb_378, za_379, za_380, za_381, za_382, za_383, zb_384, za_385, za_386, za_387, za_388, za_389, za_390, za_391, za_392, za_393, zb_396, za_397, za_398, za_399, za_400, za_401, zb_738, za_739, za_740, za_741, za_742, za_743, za_744, za_745, za_746, za_747, zb_748, za_749, za_750, zb_751, zb_752, za_753, za_754, za_755, za_756, zb_757, za_758, za_759, za_760, zb_761, za_763, za_764, za_765, zu_0, zu_1, zu_2, zu_3, zu_4, zu_5, zu_6, zu_7, zu_8, zu_9, zu_10, zu_11, zu_12, zu_13, zu_14, zu_15, zu_16, zu_17, zu_18, zu_19, zu_20, zu_21, zu_22, zu_23, zu_24, zu_25, zu_26, zu_27, zu_28, zu_29, zu_30, zu_90, zv_0_9, zv_1_9, zv_2_9, zv_3_9, zv_4_9, zv_5_9, zv_6_9, zv_7_9, zv_8_9, zv_0_330, zv_0_4544, zv_1_4544, zv_2_4544, zv_3_4544, zv_4_4544, zv_5_4544, zv_6_4544, zv_7_4544, zv_8_4544, zv_9_4544, zv_10_4544, zv_11_4544, zv_12_4544, zv_13_4544, zv_14_4544, zv_15_4544, zv_16_4544, zv_17_4544, zv_18_4544, zv_19_4544, zv_20_4544, zv_21_4544, zv_22_4544, zv_23_4544, zv_24_4544, zv_25_4544, zv_26_4544, zv_27_4544, zv_28_4544, zv_29_4544, zv_0_11, zv_1_11, zv_0_160, true_and, and_true, Nat.reduceAdd, ol, A7, A8]
          refine ⟨fun _ => fin, fun _ => ⟨fun _ => fin, fun h => absurd (nI_le (Nat.le_refl c1) (by omega)) h⟩⟩
        | succ k ih =>
          intro m at_ st M1 l6 f1 h3 hst hall hm hmk ha hit
          have hlt := zq_itr_le _ _ _ hit
          simp only [zq_itr, Option.bind_eq_some_iff] at hit
          obtain ⟨⟨at', st'⟩, hs, hit⟩ := hit
          have hle := zq_stp_lt hs
          simp only at hlt hle
          obtain ⟨g7, g8, g19⟩ := ecd at_ ha (by omega)
          have f7 : M1.1 (L + 7) at_ = nI (cd at_) := by rw [k0 f1 (by omega) (by omega)]; exact g7
          have f8 : M1.1 (L + 8) at_ = nI (wd at_) := by rw [k0 f1 (by omega) (by omega)]; exact g8
          have i1 : vp_in (nI at_) 300 := vp_in_nI (by omega) (by decide)
          have i2 : (nI at_).toNatClampNeg = at_ := nI_clamp (by omega)
          have o5 : (nI (cd at_) = 5) = (cd at_ = 5) := propext (nI_eq (b := 5) (by omega) (by decide))
          have o6 : (nI (cd at_) = 6) = (cd at_ = 6) := propext (nI_eq (b := 6) (by omega) (by decide))
          have go : ∀ (M2 : zm_M) (l6 : Option Value), zf [748, 750] M M2 → M2.1 748 3 = nI st'.length → zq_st (M2.1 750) st' → zq_all st' → G 132 [some (.ref 748), some (.ref L), some (.int (nI w)), some (.int (nI at')), some (.int (nI c1)), some (.int (nI m)), l6] [] M2 := by
            intro M2 l6 g1 g2 g3 g4
            refine h132 _ _ _ ?_
            simp only [bX2_value_132, zw_0, zw_1, zs_iinc5, zs_goto, zc_none, zc_int, zc_ref, zc_null, zc_long, zb_15, zb_16, zb_17, za_18, za_19, za_20, za_21, za_22, zb_23, za_24, za_25, za_26, za_27, za_28, za_29, za_30, za_31, za_32, zb_35, za_36, za_37, za_38, za_39, za_40, zb_377, zb_378, za_379, za_380, za_381, za_382, za_383, zb_384, za_385, za_386, za_387, za_388, za_389, za_390, za_391, za_392, za_393, zb_396, za_397, za_398, za_399, za_400, za_401, zb_738, za_739, za_740, za_741, za_742, za_743, za_744, za_745, za_746, za_747, zb_748, za_749, za_750, zb_751, zb_752, za_753, za_754, za_755, za_756, zb_757, za_758, za_759, za_760, zb_761, za_763, za_764, za_765, true_and, and_true, Nat.reduceAdd, nI_1]
            exact ih (m + 1) at' st' M2 l6 g1 g2 g3 g4 (by omega) (by omega) (by omega) hit
          unfold zq_stp at hs
          simp only at hs
          refine h45 _ _ _ ?_
          simp only [bX2_value_45, zw_0, zw_1, zs_iload5, zs_sipush, zs_icge, zs_iloadn3, zs_iload4, zs_aloadn1, zs_aloadNn1, zg_2_54, zs_iaload, zs_istore6, zs_iload6, zs_iconst, zs_icne, zg_2_57, zs_istoren3, zs_goto, zc_none, zc_int, zc_ref, zc_null, zc_long, zb_15, zb_16, zb_17, za_18, za_19, za_20, za_21, za_22, zb_23, za_24, za_25, za_26, za_27, za_28, za_29, za_30, za_31, za_32, zb_35, za_36, za_37, za_38, za_39, za_40, zb_377, zb_378, za_379, za_380, za_381, za_382, za_383, zb_384, za_385, za_386, za_387, za_388, za_389, za_390, za_391, za_392, za_393, zb_396, za_397, za_398, za_399, za_400, za_401, zb_738, za_739, za_740, za_741, za_742, za_743, za_744, za_745, za_746, za_747, zb_748, za_749, za_750, zb_751, zb_752, za_753, za_754, za_755, za_756, zb_757, za_758, za_759, za_760, zb_761, za_763, za_764, za_765, zu_0, zu_1, zu_2, zu_3, zu_4, zu_5, zu_6, zu_7, zu_8, zu_9, zu_10, zu_11, zu_12, zu_13, zu_14, zu_15, zu_16, zu_17, zu_18, zu_19, zu_20, zu_21, zu_22, zu_23, zu_24, zu_25, zu_26, zu_27, zu_28, zu_29, zu_30, zu_90, zv_0_9, zv_1_9, zv_2_9, zv_3_9, zv_4_9, zv_5_9, zv_6_9, zv_7_9, zv_8_9, zv_0_330, zv_0_4544, zv_1_4544, zv_2_4544, zv_3_4544, zv_4_4544, zv_5_4544, zv_6_4544, zv_7_4544, zv_8_4544, zv_9_4544, zv_10_4544, zv_11_4544, zv_12_4544, zv_13_4544, zv_14_4544, zv_15_4544, zv_16_4544, zv_17_4544, zv_18_4544, zv_19_4544, zv_20_4544, zv_21_4544, zv_22_4544, zv_23_4544, zv_24_4544, zv_25_4544, zv_26_4544, zv_27_4544, zv_28_4544, zv_29_4544, zv_0_11, zv_1_11, zv_0_160, true_and, and_true, Nat.reduceAdd, ol, A7, A8, i1, i2, f7, f8, o5]
          refine ⟨fun h => absurd h (nI_ge (b := 300) (by omega) (by decide)), fun _ => ⟨fun h => absurd h (nI_ge (by omega) (by omega)), fun _ => ⟨fun n5 => ?_, fun e5 => ?_⟩⟩⟩
          · rw [if_neg n5] at hs
            refine h83 _ _ _ ?_
            simp only [bX2_value_83, zw_0, zw_1, zs_iload6, zs_bipush, zs_icne, zs_aloadn0, zs_aloadNn0, zi_2_60, zs_ifne, zs_aloadn1, zs_aloadNn1, zg_2_57, zs_iloadn3, zs_iaload, zs_goto, zh_0, zh_1, zh_2, zh_3, zh_4, zt_i, zt_l, zt_r, zt_n, zb_15, zb_16, zb_17, za_18, za_19, za_20, za_21, za_22, zb_23, za_24, za_25, za_26, za_27, za_28, za_29, za_30, za_31, za_32, zb_35, za_36, za_37, za_38, za_39, za_40, zb_377, zb_378, za_379, za_380, za_381, za_382, za_383, zb_384, za_385, za_386, za_387, za_388, za_389, za_390, za_391, za_392, za_393, zb_396, za_397, za_398, za_399, za_400, za_401, zb_738, za_739, za_740, za_741, za_742, za_743, za_744, za_745, za_746, za_747, zb_748, za_749, za_750, zb_751, zb_752, za_753, za_754, za_755, za_756, zb_757, za_758, za_759, za_760, zb_761, za_763, za_764, za_765, zu_0, zu_1, zu_2, zu_3, zu_4, zu_5, zu_6, zu_7, zu_8, zu_9, zu_10, zu_11, zu_12, zu_13, zu_14, zu_15, zu_16, zu_17, zu_18, zu_19, zu_20, zu_21, zu_22, zu_23, zu_24, zu_25, zu_26, zu_27, zu_28, zu_29, zu_30, zu_90, zv_0_9, zv_1_9, zv_2_9, zv_3_9, zv_4_9, zv_5_9, zv_6_9, zv_7_9, zv_8_9, zv_0_330, zv_0_4544, zv_1_4544, zv_2_4544, zv_3_4544, zv_4_4544, zv_5_4544, zv_6_4544, zv_7_4544, zv_8_4544, zv_9_4544, zv_10_4544, zv_11_4544, zv_12_4544, zv_13_4544, zv_14_4544, zv_15_4544, zv_16_4544, zv_17_4544, zv_18_4544, zv_19_4544, zv_20_4544, zv_21_4544, zv_22_4544, zv_23_4544, zv_24_4544, zv_25_4544, zv_26_4544, zv_27_4544, zv_28_4544, zv_29_4544, zv_0_11, zv_1_11, zv_0_160, true_and, and_true, Nat.reduceAdd, ol, A8, i1, i2, o6]
            refine ⟨fun n6 => ?_, fun e6 => ?_⟩
            · rw [if_neg n6] at hs
              simp only [Option.map_eq_some_iff] at hs
              obtain ⟨t, ht, e⟩ := hs
              cases e
              refine h113 _ _ _ ?_
              simp only [bX2_value_113, zw_0, zw_1, zs_aloadn0, zs_aloadNn0, zs_iload6, zs_aloadn1, zs_aloadNn1, zg_2_57, zs_iloadn3, zs_iaload, zi_2_64, zi_2_67, zs_iinc3, zc_none, zc_int, zc_ref, zc_null, zc_long, zh_0, zh_1, zh_2, zh_3, zh_4, zt_i, zt_l, zt_r, zt_n, zb_15, zb_16, zb_17, za_18, za_19, za_20, za_21, za_22, zb_23, za_24, za_25, za_26, za_27, za_28, za_29, za_30, za_31, za_32, zb_35, za_36, za_37, za_38, za_39, za_40, zb_377, zb_378, za_379, za_380, za_381, za_382, za_383, zb_384, za_385, za_386, za_387, za_388, za_389, za_390, za_391, za_392, za_393, zb_396, za_397, za_398, za_399, za_400, za_401, zb_738, za_739, za_740, za_741, za_742, za_743, za_744, za_745, za_746, za_747, zb_748, za_749, za_750, zb_751, zb_752, za_753, za_754, za_755, za_756, zb_757, za_758, za_759, za_760, zb_761, za_763, za_764, za_765, zu_0, zu_1, zu_2, zu_3, zu_4, zu_5, zu_6, zu_7, zu_8, zu_9, zu_10, zu_11, zu_12, zu_13, zu_14, zu_15, zu_16, zu_17, zu_18, zu_19, zu_20, zu_21, zu_22, zu_23, zu_24, zu_25, zu_26, zu_27, zu_28, zu_29, zu_30, zu_90, zv_0_9, zv_1_9, zv_2_9, zv_3_9, zv_4_9, zv_5_9, zv_6_9, zv_7_9, zv_8_9, zv_0_330, zv_0_4544, zv_1_4544, zv_2_4544, zv_3_4544, zv_4_4544, zv_5_4544, zv_6_4544, zv_7_4544, zv_8_4544, zv_9_4544, zv_10_4544, zv_11_4544, zv_12_4544, zv_13_4544, zv_14_4544, zv_15_4544, zv_16_4544, zv_17_4544, zv_18_4544, zv_19_4544, zv_20_4544, zv_21_4544, zv_22_4544, zv_23_4544, zv_24_4544, zv_25_4544, zv_26_4544, zv_27_4544, zv_28_4544, zv_29_4544, zv_0_11, zv_1_11, zv_0_160, true_and, and_true, Nat.reduceAdd, ol, A8, i1, i2, f8]
              cases st' with
              | nil =>
                exfalso
                unfold zq_fnd at ht
                split at ht
                · split at ht <;> cases ht
                · split at ht
                  · split at ht <;> cases ht
                  · cases st with
                    | nil => simp at ht
                    | cons r t => 
                      simp only at ht
                      split at ht
                      · cases ht
                      · split at ht
                        · split at ht <;> cases ht
                        · split at ht
                          · cases ht
                          · cases t with
                            | nil => simp at ht
                            | cons l t' =>
                              simp only at ht
                              split at ht
                              · cases ht
                              · split at ht <;> cases ht
              | cons v t' =>
                have e18 : M1.1 18 = M.1 18 := k0 f1 (by decide) (by decide)
                have e20 : M1.1 20 = M.1 20 := k0 f1 (by decide) (by decide)
                have e17 : M1.1 17 = M.1 17 := k0 f1 (by decide) (by decide)
                have e49 : M1.1 749 = M.1 749 := k0 f1 (by decide) (by decide)
                have hr1 : zs_rk n M1 := ⟨by rw [e18]; exact hr.1, fun i hi => by rw [e18, e20]; exact hr.2 i hi⟩
                have hall' := zq_fnd_ok (st := st) (t := v :: t') hnm rko hall ht
                refine c2_found hE d g19 hr1 (by rw [e17]; exact hc) hall (by omega) h3 hst (v := v) (t := t') (by rw [e49, e18]; exact ht) (fun x M2 hx b3 b50 fb => ?_)
                simp only [bX2_value_113, zw_0, zw_1, zs_aloadn0, zs_aloadNn0, zs_iload6, zs_aloadn1, zs_aloadNn1, zg_2_57, zs_iloadn3, zs_iaload, zi_2_64, zi_2_67, zs_iinc3, zc_none, zc_int, zc_ref, zc_null, zc_long, zh_0, zh_1, zh_2, zh_3, zh_4, zt_i, zt_l, zt_r, zt_n, zb_15, zb_16, zb_17, za_18, za_19, za_20, za_21, za_22, zb_23, za_24, za_25, za_26, za_27, za_28, za_29, za_30, za_31, za_32, zb_35, za_36, za_37, za_38, za_39, za_40, zb_377, zb_378, za_379, za_380, za_381, za_382, za_383, zb_384, za_385, za_386, za_387, za_388, za_389, za_390, za_391, za_392, za_393, zb_396, za_397, za_398, za_399, za_400, za_401, zb_738, za_739, za_740, za_741, za_742, za_743, za_744, za_745, za_746, za_747, zb_748, za_749, za_750, zb_751, zb_752, za_753, za_754, za_755, za_756, zb_757, za_758, za_759, za_760, zb_761, za_763, za_764, za_765, zu_0, zu_1, zu_2, zu_3, zu_4, zu_5, zu_6, zu_7, zu_8, zu_9, zu_10, zu_11, zu_12, zu_13, zu_14, zu_15, zu_16, zu_17, zu_18, zu_19, zu_20, zu_21, zu_22, zu_23, zu_24, zu_25, zu_26, zu_27, zu_28, zu_29, zu_30, zu_90, zv_0_9, zv_1_9, zv_2_9, zv_3_9, zv_4_9, zv_5_9, zv_6_9, zv_7_9, zv_8_9, zv_0_330, zv_0_4544, zv_1_4544, zv_2_4544, zv_3_4544, zv_4_4544, zv_5_4544, zv_6_4544, zv_7_4544, zv_8_4544, zv_9_4544, zv_10_4544, zv_11_4544, zv_12_4544, zv_13_4544, zv_14_4544, zv_15_4544, zv_16_4544, zv_17_4544, zv_18_4544, zv_19_4544, zv_20_4544, zv_21_4544, zv_22_4544, zv_23_4544, zv_24_4544, zv_25_4544, zv_26_4544, zv_27_4544, zv_28_4544, zv_29_4544, zv_0_11, zv_1_11, zv_0_160, true_and, and_true, Nat.reduceAdd]
                have lt' : t'.length < 300 := by simp at hle; omega
                have fM2 : zf [748, 750] M M2 := zf_trans f1 (zf_sub fb (by simp))
                refine c2_push hE (d + 1) lt' x b3 ?_
                simp only [bX2_value_113, zw_0, zw_1, zs_aloadn0, zs_aloadNn0, zs_iload6, zs_aloadn1, zs_aloadNn1, zg_2_57, zs_iloadn3, zs_iaload, zi_2_64, zi_2_67, zs_iinc3, zc_none, zc_int, zc_ref, zc_null, zc_long, zh_0, zh_1, zh_2, zh_3, zh_4, zt_i, zt_l, zt_r, zt_n, zb_15, zb_16, zb_17, za_18, za_19, za_20, za_21, za_22, zb_23, za_24, za_25, za_26, za_27, za_28, za_29, za_30, za_31, za_32, zb_35, za_36, za_37, za_38, za_39, za_40, zb_377, zb_378, za_379, za_380, za_381, za_382, za_383, zb_384, za_385, za_386, za_387, za_388, za_389, za_390, za_391, za_392, za_393, zb_396, za_397, za_398, za_399, za_400, za_401, zb_738, za_739, za_740, za_741, za_742, za_743, za_744, za_745, za_746, za_747, zb_748, za_749, za_750, zb_751, zb_752, za_753, za_754, za_755, za_756, zb_757, za_758, za_759, za_760, zb_761, za_763, za_764, za_765, zu_0, zu_1, zu_2, zu_3, zu_4, zu_5, zu_6, zu_7, zu_8, zu_9, zu_10, zu_11, zu_12, zu_13, zu_14, zu_15, zu_16, zu_17, zu_18, zu_19, zu_20, zu_21, zu_22, zu_23, zu_24, zu_25, zu_26, zu_27, zu_28, zu_29, zu_30, zu_90, zv_0_9, zv_1_9, zv_2_9, zv_3_9, zv_4_9, zv_5_9, zv_6_9, zv_7_9, zv_8_9, zv_0_330, zv_0_4544, zv_1_4544, zv_2_4544, zv_3_4544, zv_4_4544, zv_5_4544, zv_6_4544, zv_7_4544, zv_8_4544, zv_9_4544, zv_10_4544, zv_11_4544, zv_12_4544, zv_13_4544, zv_14_4544, zv_15_4544, zv_16_4544, zv_17_4544, zv_18_4544, zv_19_4544, zv_20_4544, zv_21_4544, zv_22_4544, zv_23_4544, zv_24_4544, zv_25_4544, zv_26_4544, zv_27_4544, zv_28_4544, zv_29_4544, zv_0_11, zv_1_11, zv_0_160, true_and, and_true, Nat.reduceAdd, nI_1]
                have stt : zq_st (M2.1 750) t' := by
                  rw [b50]
                  unfold zq_fnd at ht
                  split at ht
                  · split at ht
                    · cases ht; exact hst
                    · cases ht
                  · split at ht
                    · split at ht
                      · cases ht; exact hst
                      · cases ht
                    · cases st with
                      | nil => simp at ht
                      | cons r t => 
                        simp only at ht
                        split at ht
                        · cases ht; exact hst.2
                        · split at ht
                          · split at ht
                            · cases ht; exact hst.2
                            · cases ht
                          · split at ht
                            · cases ht; exact hst.2
                            · cases t with
                              | nil => simp at ht
                              | cons l t'' =>
                                simp only at ht
                                split at ht
                                · cases ht; exact hst.2.2
                                · split at ht
                                  · cases ht; exact hst.2.2
                                  · cases ht
                refine go _ _ (zf_wi (zf_wi fM2 (by decide)) (by decide)) (by rw [zm_wi_same, if_pos rfl]; rfl) ?_ hall'
                have e50 : (zm_wi (zm_wi M2 750 t'.length x) 748 3 (nI (t'.length + 1))).1 750 = (zm_wi M2 750 t'.length x).1 750 := zm_wi_other (by decide)
                rw [e50]
                refine ⟨by rw [zm_wi_same, if_pos rfl]; exact hx, zq_st_c (fun i hi => ?_) stt⟩
                rw [zm_wi_same, if_neg (by omega)]
            · rw [if_pos e6] at hs
              cases st with
              | nil => simp at hs
              | cons v t =>
                simp only at hs
                split at hs
                · next c =>
                  have lt : t.length < 300 := by simp at hm; omega
                  refine c2_pop hE (d + 1) lt h3 ?_
                  have hv : (M1.1 750 t.length).toInt = v := hst.1
                  have z0 : (M1.1 750 t.length = 0) = (v = 0) := by rw [zx_i32eq, hv]; rfl
                  have m8 : (zm_wi M1 748 3 (nI t.length)).1 (L + 8) at_ = nI (wd at_) := by rw [zm_wi_other (by omega)]; exact f8
                  simp only [bX2_value_83, zw_0, zw_1, zs_iload6, zs_bipush, zs_icne, zs_aloadn0, zs_aloadNn0, zi_2_60, zs_ifne, zs_aloadn1, zs_aloadNn1, zg_2_57, zs_iloadn3, zs_iaload, zs_goto, zh_0, zh_1, zh_2, zh_3, zh_4, zt_i, zt_l, zt_r, zt_n, zb_15, zb_16, zb_17, za_18, za_19, za_20, za_21, za_22, zb_23, za_24, za_25, za_26, za_27, za_28, za_29, za_30, za_31, za_32, zb_35, za_36, za_37, za_38, za_39, za_40, zb_377, zb_378, za_379, za_380, za_381, za_382, za_383, zb_384, za_385, za_386, za_387, za_388, za_389, za_390, za_391, za_392, za_393, zb_396, za_397, za_398, za_399, za_400, za_401, zb_738, za_739, za_740, za_741, za_742, za_743, za_744, za_745, za_746, za_747, zb_748, za_749, za_750, zb_751, zb_752, za_753, za_754, za_755, za_756, zb_757, za_758, za_759, za_760, zb_761, za_763, za_764, za_765, zu_0, zu_1, zu_2, zu_3, zu_4, zu_5, zu_6, zu_7, zu_8, zu_9, zu_10, zu_11, zu_12, zu_13, zu_14, zu_15, zu_16, zu_17, zu_18, zu_19, zu_20, zu_21, zu_22, zu_23, zu_24, zu_25, zu_26, zu_27, zu_28, zu_29, zu_30, zu_90, zv_0_9, zv_1_9, zv_2_9, zv_3_9, zv_4_9, zv_5_9, zv_6_9, zv_7_9, zv_8_9, zv_0_330, zv_0_4544, zv_1_4544, zv_2_4544, zv_3_4544, zv_4_4544, zv_5_4544, zv_6_4544, zv_7_4544, zv_8_4544, zv_9_4544, zv_10_4544, zv_11_4544, zv_12_4544, zv_13_4544, zv_14_4544, zv_15_4544, zv_16_4544, zv_17_4544, zv_18_4544, zv_19_4544, zv_20_4544, zv_21_4544, zv_22_4544, zv_23_4544, zv_24_4544, zv_25_4544, zv_26_4544, zv_27_4544, zv_28_4544, zv_29_4544, zv_0_11, zv_1_11, zv_0_160, true_and, and_true, Nat.reduceAdd, z0, ol, A8, i1, i2, m8]
                  have fin : ∀ x, x = (if v = 0 then wd at_ else at_ + 1) → G 109 [some (.ref 748), some (.ref L), some (.int (nI w)), some (.int (nI at_)), some (.int (nI c1)), some (.int (nI m)), some (.int (nI (cd at_)))] [.int (nI x)] (zm_wi M1 748 3 (nI t.length)) := by
                    intro x hx
                    refine h109 _ _ _ ?_
                    simp only [bX2_value_109, zw_0, zw_1, zs_istoren3, zs_goto, zc_none, zc_int, zc_ref, zc_null, zc_long, zb_15, zb_16, zb_17, za_18, za_19, za_20, za_21, za_22, zb_23, za_24, za_25, za_26, za_27, za_28, za_29, za_30, za_31, za_32, zb_35, za_36, za_37, za_38, za_39, za_40, zb_377, zb_378, za_379, za_380, za_381, za_382, za_383, zb_384, za_385, za_386, za_387, za_388, za_389, za_390, za_391, za_392, za_393, zb_396, za_397, za_398, za_399, za_400, za_401, zb_738, za_739, za_740, za_741, za_742, za_743, za_744, za_745, za_746, za_747, zb_748, za_749, za_750, zb_751, zb_752, za_753, za_754, za_755, za_756, zb_757, za_758, za_759, za_760, zb_761, za_763, za_764, za_765, true_and, and_true, Nat.reduceAdd]
                    have hs := Option.some.inj hs
                    have h1 : at' = x := by rw [hx]; exact (congrArg Prod.fst hs).symm
                    have h2 : st' = t := (congrArg Prod.snd hs).symm
                    rw [h1, h2] at go
                    refine go _ _ (zf_wi f1 (by decide)) (by rw [zm_wi_same, if_pos rfl]) ?_ (fun u hu => hall u (List.mem_cons_of_mem _ hu))
                    rw [zm_wi_other (by decide)]; exact hst.2
                  refine ⟨fun h => ?_, fun h => fin _ (by rw [if_pos h])⟩
                  refine h106 _ _ _ ?_
                  simp only [bX2_value_106, zw_0, zw_1, zs_iloadn3, zs_iconst, zs_iadd, zb_15, zb_16, zb_17, za_18, za_19, za_20, za_21, za_22, zb_23, za_24, za_25, za_26, za_27, za_28, za_29, za_30, za_31, za_32, zb_35, za_36, za_37, za_38, za_39, za_40, zb_377, zb_378, za_379, za_380, za_381, za_382, za_383, zb_384, za_385, za_386, za_387, za_388, za_389, za_390, za_391, za_392, za_393, zb_396, za_397, za_398, za_399, za_400, za_401, zb_738, za_739, za_740, za_741, za_742, za_743, za_744, za_745, za_746, za_747, zb_748, za_749, za_750, zb_751, zb_752, za_753, za_754, za_755, za_756, zb_757, za_758, za_759, za_760, zb_761, za_763, za_764, za_765, true_and, and_true, Nat.reduceAdd, nI_1]
                  exact fin _ (by rw [if_neg h])
                · cases hs
          · rw [if_pos e5] at hs
            split at hs
            · next c =>
              have hs := Option.some.inj hs
              have h1 : at' = wd at_ := (congrArg Prod.fst hs).symm
              have h2 : st' = st := (congrArg Prod.snd hs).symm
              rw [h1, h2] at go
              exact go _ _ f1 h3 hst hall
            · cases hs
      have hk300 := zq_itr_le _ _ _ hk
      simp only at hk300
      have e5' : (zm_wi M 748 3 0).1 (L + 5) w = nI c0 := by rw [zm_wi_other (by omega)]; exact e5
      have e6' : (zm_wi M 748 3 0).1 (L + 6) w = nI c1 := by rw [zm_wi_other (by omega)]; exact e6
      refine h22 _ _ _ ?_
      simp only [bX2_value_22, zw_0, zw_1, zs_aloadn0, zs_aloadNn0, zs_iconst, zq_2_18, zs_aloadn1, zs_aloadNn1, zg_2_48, zs_iloadn2, zs_iaload, zs_istoren3, zg_2_51, zs_istore4, zs_istore5, zc_none, zc_int, zc_ref, zc_null, zc_long, zb_15, zb_16, zb_17, za_18, za_19, za_20, za_21, za_22, zb_23, za_24, za_25, za_26, za_27, za_28, za_29, za_30, za_31, za_32, zb_35, za_36, za_37, za_38, za_39, za_40, zb_377, zb_378, za_379, za_380, za_381, za_382, za_383, zb_384, za_385, za_386, za_387, za_388, za_389, za_390, za_391, za_392, za_393, zb_396, za_397, za_398, za_399, za_400, za_401, zb_738, za_739, za_740, za_741, za_742, za_743, za_744, za_745, za_746, za_747, zb_748, za_749, za_750, zb_751, zb_752, za_753, za_754, za_755, za_756, zb_757, za_758, za_759, za_760, zb_761, za_763, za_764, za_765, zu_0, zu_1, zu_2, zu_3, zu_4, zu_5, zu_6, zu_7, zu_8, zu_9, zu_10, zu_11, zu_12, zu_13, zu_14, zu_15, zu_16, zu_17, zu_18, zu_19, zu_20, zu_21, zu_22, zu_23, zu_24, zu_25, zu_26, zu_27, zu_28, zu_29, zu_30, zu_90, zv_0_9, zv_1_9, zv_2_9, zv_3_9, zv_4_9, zv_5_9, zv_6_9, zv_7_9, zv_8_9, zv_0_330, zv_0_4544, zv_1_4544, zv_2_4544, zv_3_4544, zv_4_4544, zv_5_4544, zv_6_4544, zv_7_4544, zv_8_4544, zv_9_4544, zv_10_4544, zv_11_4544, zv_12_4544, zv_13_4544, zv_14_4544, zv_15_4544, zv_16_4544, zv_17_4544, zv_18_4544, zv_19_4544, zv_20_4544, zv_21_4544, zv_22_4544, zv_23_4544, zv_24_4544, zv_25_4544, zv_26_4544, zv_27_4544, zv_28_4544, zv_29_4544, zv_0_11, zv_1_11, zv_0_160, true_and, and_true, Nat.reduceAdd, ol, A5, A6, v1, v2, e5', e6']
      exact loop k 0 c0 [] _ none (zf_wi zf_refl (by decide)) (by rw [zm_wi_same, if_pos rfl]; rfl) trivial (fun u hu => absurd hu (by simp)) (by simp) (by omega) (Nat.le_refl _) hk
