/-! ===== the class: a text is read ===== -/
def zt_0 : zt_X := (fun _ => 0, fun _ => 0, fun _ => 0, fun _ => 0, fun _ => none)
def zt_ok (tp : Nat → Nat) (n nc : Nat) (X : zt_X) : Prop := ∀ G Fa Fi, zt_ru (zs_T tp n) (zs_N tp n) G Fa Fi → Fi nc X → G 0 0 zt_0
def zt_bad (tp : Nat → Nat) (n f j : Nat) : Prop := ∀ G Fa Fi, zt_ru (zs_T tp n) (zs_N tp n) G Fa Fi → Fa f j → G 0 0 zt_0
def zt_H (L : Nat) (M M' : zm_M) : Prop := zf [761, 762, 763, 764, L, L + 1, L + 2, L + 3, L + 4, L + 5, L + 6, L + 7, L + 8] M M'
theorem zt_lw_law {M : zm_M} {L w c : Nat} {D : Option zD} (h : zt_lw M L w c D) : zl_law M L w D := by
  cases D with
  | none => exact h
  | some D =>
    obtain ⟨c0, c1, x2, x3, x4, x5, x6⟩ := h
    exact ⟨c0, c1, _, _, x2, x3, x6.1, x6.2⟩
section
variable {E : zm_E} {tp : Nat → Nat} {n L : Nat}
theorem zd_read {d : Nat} {M : zm_M} (hE : zm_ok E.2.2.1 E.2.2.2.2) (hW : zk_W E) (hL : zl_ok L) (hT : zk_tc tp n M) {Q : Option Value → zm_M → Prop} (q1 : ∀ m nc X M', zk_st tp n m = n → m ≤ 300 → zt_ok tp n nc X → M'.1 761 0 = 1 → M'.1 761 1 = 0 → M'.1 761 2 = -1 → zl_cl M' L nc X.1 X.2.1 X.2.2.1 X.2.2.2.1 → (∀ w, w ≤ 2 → zl_law M' L w (X.2.2.2.2 w)) → zt_H L M M' → Q none M') (q2 : ∀ m f j M', zk_st tp n m = n → m ≤ 300 → zt_bad tp n f j → (1 ≤ f ∧ f ≤ 6) → M'.1 761 0 = 1 → M'.1 761 1 = nI f → M'.1 761 2 = nI (zk_st tp n j) → zt_H L M M' → Q none M') : zm_R E (d + 95) mX5_read [.ref 761, .ref 765, .int (nI n), .ref L] M Q := by
  refine zX5_read hE rfl (fun G h0 h57 h86 => ?_)
  show G 0 [some (.ref 761), some (.ref 765), some (.int (nI n)), some (.ref L), none] [] M
  have ol := eq_true hL.2.1
  have l := hL.1.1
  have n3 := hT.1
  have ht := hT.2.2
  have mn : (if (300 : Int32) < nI n then 300 else nI n) = nI n := if_neg (fun z => by
    have := (nI_ltI (a := 300) (b := n) (by decide) (by omega)).mp z
    omega)
  have fin : ∀ l4 M1, Q none M1 → G 86 [some (.ref 761), some (.ref 765), some (.int (nI n)), some (.ref L), l4] [] M1 := by
    intro l4 M1 h
    refine h86 _ _ _ ?_
    simp only [bX5_read_86, zw_0, zw_1, zs_return, zn_int, zn_b0, zn_b1, zb_15, zb_16, zb_17, za_18, za_19, za_20, za_21, za_22, zb_23, za_24, za_25, za_26, za_27, za_28, za_29, za_30, za_31, za_32, zb_35, za_36, za_37, za_38, za_39, za_40, zb_377, zb_378, za_379, za_380, za_381, za_382, za_383, zb_384, za_385, za_386, za_387, za_388, za_389, za_390, za_391, za_392, za_393, zb_396, za_397, za_398, za_399, za_400, za_401, zb_738, za_739, za_740, za_741, za_742, za_743, za_744, za_745, za_746, za_747, zb_748, za_749, za_750, zb_751, zb_752, za_753, za_754, za_755, za_756, zb_757, za_758, za_759, za_760, zb_761, za_763, za_764, za_765, true_and, and_true, Nat.reduceAdd]
    exact h
  have toH : ∀ {M1 M2 : zm_M}, zt_F L M1 M2 → zt_H L M1 M2 := fun h => zf_sub h.1 (by simp)
  have loop : ∀ (m : Nat) (M0 : zm_M), zk_st tp n m = n → m ≤ 300 → M0.1 761 0 = 1 → zt_H L M M0 → ∀ (x k nn c : Nat) (X : zt_X) (M1 : zm_M), 25 - nn = x → nn ≤ 24 → (∀ G Fa Fi, zt_ru (zs_T tp n) (zs_N tp n) G Fa Fi → G k nn X → G 0 0 zt_0) → zt_S tp n m L k nn c X M1 → zt_F L M0 M1 → G 57 [some (.ref 761), some (.ref 765), some (.int (nI n)), some (.ref L), some (.int (nI nn))] [] M1 := by
    intro m M0 hm m3 a0 H0 x
    induction x with
    | zero => intro k nn c X M1 hx h24; omega
    | succ x ih =>
      intro k nn c X M1 hx h24 path S1 F1
      have g8 : M1.2.2 761 8 = some (1000 + zs_T tp n k) := S1.1.2.2.2
      have e24 : ((24 : Int32) < nI nn) = False := eq_false (fun z => by
        have := (nI_ltI (a := 24) (b := nn) (by decide) (by omega)).mp z
        omega)
      have e43 : (1000 + zs_T tp n k = 1043) = (zs_T tp n k = 43) := propext ⟨fun z => by omega, fun z => by omega⟩
      refine h57 _ _ _ ?_
      simp only [bX5_read_57, zw_0, zw_1, zs_iload4, zs_bipush, zs_icgt, zs_aloadn0, zs_aloadNn0, zg_5_45, zgs_41, zs_aceq, zi_5_70, zs_iinc4, zs_goto, zc_none, zc_int, zc_ref, zc_null, zc_long, zh_0, zh_1, zh_2, zh_3, zh_4, zt_i, zt_l, zt_r, zt_n, zb_15, zb_16, zb_17, za_18, za_19, za_20, za_21, za_22, zb_23, za_24, za_25, za_26, za_27, za_28, za_29, za_30, za_31, za_32, zb_35, za_36, za_37, za_38, za_39, za_40, zb_377, zb_378, za_379, za_380, za_381, za_382, za_383, zb_384, za_385, za_386, za_387, za_388, za_389, za_390, za_391, za_392, za_393, zb_396, za_397, za_398, za_399, za_400, za_401, zb_738, za_739, za_740, za_741, za_742, za_743, za_744, za_745, za_746, za_747, zb_748, za_749, za_750, zb_751, zb_752, za_753, za_754, za_755, za_756, zb_757, za_758, za_759, za_760, zb_761, za_763, za_764, za_765, true_and, and_true, Nat.reduceAdd, e24, g8, zk_rf, e43, not_false_eq_true, true_implies, false_implies]
      refine ⟨fun t43 => ?_, fun t43 => ?_⟩
      · obtain ⟨r1, r2, r3, r4, r5, r6, r7⟩ := S1
        exact fin _ M1 (q1 m nn X M1 hm m3 (fun G Fa Fi hr hf => path G Fa Fi hr (hr.1 k nn X t43 hf)) (by rw [F1.2.1 0 (by decide)]; exact a0) r3.1 r3.2 r6 (fun w hw => zt_lw_law (r7 w hw)) (zf_trans H0 (toH F1)))
      · refine zd_clause hE ht hL (by omega) h24 t43 S1 (fun k' c' X' M2 p2 S2 F2 kk lt => ?_) (fun f j c' M2 p2 e2 F2 => ?_)
        · simp only [bX5_read_57, zw_0, zw_1, zs_iload4, zs_bipush, zs_icgt, zs_aloadn0, zs_aloadNn0, zg_5_45, zgs_41, zs_aceq, zi_5_70, zs_iinc4, zs_goto, zc_none, zc_int, zc_ref, zc_null, zc_long, zh_0, zh_1, zh_2, zh_3, zh_4, zt_i, zt_l, zt_r, zt_n, zb_15, zb_16, zb_17, za_18, za_19, za_20, za_21, za_22, zb_23, za_24, za_25, za_26, za_27, za_28, za_29, za_30, za_31, za_32, zb_35, za_36, za_37, za_38, za_39, za_40, zb_377, zb_378, za_379, za_380, za_381, za_382, za_383, zb_384, za_385, za_386, za_387, za_388, za_389, za_390, za_391, za_392, za_393, zb_396, za_397, za_398, za_399, za_400, za_401, zb_738, za_739, za_740, za_741, za_742, za_743, za_744, za_745, za_746, za_747, zb_748, za_749, za_750, zb_751, zb_752, za_753, za_754, za_755, za_756, zb_757, za_758, za_759, za_760, zb_761, za_763, za_764, za_765, true_and, and_true, Nat.reduceAdd, nI_1]
          exact ih k' (nn + 1) c' X' M2 (by omega) (by omega) (fun G Fa Fi hr hg => path G Fa Fi hr (p2 G Fa Fi hr hg)) S2 (zt_F_trans F1 F2)
        · simp only [bX5_read_57, zw_0, zw_1, zs_iload4, zs_bipush, zs_icgt, zs_aloadn0, zs_aloadNn0, zg_5_45, zgs_41, zs_aceq, zi_5_70, zs_iinc4, zs_goto, zc_none, zc_int, zc_ref, zc_null, zc_long, zh_0, zh_1, zh_2, zh_3, zh_4, zt_i, zt_l, zt_r, zt_n, zb_15, zb_16, zb_17, za_18, za_19, za_20, za_21, za_22, zb_23, za_24, za_25, za_26, za_27, za_28, za_29, za_30, za_31, za_32, zb_35, za_36, za_37, za_38, za_39, za_40, zb_377, zb_378, za_379, za_380, za_381, za_382, za_383, zb_384, za_385, za_386, za_387, za_388, za_389, za_390, za_391, za_392, za_393, zb_396, za_397, za_398, za_399, za_400, za_401, zb_738, za_739, za_740, za_741, za_742, za_743, za_744, za_745, za_746, za_747, zb_748, za_749, za_750, zb_751, zb_752, za_753, za_754, za_755, za_756, zb_757, za_758, za_759, za_760, zb_761, za_763, za_764, za_765, true_and, and_true, Nat.reduceAdd, nI_1]
          have F3 := zt_F_trans F1 F2
          have done' : Q none M2 := q2 m f j M2 hm m3 (fun G Fa Fi hr hf => path G Fa Fi hr (p2 G Fa Fi hr hf)) e2.2.2.1 (by rw [F3.2.1 0 (by decide)]; exact a0) e2.2.2.2.1 e2.2.2.2.2.1 (zf_trans H0 (toH F3))
          have g82 := zd_wE e2
          refine h57 _ _ _ ?_
          simp only [bX5_read_57, zw_0, zw_1, zs_iload4, zs_bipush, zs_icgt, zs_aloadn0, zs_aloadNn0, zg_5_45, zgs_41, zs_aceq, zi_5_70, zs_iinc4, zs_goto, zc_none, zc_int, zc_ref, zc_null, zc_long, zh_0, zh_1, zh_2, zh_3, zh_4, zt_i, zt_l, zt_r, zt_n, zb_15, zb_16, zb_17, za_18, za_19, za_20, za_21, za_22, zb_23, za_24, za_25, za_26, za_27, za_28, za_29, za_30, za_31, za_32, zb_35, za_36, za_37, za_38, za_39, za_40, zb_377, zb_378, za_379, za_380, za_381, za_382, za_383, zb_384, za_385, za_386, za_387, za_388, za_389, za_390, za_391, za_392, za_393, zb_396, za_397, za_398, za_399, za_400, za_401, zb_738, za_739, za_740, za_741, za_742, za_743, za_744, za_745, za_746, za_747, zb_748, za_749, za_750, zb_751, zb_752, za_753, za_754, za_755, za_756, zb_757, za_758, za_759, za_760, zb_761, za_763, za_764, za_765, true_and, and_true, Nat.reduceAdd, g82, zk_rf, not_true_eq_false, not_false_eq_true, true_implies, false_implies]
          exact ⟨fun _ => fin _ M2 done', fun _ => fin _ M2 done'⟩
  refine h0 _ _ _ ?_
  simp only [bX5_read_0, zw_0, zw_1, zs_aloadn0, zs_aloadNn0, zs_iconst, zq_5_9, zq_5_15, zq_5_19, zs_aloadn1, zs_aloadNn1, zs_iloadn2, zs_sipush, zi_5_55, zi_5_61, zs_aloadn3, zs_aloadNn3, zq_5_51, zq_5_51n, zq_5_51v, zg_5_51, zi_5_65, zq_5_38, zg_5_24, zs_aaload, zm_a762, zm_ao_762, zq_5_45, zq_5_45n, zq_5_45v, zs_istore4, zc_none, zc_int, zc_ref, zc_null, zc_long, zh_0, zh_1, zh_2, zh_3, zh_4, zt_i, zt_l, zt_r, zt_n, zb_15, zb_16, zb_17, za_18, za_19, za_20, za_21, za_22, zb_23, za_24, za_25, za_26, za_27, za_28, za_29, za_30, za_31, za_32, zb_35, za_36, za_37, za_38, za_39, za_40, zb_377, zb_378, za_379, za_380, za_381, za_382, za_383, zb_384, za_385, za_386, za_387, za_388, za_389, za_390, za_391, za_392, za_393, zb_396, za_397, za_398, za_399, za_400, za_401, zb_738, za_739, za_740, za_741, za_742, za_743, za_744, za_745, za_746, za_747, zb_748, za_749, za_750, zb_751, zb_752, za_753, za_754, za_755, za_756, zb_757, za_758, za_759, za_760, zb_761, za_763, za_764, za_765, true_and, and_true, Nat.reduceAdd, true_or, or_true]
  rw [mn]
  obtain ⟨d, rfl⟩ : ∃ e, d = e + 0 := ⟨d, rfl⟩
  have T1 : zk_tc tp n (zm_wi (zm_wi (zm_wi M 761 0 1) 761 1 0) 761 2 (-1)) := ⟨hT.1, fun i hi => by rw [zm_wi_other (by decide), zm_wi_other (by decide), zm_wi_other (by decide)]; exact hT.2.1 i hi, ht⟩
  refine c5_findTokens hE hW (d + 87) T1 (fun m M1 C1 f1 g1 r1 => ?_)
  have lr : va_rf ((zm_wr M1 761 10 (some L)).2.2 761 10) = .ref L := by rw [zm_wr_same, if_pos rfl]; rfl
  simp only [bX5_read_0, zw_0, zw_1, zs_aloadn0, zs_aloadNn0, zs_iconst, zq_5_9, zq_5_15, zq_5_19, zs_aloadn1, zs_aloadNn1, zs_iloadn2, zs_sipush, zi_5_55, zi_5_61, zs_aloadn3, zs_aloadNn3, zq_5_51, zq_5_51n, zq_5_51v, zg_5_51, zi_5_65, zq_5_38, zg_5_24, zs_aaload, zm_a762, zm_ao_762, zq_5_45, zq_5_45n, zq_5_45v, zs_istore4, zc_none, zc_int, zc_ref, zc_null, zc_long, zh_0, zh_1, zh_2, zh_3, zh_4, zt_i, zt_l, zt_r, zt_n, zb_15, zb_16, zb_17, za_18, za_19, za_20, za_21, za_22, zb_23, za_24, za_25, za_26, za_27, za_28, za_29, za_30, za_31, za_32, zb_35, za_36, za_37, za_38, za_39, za_40, zb_377, zb_378, za_379, za_380, za_381, za_382, za_383, zb_384, za_385, za_386, za_387, za_388, za_389, za_390, za_391, za_392, za_393, zb_396, za_397, za_398, za_399, za_400, za_401, zb_738, za_739, za_740, za_741, za_742, za_743, za_744, za_745, za_746, za_747, zb_748, za_749, za_750, zb_751, zb_752, za_753, za_754, za_755, za_756, zb_757, za_758, za_759, za_760, zb_761, za_763, za_764, za_765, true_and, and_true, Nat.reduceAdd, lr, ol]
  refine c1_clear hE (d + 92) hL (fun M3 c0 c7 c5 c6 f3 g3 => ?_)
  have k762 : M3.2.2 762 = M1.2.2 762 := by rw [(f3 762 (by simp; omega)).2.2]; rfl
  have k763 : M3.1 763 = M1.1 763 := by rw [(f3 763 (by simp; omega)).1]; rfl
  have k764 : M3.1 764 = M1.1 764 := by rw [(f3 764 (by simp; omega)).1]; rfl
  have k761 : M3.1 761 = M1.1 761 := by rw [(f3 761 (by simp; omega)).1]; rfl
  have r761 : M3.2.2 761 10 = some L := by rw [(f3 761 (by simp; omega)).2.2, zm_wr_same, if_pos rfl]
  have w0 : M1.2.2 762 0 = some (1000 + zs_T tp n 0) := (C1.2.2.2.2 0 (Nat.zero_le _)).1
  simp only [bX5_read_0, zw_0, zw_1, zs_aloadn0, zs_aloadNn0, zs_iconst, zq_5_9, zq_5_15, zq_5_19, zs_aloadn1, zs_aloadNn1, zs_iloadn2, zs_sipush, zi_5_55, zi_5_61, zs_aloadn3, zs_aloadNn3, zq_5_51, zq_5_51n, zq_5_51v, zg_5_51, zi_5_65, zq_5_38, zg_5_24, zs_aaload, zm_a762, zm_ao_762, zq_5_45, zq_5_45n, zq_5_45v, zs_istore4, zc_none, zc_int, zc_ref, zc_null, zc_long, zh_0, zh_1, zh_2, zh_3, zh_4, zt_i, zt_l, zt_r, zt_n, zb_15, zb_16, zb_17, za_18, za_19, za_20, za_21, za_22, zb_23, za_24, za_25, za_26, za_27, za_28, za_29, za_30, za_31, za_32, zb_35, za_36, za_37, za_38, za_39, za_40, zb_377, zb_378, za_379, za_380, za_381, za_382, za_383, zb_384, za_385, za_386, za_387, za_388, za_389, za_390, za_391, za_392, za_393, zb_396, za_397, za_398, za_399, za_400, za_401, zb_738, za_739, za_740, za_741, za_742, za_743, za_744, za_745, za_746, za_747, zb_748, za_749, za_750, zb_751, zb_752, za_753, za_754, za_755, za_756, zb_757, za_758, za_759, za_760, zb_761, za_763, za_764, za_765, true_and, and_true, Nat.reduceAdd, k762, w0, zk_rf]
  refine ⟨vp_in_nI (by decide : 0 < 301) (by decide), ?_⟩
  have b2 : (zm_wi M3 761 7 0).2.2 762 (Int32.toNatClampNeg 0) = some (1000 + zs_T tp n 0) := by
    show M3.2.2 762 0 = _
    rw [k762]; exact w0
  rw [b2]
  have f4 : zf [761] M3 (zm_wr (zm_wi M3 761 7 0) 761 8 (some (1000 + zs_T tp n 0))) := zf_wr (zf_wi zf_refl (by decide)) (by decide)
  have i4 : ∀ j, j ≠ 7 → (zm_wr (zm_wi M3 761 7 0) 761 8 (some (1000 + zs_T tp n 0))).1 761 j = M1.1 761 j := fun j hj => by rw [zm_wr_1, zm_wi_same, if_neg hj, k761]
  have i7 : (zm_wr (zm_wi M3 761 7 0) 761 8 (some (1000 + zs_T tp n 0))).1 761 7 = 0 := by rw [zm_wr_1, zm_wi_same, if_pos rfl]
  have j8 : (zm_wr (zm_wi M3 761 7 0) 761 8 (some (1000 + zs_T tp n 0))).2.2 761 8 = some (1000 + zs_T tp n 0) := by rw [zm_wr_same, if_pos rfl]
  have j10 : (zm_wr (zm_wi M3 761 7 0) 761 8 (some (1000 + zs_T tp n 0))).2.2 761 10 = some L := by rw [zm_wr_same, if_neg (by decide)]; exact r761
  have m1 : ∀ j, j ≠ 6 → M1.1 761 j = (zm_wi (zm_wi (zm_wi M 761 0 1) 761 1 0) 761 2 (-1)).1 761 j := fun j hj => g1 j (by simpa using hj)
  have q0 : M1.1 761 0 = 1 := by rw [m1 0 (by decide), zm_wi_same, if_neg (by decide), zm_wi_same, if_neg (by decide), zm_wi_same, if_pos rfl]
  have q1' : M1.1 761 1 = 0 := by rw [m1 1 (by decide), zm_wi_same, if_neg (by decide), zm_wi_same, if_pos rfl]
  have q2' : M1.1 761 2 = -1 := by rw [m1 2 (by decide), zm_wi_same, if_pos rfl]
  have H1 : zt_H L M M1 := zf_trans (zf_wi (zf_wi (zf_wi zf_refl (by simp)) (by simp)) (by simp)) (zf_sub f1 (by simp))
  have H4 : zt_H L M (zm_wr (zm_wi M3 761 7 0) 761 8 (some (1000 + zs_T tp n 0))) := zf_trans (zf_trans H1 (zf_wr zf_refl (by simp))) (zf_trans (zf_sub f3 (by simp)) (zf_sub f4 (by simp)))
  generalize zm_wr (zm_wi M3 761 7 0) 761 8 (some (1000 + zs_T tp n 0)) = M4 at *
  have kq : ∀ q, q ≠ 761 → M4.1 q = M3.1 q ∧ M4.2.2 q = M3.2.2 q := fun q hq => ⟨(f4 q (by simpa using hq)).1, (f4 q (by simpa using hq)).2.2⟩
  obtain ⟨x1, x2, x3, x4, x5⟩ := C1
  refine loop m M4 x3 x2 (by rw [i4 0 (by decide)]; exact q0) H4 25 0 0 0 zt_0 M4 rfl (by decide) (fun G Fa Fi _ hg => hg) ⟨⟨⟨by rw [i4 6 (by decide)]; exact x1, x2, x3, x4, fun i hi => ?_⟩, Nat.zero_le _, i7, j8⟩, j10, ⟨by rw [i4 1 (by decide)]; exact q1', by rw [i4 2 (by decide)]; exact q2'⟩, ?_, Nat.le_refl _, ⟨?_, by decide, fun k hk => absurd hk (by omega)⟩, fun w hw => ?_⟩ zt_F_refl
  · obtain ⟨y1, y2, y3⟩ := x5 i hi
    exact ⟨by rw [(kq 762 (by decide)).2, k762]; exact y1, by rw [(kq 763 (by decide)).1, k763]; exact y2, fun p q => by rw [(kq 764 (by decide)).1, k764]; exact y3 p q⟩
  · rw [(kq L (by omega)).1]; exact c7
  · rw [(kq L (by omega)).1]; exact c0
  · show M4.1 (L + 5) w = -1
    rw [(kq (L + 5) (by omega)).1]; exact c5 w (by omega)
end
