/-! ===== the reference: reckoning ===== -/
theorem zx_i64lt {x y : Int64} : (x < y) = (x.toInt < y.toInt) := propext Int64.lt_iff_toInt_lt
theorem zx_i64le {x y : Int64} : (x ≤ y) = (x.toInt ≤ y.toInt) := propext Int64.le_iff_toInt_le
theorem zx_i64eq {x y : Int64} : (x = y) = (x.toInt = y.toInt) := propext Int64.toInt_inj.symm
theorem zx_tdiv2 (a : Int) (m n : Nat) : (a.tdiv (m : Int)).tdiv (n : Int) = a.tdiv ((m * n : Nat) : Int) := by
  have pos : ∀ k : Nat, (((k : Int).tdiv (m : Int)).tdiv (n : Int)) = (k : Int).tdiv ((m * n : Nat) : Int) := by
    intro k
    rw [← Int.ofNat_tdiv, ← Int.ofNat_tdiv, ← Int.ofNat_tdiv, Nat.div_div_eq_div_mul]
  rcases Int.eq_nat_or_neg a with ⟨k, rfl | rfl⟩
  · exact pos k
  · rw [Int.neg_tdiv, Int.neg_tdiv, Int.neg_tdiv, pos k]
theorem c_clip {E : zm_E} (hE : zm_ok E.2.2.1 E.2.2.2.2) (d : Nat) (x : Int64) {M : zm_M} {Q : Option Value → zm_M → Prop} (q : ∀ y : Int64, y.toInt = zq_clip x.toInt → Q (some (.long y)) M) : zm_R E (d + 1) mX12_clip [.long x] M Q := by
  refine zX12_clip hE rfl (fun G h0 h14 h28 h29 => ?_)
  show G 0 [some (.long x), none] [] M
  have e1 : (x ≤ 1000000) = (x.toInt ≤ 1000000) := zx_i64le
  have e2 : ((-1000000 : Int64) ≤ x) = (-1000000 ≤ x.toInt) := zx_i64le
  have fin : ∀ (y : Int64) lv, y.toInt = zq_clip x.toInt → G 29 lv [.long y] M := by
    intro y lv hy
    refine h29 _ _ _ ?_
    simp only [bX12_clip_29, zw_0, zw_1, zs_lreturn, zn_int, zn_b0, zn_b1, zb_0, za_1, za_2, za_3, za_4, za_5, za_6, za_7, za_8, za_9, za_10, za_11, za_12, za_13, za_14, true_and, and_true, Nat.reduceAdd]
    exact q y hy
  refine h0 _ _ _ ?_
  simp only [bX12_clip_0, zw_0, zw_1, zs_lloadn0, zd_12_254, zs_lcmp, zs_ifle, zs_goto, zb_0, za_1, za_2, za_3, za_4, za_5, za_6, za_7, za_8, za_9, za_10, za_11, za_12, za_13, za_14, true_and, and_true, Nat.reduceAdd, lg_cmp_le, e1]
  refine ⟨fun h => ?_, fun h => fin _ _ ?_⟩
  · refine h14 _ _ _ ?_
    simp only [bX12_clip_14, zw_0, zw_1, zs_lloadn0, zd_12_256, zs_lcmp, zs_ifge, zs_goto, zb_0, za_1, za_2, za_3, za_4, za_5, za_6, za_7, za_8, za_9, za_10, za_11, za_12, za_13, za_14, true_and, and_true, Nat.reduceAdd, lg_cmp_ge, e2]
    refine ⟨fun h2 => ?_, fun h2 => fin _ _ ?_⟩
    · refine h28 _ _ _ ?_
      simp only [bX12_clip_28, zw_0, zw_1, zs_lloadn0, zb_0, za_1, za_2, za_3, za_4, za_5, za_6, za_7, za_8, za_9, za_10, za_11, za_12, za_13, za_14, true_and, and_true, Nat.reduceAdd]
      refine fin _ _ ?_
      unfold zq_clip
      rw [if_neg (by omega), if_neg (by omega)]
    · unfold zq_clip
      rw [if_neg (by omega), if_pos (by omega)]
      decide
  · unfold zq_clip
    rw [if_pos (by omega)]
    decide
theorem zx_mulJ {l r : Int} (hl : zq_ok l) (hr : zq_ok r) {x y : Int64} (hx : x.toInt = l) (hy : y.toInt = r) : (x * y).toInt = l * r := by
  unfold zq_ok at hl hr
  have hb : (l * r).natAbs ≤ 1000000 * 1000000 := by
    rw [Int.natAbs_mul]
    exact Nat.mul_le_mul (by omega) (by omega)
  rw [Int64.toInt_mul, hx, hy, Int.bmod_eq_of_le (by omega) (by omega)]
theorem c_two {E : zm_E} (hE : zm_ok E.2.2.1 E.2.2.2.2) (d : Nat) {o : Nat} (ho : 6 ≤ o) (ho2 : o ≤ 9) {x y : Int64} {l r : Int} (hx : x.toInt = l) (hy : y.toInt = r) (hl : zq_ok l) (hr : zq_ok r) {M : zm_M} {Q : Option Value → zm_M → Prop} (q : ∀ v : Int64, v.toInt = zq_ar (o + 1) l r → Q (some (.long v)) M) : zm_R E (d + 2) mX12_two [.int (nI o), .long x, .long y] M Q := by
  refine zX12_two hE rfl (fun G h0 h28 h35 h42 h49 h59 h65 => ?_)
  show G 0 [some (.int (nI o)), some (.long x), none, some (.long y), none] [] M
  have hl' := hl
  have hr' := hr
  unfold zq_ok at hl hr
  have oe : ∀ k : Nat, k < 20 → ((nI o = nI k) ↔ o = k) := fun k hk => nI_eq (by omega) (by omega)
  have o6 : (nI o = 6) = (o = 6) := propext (oe 6 (by decide))
  have o7 : (nI o = 7) = (o = 7) := propext (oe 7 (by decide))
  have o8 : (nI o = 8) = (o = 8) := propext (oe 8 (by decide))
  have y0 : (y = 0) = (r = 0) := by rw [zx_i64eq, hy]; rfl
  refine h0 _ _ _ ?_
  simp only [bX12_two_0, zw_0, zw_1, zs_iloadn0, zs_tsw, zm_sw, zb_0, za_1, za_2, za_3, za_4, za_5, za_6, za_7, za_8, za_9, za_10, za_11, za_12, za_13, za_14, true_and, and_true, Nat.reduceAdd, o6, o7, o8]
  refine ⟨fun h => ?_, fun n6 => ⟨fun h => ?_, fun n7 => ⟨fun h => ?_, fun n8 => ?_⟩⟩⟩
  · refine h28 _ _ _ ?_
    simp only [bX12_two_28, zw_0, zw_1, zs_lloadn1, zs_lloadn3, zs_ladd, zi_12_258, zs_lreturn, zh_0, zh_1, zh_2, zh_3, zh_4, zt_i, zt_l, zt_r, zt_n, zn_int, zn_b0, zn_b1, zb_0, za_1, za_2, za_3, za_4, za_5, za_6, za_7, za_8, za_9, za_10, za_11, za_12, za_13, za_14, true_and, and_true, Nat.reduceAdd]
    refine c_clip hE d _ (fun v hv => ?_)
    simp only [bX12_two_28, zw_0, zw_1, zs_lloadn1, zs_lloadn3, zs_ladd, zi_12_258, zs_lreturn, zh_0, zh_1, zh_2, zh_3, zh_4, zt_i, zt_l, zt_r, zt_n, zn_int, zn_b0, zn_b1, zb_0, za_1, za_2, za_3, za_4, za_5, za_6, za_7, za_8, za_9, za_10, za_11, za_12, za_13, za_14, true_and, and_true, Nat.reduceAdd]
    refine q v ?_
    rw [hv, Int64.toInt_add, hx, hy, Int.bmod_eq_of_le (by omega) (by omega)]
    unfold zq_ar; rw [if_pos (by omega)]
  · refine h35 _ _ _ ?_
    simp only [bX12_two_35, zw_0, zw_1, zs_lloadn1, zs_lloadn3, zs_lsub, zi_12_258, zs_lreturn, zh_0, zh_1, zh_2, zh_3, zh_4, zt_i, zt_l, zt_r, zt_n, zn_int, zn_b0, zn_b1, zb_0, za_1, za_2, za_3, za_4, za_5, za_6, za_7, za_8, za_9, za_10, za_11, za_12, za_13, za_14, true_and, and_true, Nat.reduceAdd]
    refine c_clip hE d _ (fun v hv => ?_)
    simp only [bX12_two_35, zw_0, zw_1, zs_lloadn1, zs_lloadn3, zs_lsub, zi_12_258, zs_lreturn, zh_0, zh_1, zh_2, zh_3, zh_4, zt_i, zt_l, zt_r, zt_n, zn_int, zn_b0, zn_b1, zb_0, za_1, za_2, za_3, za_4, za_5, za_6, za_7, za_8, za_9, za_10, za_11, za_12, za_13, za_14, true_and, and_true, Nat.reduceAdd]
    refine q v ?_
    rw [hv, Int64.toInt_sub, hx, hy, Int.bmod_eq_of_le (by omega) (by omega)]
    unfold zq_ar; rw [if_neg (by omega), if_pos (by omega)]
  · refine h42 _ _ _ ?_
    simp only [bX12_two_42, zw_0, zw_1, zs_lloadn1, zs_lloadn3, zs_lmul, zi_12_258, zs_lreturn, zh_0, zh_1, zh_2, zh_3, zh_4, zt_i, zt_l, zt_r, zt_n, zn_int, zn_b0, zn_b1, zb_0, za_1, za_2, za_3, za_4, za_5, za_6, za_7, za_8, za_9, za_10, za_11, za_12, za_13, za_14, true_and, and_true, Nat.reduceAdd]
    refine c_clip hE d _ (fun v hv => ?_)
    simp only [bX12_two_42, zw_0, zw_1, zs_lloadn1, zs_lloadn3, zs_lmul, zi_12_258, zs_lreturn, zh_0, zh_1, zh_2, zh_3, zh_4, zt_i, zt_l, zt_r, zt_n, zn_int, zn_b0, zn_b1, zb_0, za_1, za_2, za_3, za_4, za_5, za_6, za_7, za_8, za_9, za_10, za_11, za_12, za_13, za_14, true_and, and_true, Nat.reduceAdd]
    refine q v ?_
    rw [hv, zx_mulJ hl' hr' hx hy]
    unfold zq_ar; rw [if_neg (by omega), if_neg (by omega), if_pos (by omega)]
  · have ar : zq_ar (o + 1) l r = zq_clip (if r = 0 then 0 else l.tdiv r) := by
      unfold zq_ar; rw [if_neg (by omega), if_neg (by omega), if_neg (by omega), if_pos (by omega)]
    refine h49 _ _ _ ?_
    simp only [bX12_two_49, zw_0, zw_1, zs_lloadn3, zs_lconst0, zs_lcmp, zs_ifne, zs_goto, zb_0, za_1, za_2, za_3, za_4, za_5, za_6, za_7, za_8, za_9, za_10, za_11, za_12, za_13, za_14, true_and, and_true, Nat.reduceAdd, lg_cmp_eq, y0]
    refine ⟨fun hz => ?_, fun hz => ?_⟩
    · refine h59 _ _ _ ?_
      simp only [bX12_two_59, zw_0, zw_1, zs_lloadn1, zs_lloadn3, zs_ldiv, zi_12_258, zh_0, zh_1, zh_2, zh_3, zh_4, zt_i, zt_l, zt_r, zt_n, zb_0, za_1, za_2, za_3, za_4, za_5, za_6, za_7, za_8, za_9, za_10, za_11, za_12, za_13, za_14, true_and, and_true, Nat.reduceAdd, y0]
      refine ⟨hz, ?_⟩
      refine c_clip hE d _ (fun v hv => ?_)
      simp only [bX12_two_59, zw_0, zw_1, zs_lloadn1, zs_lloadn3, zs_ldiv, zi_12_258, zh_0, zh_1, zh_2, zh_3, zh_4, zt_i, zt_l, zt_r, zt_n, zb_0, za_1, za_2, za_3, za_4, za_5, za_6, za_7, za_8, za_9, za_10, za_11, za_12, za_13, za_14, true_and, and_true, Nat.reduceAdd]
      refine h65 _ _ _ ?_
      simp only [bX12_two_65, zw_0, zw_1, zs_lreturn, zn_int, zn_b0, zn_b1, zb_0, za_1, za_2, za_3, za_4, za_5, za_6, za_7, za_8, za_9, za_10, za_11, za_12, za_13, za_14, true_and, and_true, Nat.reduceAdd]
      refine q v ?_
      have hb := zx_tdiv (r := r) hl'
      unfold zq_ok at hb
      rw [hv, Int64.toInt_div, hx, hy, Int.bmod_eq_of_le (by omega) (by omega), ar, if_neg hz]
    · refine h65 _ _ _ ?_
      simp only [bX12_two_65, zw_0, zw_1, zs_lreturn, zn_int, zn_b0, zn_b1, zb_0, za_1, za_2, za_3, za_4, za_5, za_6, za_7, za_8, za_9, za_10, za_11, za_12, za_13, za_14, true_and, and_true, Nat.reduceAdd]
      refine q 0 ?_
      rw [ar, if_pos hz]; rfl
theorem c_isAsked {E : zm_E} (hE : zm_ok E.2.2.1 E.2.2.2.2) (d : Nat) {o : Nat} (ho : 10 ≤ o) (ho2 : o ≤ 15) {x y : Int64} {l r : Int} (hx : x.toInt = l) (hy : y.toInt = r) {M : zm_M} : zm_R E (d + 1) mX12_isAsked [.int (nI o), .long x, .long y] M (fun v M' => v = some (.int (zi_b (zq_cp (o + 2) l r))) ∧ M' = M) := by
  refine zX12_isAsked hE rfl (fun G h0 h16 h20 h36 h40 h56 h60 h76 h80 h96 h100 h110 h111 => ?_)
  show G 0 [some (.int (nI o)), some (.long x), none, some (.long y), none] [] M
  have oe : ∀ k : Nat, k < 20 → ((nI o = nI k) ↔ o = k) := fun k hk => nI_eq (by omega) (by omega)
  have o10 : (nI o = 10) = (o = 10) := propext (oe 10 (by decide))
  have o11 : (nI o = 11) = (o = 11) := propext (oe 11 (by decide))
  have o12 : (nI o = 12) = (o = 12) := propext (oe 12 (by decide))
  have o13 : (nI o = 13) = (o = 13) := propext (oe 13 (by decide))
  have o14 : (nI o = 14) = (o = 14) := propext (oe 14 (by decide))
  have fin : ∀ (z : Bool) lv, z = zq_cp (o + 2) l r → G 111 lv [.int (zi_b z)] M := by
    intro z lv hz
    refine h111 _ _ _ ?_
    simp only [bX12_isAsked_111, zw_0, zw_1, zs_ireturn, zn_int, zn_b0, zn_b1, zb_0, za_1, za_2, za_3, za_4, za_5, za_6, za_7, za_8, za_9, za_10, za_11, za_12, za_13, za_14, true_and, and_true, Nat.reduceAdd, zi_b_b]
    rw [hz]
  have f1 : ∀ lv, zq_cp (o + 2) l r = true → G 111 lv [.int 1] M := fun lv h => fin true lv h.symm
  have f0 : ∀ lv, zq_cp (o + 2) l r = false → G 111 lv [.int 0] M := fun lv h => fin false lv h.symm
  have elt : (x < y) = (l < r) := by rw [zx_i64lt, hx, hy]
  have ele : (x ≤ y) = (l ≤ r) := by rw [zx_i64le, hx, hy]
  have egt : (y < x) = (r < l) := by rw [zx_i64lt, hx, hy]
  have ege : (y ≤ x) = (r ≤ l) := by rw [zx_i64le, hx, hy]
  have eeq : (x = y) = (l = r) := by rw [zx_i64eq, hx, hy]
  refine h0 _ _ _ ?_
  simp only [bX12_isAsked_0, zw_0, zw_1, zs_iloadn0, zs_bipush, zs_icne, zs_lloadn1, zs_lloadn3, zs_lcmp, zs_ifge, zs_iconst, zs_goto, zb_0, za_1, za_2, za_3, za_4, za_5, za_6, za_7, za_8, za_9, za_10, za_11, za_12, za_13, za_14, true_and, and_true, Nat.reduceAdd, o10, lg_cmp_ge, ege]
  refine ⟨fun n10 => ?_, fun e => ⟨fun h => ?_, fun h => f1 _ ?_⟩⟩
  · refine h20 _ _ _ ?_
    simp only [bX12_isAsked_20, zw_0, zw_1, zs_iloadn0, zs_bipush, zs_icne, zs_lloadn1, zs_lloadn3, zs_lcmp, zs_ifgt, zs_iconst, zs_goto, zb_0, za_1, za_2, za_3, za_4, za_5, za_6, za_7, za_8, za_9, za_10, za_11, za_12, za_13, za_14, true_and, and_true, Nat.reduceAdd, o11, lg_cmp_gt, egt]
    refine ⟨fun n11 => ?_, fun e => ⟨fun h => ?_, fun h => f1 _ ?_⟩⟩
    · refine h40 _ _ _ ?_
      simp only [bX12_isAsked_40, zw_0, zw_1, zs_iloadn0, zs_bipush, zs_icne, zs_lloadn1, zs_lloadn3, zs_lcmp, zs_ifle, zs_iconst, zs_goto, zb_0, za_1, za_2, za_3, za_4, za_5, za_6, za_7, za_8, za_9, za_10, za_11, za_12, za_13, za_14, true_and, and_true, Nat.reduceAdd, o12, lg_cmp_le, ele]
      refine ⟨fun n12 => ?_, fun e => ⟨fun h => ?_, fun h => f1 _ ?_⟩⟩
      · refine h60 _ _ _ ?_
        simp only [bX12_isAsked_60, zw_0, zw_1, zs_iloadn0, zs_bipush, zs_icne, zs_lloadn1, zs_lloadn3, zs_lcmp, zs_iflt, zs_iconst, zs_goto, zb_0, za_1, za_2, za_3, za_4, za_5, za_6, za_7, za_8, za_9, za_10, za_11, za_12, za_13, za_14, true_and, and_true, Nat.reduceAdd, o13, lg_cmp_lt, elt]
        refine ⟨fun n13 => ?_, fun e => ⟨fun h => ?_, fun h => f1 _ ?_⟩⟩
        · refine h80 _ _ _ ?_
          simp only [bX12_isAsked_80, zw_0, zw_1, zs_iloadn0, zs_bipush, zs_icne, zs_lloadn1, zs_lloadn3, zs_lcmp, zs_ifne, zs_iconst, zs_goto, zb_0, za_1, za_2, za_3, za_4, za_5, za_6, za_7, za_8, za_9, za_10, za_11, za_12, za_13, za_14, true_and, and_true, Nat.reduceAdd, o14, lg_cmp_eq, eeq]
          refine ⟨fun n14 => ?_, fun e => ⟨fun h => ?_, fun h => f1 _ ?_⟩⟩
          · refine h100 _ _ _ ?_
            simp only [bX12_isAsked_100, zw_0, zw_1, zs_lloadn1, zs_lloadn3, zs_lcmp, zs_ifeq, zs_iconst, zs_goto, zb_0, za_1, za_2, za_3, za_4, za_5, za_6, za_7, za_8, za_9, za_10, za_11, za_12, za_13, za_14, true_and, and_true, Nat.reduceAdd, lg_cmp_eq, eeq]
            obtain rfl : o = 15 := by omega
            refine ⟨fun h => ?_, fun h => f1 _ ?_⟩
            · refine h110 _ _ _ ?_
              simp only [bX12_isAsked_110, zw_0, zw_1, zs_iconst, zb_0, za_1, za_2, za_3, za_4, za_5, za_6, za_7, za_8, za_9, za_10, za_11, za_12, za_13, za_14, true_and, and_true, Nat.reduceAdd]
              refine f0 _ ?_
              simp [zq_cp, h]
            · simp [zq_cp, h]
          · refine h96 _ _ _ ?_
            simp only [bX12_isAsked_96, zw_0, zw_1, zs_iconst, zs_goto, zb_0, za_1, za_2, za_3, za_4, za_5, za_6, za_7, za_8, za_9, za_10, za_11, za_12, za_13, za_14, true_and, and_true, Nat.reduceAdd]
            refine f0 _ ?_
            subst e; simp [zq_cp, h]
          · subst e; simp [zq_cp, h]
        · refine h76 _ _ _ ?_
          simp only [bX12_isAsked_76, zw_0, zw_1, zs_iconst, zs_goto, zb_0, za_1, za_2, za_3, za_4, za_5, za_6, za_7, za_8, za_9, za_10, za_11, za_12, za_13, za_14, true_and, and_true, Nat.reduceAdd]
          refine f0 _ ?_
          subst e; simp [zq_cp]; omega
        · subst e; simp [zq_cp]; omega
      · refine h56 _ _ _ ?_
        simp only [bX12_isAsked_56, zw_0, zw_1, zs_iconst, zs_goto, zb_0, za_1, za_2, za_3, za_4, za_5, za_6, za_7, za_8, za_9, za_10, za_11, za_12, za_13, za_14, true_and, and_true, Nat.reduceAdd]
        refine f0 _ ?_
        subst e; simp [zq_cp]; omega
      · subst e; simp [zq_cp]; omega
    · refine h36 _ _ _ ?_
      simp only [bX12_isAsked_36, zw_0, zw_1, zs_iconst, zs_goto, zb_0, za_1, za_2, za_3, za_4, za_5, za_6, za_7, za_8, za_9, za_10, za_11, za_12, za_13, za_14, true_and, and_true, Nat.reduceAdd]
      refine f0 _ ?_
      subst e; simp [zq_cp]; omega
    · subst e; simp [zq_cp]; omega
  · refine h16 _ _ _ ?_
    simp only [bX12_isAsked_16, zw_0, zw_1, zs_iconst, zs_goto, zb_0, za_1, za_2, za_3, za_4, za_5, za_6, za_7, za_8, za_9, za_10, za_11, za_12, za_13, za_14, true_and, and_true, Nat.reduceAdd]
    refine f0 _ ?_
    subst e; simp [zq_cp]; omega
  · subst e; simp [zq_cp]; omega
theorem c_joined {E : zm_E} (hE : zm_ok E.2.2.1 E.2.2.2.2) (d : Nat) (o : Int32) (a b : Bool) (M : zm_M) : zm_R E (d + 1) mX12_joined [.int o, .int (zi_b a), .int (zi_b b)] M (fun v M' => v = some (.int (zi_b (if o = 21 then a && b else a || b))) ∧ M' = M) := by
  refine zX12_joined hE rfl (fun G h0 h18 h22 h30 h34 h35 => ?_)
  show G 0 [some (.int o), some (.int (zi_b a)), some (.int (zi_b b))] [] M
  repeat' (first | (refine h0 _ _ _ ?_; simp only [bX12_joined_0, zw_0, zw_1, zs_iloadn0, zs_bipush, zs_icne, zs_iloadn1, zs_ifeq, zs_iloadn2, zs_iconst, zs_goto, zb_0, za_1, za_2, za_3, za_4, za_5, za_6, za_7, za_8, za_9, za_10, za_11, za_12, za_13, za_14, true_and, and_true, Nat.reduceAdd, zi_b0, zi_b1]) | (refine h18 _ _ _ ?_; simp only [bX12_joined_18, zw_0, zw_1, zs_iconst, zs_goto, zb_0, za_1, za_2, za_3, za_4, za_5, za_6, za_7, za_8, za_9, za_10, za_11, za_12, za_13, za_14, true_and, and_true, Nat.reduceAdd, zi_b0, zi_b1]) | (refine h22 _ _ _ ?_; simp only [bX12_joined_22, zw_0, zw_1, zs_iloadn1, zs_ifne, zs_iloadn2, zs_ifeq, zb_0, za_1, za_2, za_3, za_4, za_5, za_6, za_7, za_8, za_9, za_10, za_11, za_12, za_13, za_14, true_and, and_true, Nat.reduceAdd, zi_b0, zi_b1]) | (refine h30 _ _ _ ?_; simp only [bX12_joined_30, zw_0, zw_1, zs_iconst, zs_goto, zb_0, za_1, za_2, za_3, za_4, za_5, za_6, za_7, za_8, za_9, za_10, za_11, za_12, za_13, za_14, true_and, and_true, Nat.reduceAdd, zi_b0, zi_b1]) | (refine h34 _ _ _ ?_; simp only [bX12_joined_34, zw_0, zw_1, zs_iconst, zb_0, za_1, za_2, za_3, za_4, za_5, za_6, za_7, za_8, za_9, za_10, za_11, za_12, za_13, za_14, true_and, and_true, Nat.reduceAdd, zi_b0, zi_b1]) | (refine h35 _ _ _ ?_; simp only [bX12_joined_35, zw_0, zw_1, zs_ireturn, zn_int, zn_b0, zn_b1, zb_0, za_1, za_2, za_3, za_4, za_5, za_6, za_7, za_8, za_9, za_10, za_11, za_12, za_13, za_14, true_and, and_true, Nat.reduceAdd, zi_b0, zi_b1]) | apply And.intro | intro _ | rfl)
  all_goals (cases a <;> cases b <;> simp_all [zi_b])
theorem c_ranksOf {E : zm_E} (hE : zm_ok E.2.2.1 E.2.2.2.2) (d : Nat) {n : Nat} {x : Int64} {l : Int} (hx : x.toInt = l) (hl : zq_ok l) {M : zm_M} (hw : zt_wf n (fun i => M.1 1 (90 + i))) (hc : M.1 1 0 = nI n) {Q : Option Value → zm_M → Prop} (q : ∀ v : Int64, v.toInt = zq_rk n (fun i => M.1 1 (90 + i)) l → Q (some (.long v)) M) : zm_R E (d + 2) mX12_ranksOf [.ref 0, .long x] M Q := by
  refine zX12_ranksOf hE rfl (fun G h0 h28 h29 => ?_)
  show G 0 [some (.ref 0), some (.long x), none] [] M
  have hn := hw.1
  unfold zq_ok at hl
  have e0 : (x < 0) = (l < 0) := by rw [zx_i64lt, hx]; rfl
  have en : ((nI n).toInt64 ≤ x) = ((n : Int) ≤ l) := by rw [zx_i64le, hx, Int32.toInt_toInt64, nI_toInt (by omega)]
  have no : ¬ (0 ≤ l ∧ l < n) → G 28 [some (.ref 0), some (.long x), none] [] M := by
    intro h
    refine h28 _ _ _ ?_
    simp only [bX12_ranksOf_28, zw_0, zw_1, zs_lconst0, zb_0, za_1, za_2, za_3, za_4, za_5, za_6, za_7, za_8, za_9, za_10, za_11, za_12, za_13, za_14, true_and, and_true, Nat.reduceAdd]
    refine h29 _ _ _ ?_
    simp only [bX12_ranksOf_29, zw_0, zw_1, zs_lreturn, zn_int, zn_b0, zn_b1, zb_0, za_1, za_2, za_3, za_4, za_5, za_6, za_7, za_8, za_9, za_10, za_11, za_12, za_13, za_14, true_and, and_true, Nat.reduceAdd]
    refine q 0 ?_
    unfold zq_rk; rw [if_neg h]; rfl
  refine h0 _ _ _ ?_
  simp only [bX12_ranksOf_0, zw_0, zw_1, zs_lloadn1, zs_lconst0, zs_lcmp, zs_iflt, zs_aloadn0, zs_aloadNn0, zg_12_7, zs_iconst, zs_iaload, zs_i2l, zs_ifge, zs_l2i, zi_12_262, zs_goto, zh_0, zh_1, zh_2, zh_3, zh_4, zt_i, zt_l, zt_r, zt_n, zb_0, za_1, za_2, za_3, za_4, za_5, za_6, za_7, za_8, za_9, za_10, za_11, za_12, za_13, za_14, zu_0, zu_1, zu_2, zu_3, zu_4, zu_5, zu_6, zu_7, zu_8, zu_9, zu_10, zu_11, zu_12, zu_13, zu_14, zu_15, zu_16, zu_17, zu_18, zu_19, zu_20, zu_21, zu_22, zu_23, zu_24, zu_25, zu_26, zu_27, zu_28, zu_29, zu_30, zu_90, zv_0_9, zv_1_9, zv_2_9, zv_3_9, zv_4_9, zv_5_9, zv_6_9, zv_7_9, zv_8_9, zv_0_330, zv_0_4544, zv_1_4544, zv_2_4544, zv_3_4544, zv_4_4544, zv_5_4544, zv_6_4544, zv_7_4544, zv_8_4544, zv_9_4544, zv_10_4544, zv_11_4544, zv_12_4544, zv_13_4544, zv_14_4544, zv_15_4544, zv_16_4544, zv_17_4544, zv_18_4544, zv_19_4544, zv_20_4544, zv_21_4544, zv_22_4544, zv_23_4544, zv_24_4544, zv_25_4544, zv_26_4544, zv_27_4544, zv_28_4544, zv_29_4544, zv_0_11, zv_1_11, zv_0_160, true_and, and_true, Nat.reduceAdd, lg_cmp_lt, lg_cmp_ge, e0, hc, en]
  refine ⟨fun h => no (by omega), fun h => ⟨fun h2 => no (by omega), fun h2 => ?_⟩⟩
  obtain ⟨k, rfl⟩ : ∃ k : Nat, l = k := ⟨l.toNat, by omega⟩
  have hk : k < n := by omega
  have xk : x.toInt32 = nI k := by
    rw [zx_i32eq, Int64.toInt_toInt32, hx, nI_toInt (by omega), Int.bmod_eq_of_le (by omega) (by omega)]
  rw [xk]
  refine zm_R_eq (c_rankOf hE d hw hk) ?_
  simp only [bX12_ranksOf_0, zw_0, zw_1, zs_lloadn1, zs_lconst0, zs_lcmp, zs_iflt, zs_aloadn0, zs_aloadNn0, zg_12_7, zs_iconst, zs_iaload, zs_i2l, zs_ifge, zs_l2i, zi_12_262, zs_goto, zh_0, zh_1, zh_2, zh_3, zh_4, zt_i, zt_l, zt_r, zt_n, zb_0, za_1, za_2, za_3, za_4, za_5, za_6, za_7, za_8, za_9, za_10, za_11, za_12, za_13, za_14, zu_0, zu_1, zu_2, zu_3, zu_4, zu_5, zu_6, zu_7, zu_8, zu_9, zu_10, zu_11, zu_12, zu_13, zu_14, zu_15, zu_16, zu_17, zu_18, zu_19, zu_20, zu_21, zu_22, zu_23, zu_24, zu_25, zu_26, zu_27, zu_28, zu_29, zu_30, zu_90, zv_0_9, zv_1_9, zv_2_9, zv_3_9, zv_4_9, zv_5_9, zv_6_9, zv_7_9, zv_8_9, zv_0_330, zv_0_4544, zv_1_4544, zv_2_4544, zv_3_4544, zv_4_4544, zv_5_4544, zv_6_4544, zv_7_4544, zv_8_4544, zv_9_4544, zv_10_4544, zv_11_4544, zv_12_4544, zv_13_4544, zv_14_4544, zv_15_4544, zv_16_4544, zv_17_4544, zv_18_4544, zv_19_4544, zv_20_4544, zv_21_4544, zv_22_4544, zv_23_4544, zv_24_4544, zv_25_4544, zv_26_4544, zv_27_4544, zv_28_4544, zv_29_4544, zv_0_11, zv_1_11, zv_0_160, true_and, and_true, Nat.reduceAdd]
  refine h29 _ _ _ ?_
  simp only [bX12_ranksOf_29, zw_0, zw_1, zs_lreturn, zn_int, zn_b0, zn_b1, zb_0, za_1, za_2, za_3, za_4, za_5, za_6, za_7, za_8, za_9, za_10, za_11, za_12, za_13, za_14, true_and, and_true, Nat.reduceAdd]
  refine q _ ?_
  have := zt_rk_le hw k hk
  rw [Int32.toInt_toInt64, nI_toInt (by omega)]
  unfold zq_rk
  rw [if_pos (by omega), Int.toNat_natCast]
theorem zq_half {l r : Int} (hl : zq_ok l) (k : Nat) (h : (k : Int) = r ∨ (l.tdiv ((2 ^ k : Nat) : Int) = 0 ∧ (k : Int) ≤ r) ∨ (k = 0 ∧ r ≤ 0)) : l.tdiv ((2 ^ k : Nat) : Int) = zq_ar 11 l r := by
  have ar : zq_ar 11 l r = zq_clip (if r ≤ 0 then l else if 20 ≤ r then 0 else l.tdiv ((2 ^ r.toNat : Nat) : Int)) := by
    unfold zq_ar; rw [if_neg (by decide), if_neg (by decide), if_neg (by decide), if_neg (by decide)]
  have cl : ∀ v, zq_ok v → zq_clip v = v := by
    intro v hv
    unfold zq_ok at hv
    unfold zq_clip
    rw [if_neg (by omega), if_neg (by omega)]
  have big : ∀ j : Nat, 20 ≤ j → l.tdiv ((2 ^ j : Nat) : Int) = 0 := by
    intro j hj
    have hp : 2 ^ 20 ≤ 2 ^ j := Nat.pow_le_pow_right (by decide) hj
    unfold zq_ok at hl
    have := Int.natAbs_tdiv l ((2 ^ j : Nat) : Int)
    rw [Int.natAbs_natCast] at this
    have h2 : l.natAbs.div (2 ^ j) = 0 := Nat.div_eq_of_lt (by omega)
    rw [h2] at this
    exact Int.natAbs_eq_zero.mp this
  have one : l.tdiv ((2 ^ 0 : Nat) : Int) = l := by simp
  rw [ar]
  rcases h with h | ⟨h, h2⟩ | ⟨h, h2⟩
  · subst h
    by_cases c : (k : Int) ≤ 0
    · obtain rfl : k = 0 := by omega
      rw [if_pos c, cl l hl]; exact one
    · rw [if_neg c]
      by_cases c2 : 20 ≤ (k : Int)
      · rw [if_pos c2, big k (by omega)]; rfl
      · rw [if_neg c2, Int.toNat_natCast, cl _ (zx_tdiv hl)]
  · rw [h]
    by_cases c : r ≤ 0
    · obtain rfl : k = 0 := by omega
      rw [if_pos c, cl l hl]
      rw [one] at h; exact h.symm
    · rw [if_neg c]
      by_cases c2 : 20 ≤ r
      · rw [if_pos c2]; rfl
      · rw [if_neg c2, cl _ (zx_tdiv hl)]
        obtain ⟨j, hj⟩ : ∃ j, r.toNat = k + j := ⟨r.toNat - k, by omega⟩
        rw [hj, Nat.pow_add, ← zx_tdiv2, h, Int.zero_tdiv]
  · subst h
    rw [if_pos h2, cl l hl]; exact one
theorem c_halved {E : zm_E} (hE : zm_ok E.2.2.1 E.2.2.2.2) (d : Nat) {x y : Int64} {l r : Int} (hx : x.toInt = l) (hy : y.toInt = r) (hl : zq_ok l) (hr : zq_ok r) {M : zm_M} {Q : Option Value → zm_M → Prop} (q : ∀ v : Int64, v.toInt = zq_ar 11 l r → Q (some (.long v)) M) : zm_R E (d + 1) mX12_halved [.long x, .long y] M Q := by
  refine zX12_halved hE rfl (fun G h0 h6 h37 => ?_)
  show G 0 [some (.long x), none, some (.long y), none, none, none, none, none] [] M
  have hl' := hl
  unfold zq_ok at hl hr
  have fin : ∀ (v : Int64) (k : Int64) , v.toInt = zq_ar 11 l r → G 37 [some (.long x), none, some (.long y), none, some (.long v), none, some (.long k), none] [] M := by
    intro v k hv
    refine h37 _ _ _ ?_
    simp only [bX12_halved_37, zw_0, zw_1, zs_lload4, zs_lreturn, zn_int, zn_b0, zn_b1, zb_0, za_1, za_2, za_3, za_4, za_5, za_6, za_7, za_8, za_9, za_10, za_11, za_12, za_13, za_14, true_and, and_true, Nat.reduceAdd]
    exact q v hv
  have loop : ∀ (f k : Nat) (v : Int64), k + f = 30 → ((k : Int) ≤ r ∨ k = 0) → v.toInt = l.tdiv ((2 ^ k : Nat) : Int) → G 6 [some (.long x), none, some (.long y), none, some (.long v), none, some (.long (lN k)), none] [] M := by
    intro f
    induction f with
    | zero =>
      intro k v hk hkr hv
      have big : l.tdiv ((2 ^ k : Nat) : Int) = 0 := by
        have hp : 2 ^ 20 ≤ 2 ^ k := Nat.pow_le_pow_right (by decide) (by omega)
        have := Int.natAbs_tdiv l ((2 ^ k : Nat) : Int)
        rw [Int.natAbs_natCast] at this
        have h2 : l.natAbs.div (2 ^ k) = 0 := Nat.div_eq_of_lt (by omega)
        rw [h2] at this
        exact Int.natAbs_eq_zero.mp this
      have v0 : (v = 0) = True := by rw [zx_i64eq, hv, big]; exact eq_true rfl
      have ky : (y ≤ lN k) = (r ≤ k) := by rw [zx_i64le, hy, lN_toInt (by omega)]
      refine h6 _ _ _ ?_
      simp only [bX12_halved_6, zw_0, zw_1, zs_lload6, zs_lloadn2, zs_lcmp, zs_ifge, zs_lload4, zs_lconst0, zs_ifeq, zd_12_265, zs_ldiv, zs_lstore4, zs_lconst1, zs_ladd, zs_lstore6, zs_goto, zc_none, zc_int, zc_ref, zc_null, zc_long, zb_0, za_1, za_2, za_3, za_4, za_5, za_6, za_7, za_8, za_9, za_10, za_11, za_12, za_13, za_14, true_and, and_true, Nat.reduceAdd, lg_cmp_ge, lg_cmp_eq, ky, v0]
      refine ⟨fun h => fin _ _ ?_, fun h => ⟨fun _ => fin _ _ ?_, fun h => absurd trivial h⟩⟩
      · rw [hv]; exact zq_half hl' k (Or.inr (Or.inl ⟨big, by omega⟩))
      · rw [hv]; exact zq_half hl' k (Or.inr (Or.inl ⟨big, by omega⟩))
    | succ f ih =>
      intro k v hk hkr hv
      have v0 : (v = 0) = (l.tdiv ((2 ^ k : Nat) : Int) = 0) := by rw [zx_i64eq, hv]; rfl
      have ky : (y ≤ lN k) = (r ≤ k) := by rw [zx_i64le, hy, lN_toInt (by omega)]
      refine h6 _ _ _ ?_
      simp only [bX12_halved_6, zw_0, zw_1, zs_lload6, zs_lloadn2, zs_lcmp, zs_ifge, zs_lload4, zs_lconst0, zs_ifeq, zd_12_265, zs_ldiv, zs_lstore4, zs_lconst1, zs_ladd, zs_lstore6, zs_goto, zc_none, zc_int, zc_ref, zc_null, zc_long, zb_0, za_1, za_2, za_3, za_4, za_5, za_6, za_7, za_8, za_9, za_10, za_11, za_12, za_13, za_14, true_and, and_true, Nat.reduceAdd, lg_cmp_ge, lg_cmp_eq, ky, v0]
      refine ⟨fun h => fin _ _ ?_, fun h => ⟨fun h2 => fin _ _ ?_, fun h2 => ⟨by decide, ?_⟩⟩⟩
      · rw [hv]
        refine zq_half hl' k ?_
        rcases hkr with z | z
        · exact Or.inl (by omega)
        · subst z
          exact Or.inr (Or.inr ⟨rfl, by omega⟩)
      · rw [hv]
        exact zq_half hl' k (Or.inr (Or.inl ⟨h2, by omega⟩))
      · rw [lN_1]
        refine ih (k + 1) _ (by omega) (Or.inl (by omega)) ?_
        have hb3 := zx_tdiv (r := ((2 ^ k * 2 : Nat) : Int)) hl'
        unfold zq_ok at hb3
        rw [Int64.toInt_div, hv, show (2 : Int64).toInt = ((2 : Nat) : Int) from rfl, zx_tdiv2, Int.bmod_eq_of_le (by omega) (by omega), Nat.pow_succ]
  refine h0 _ _ _ ?_
  simp only [bX12_halved_0, zw_0, zw_1, zs_lloadn0, zs_lstore4, zs_lconst0, zs_lstore6, zc_none, zc_int, zc_ref, zc_null, zc_long, zb_0, za_1, za_2, za_3, za_4, za_5, za_6, za_7, za_8, za_9, za_10, za_11, za_12, za_13, za_14, true_and, and_true, Nat.reduceAdd]
  refine loop 30 0 x (by omega) (Or.inr rfl) ?_
  rw [hx]; simp
