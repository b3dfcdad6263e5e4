/-! ===== the reference: a code is put; whose name it is ===== -/
theorem c_emit {E : zm_E} (hE : zm_ok E.2.2.1 E.2.2.2.2) (d : Nat) {b c : Nat} (op v : Int32) {M : zm_M} (hb : b + 98 + 2 * c < 2820) (h12 : M.1 0 12 = nI b) (h13 : M.1 0 13 = nI c) {Q : Option Value → zm_M → Prop} (q : Q none (zm_wi (zm_wi (zm_wi M 3 (b + 97 + 2 * c) op) 3 (b + 97 + 2 * c + 1) v) 0 13 (nI (c + 1)))) : zm_R E (d + 1) mX12_emit [.ref 0, .int op, .int v] M Q := by
  refine zX12_emit hE rfl (fun G h0 => ?_)
  show G 0 [some (.ref 0), some (.int op), some (.int v)] [] M
  have e1 : nI b + 97 + 2 * nI c = nI (b + 97 + 2 * c) := by
    rw [show nI b + 97 = nI (b + 97) by rw [← nI_add]; rfl, show (2 : Int32) * nI c = nI (2 * c) from pk_mul 2 c, nI_add]
  have v1 : vp_in (nI (b + 97 + 2 * c)) 2820 := vp_in_nI (by omega) (by decide)
  have v2 : (nI (b + 97 + 2 * c)).toNatClampNeg = b + 97 + 2 * c := nI_clamp (by omega)
  have v3 : vp_in (nI (b + 97 + 2 * c + 1)) 2820 := vp_in_nI (by omega) (by decide)
  have v4 : (nI (b + 97 + 2 * c + 1)).toNatClampNeg = b + 97 + 2 * c + 1 := nI_clamp (by omega)
  have a12 : (zm_wi M 3 (b + 97 + 2 * c) op).1 0 12 = nI b := by rw [zm_wi_other (by decide)]; exact h12
  have a13 : (zm_wi M 3 (b + 97 + 2 * c) op).1 0 13 = nI c := by rw [zm_wi_other (by decide)]; exact h13
  have b13 : (zm_wi (zm_wi M 3 (b + 97 + 2 * c) op) 3 (b + 97 + 2 * c + 1) v).1 0 13 = nI c := by rw [zm_wi_other (by decide)]; exact a13
  refine h0 _ _ _ ?_
  simp only [bX12_emit_0, zw_0, zw_1, zs_aloadn0, zs_aloadNn0, zg_12_16, zg_12_136, zs_bipush, zs_iadd, zs_iconst, zg_12_139, zs_imul, zs_iloadn1, zs_iastore, zs_iloadn2, zs_dupi, zs_dupr, zs_dupn, zq_12_139, zs_return, zn_int, zn_b0, zn_b1, zb_0, za_1, za_2, za_3, za_4, za_5, za_6, za_7, za_8, za_9, za_10, za_11, za_12, za_13, za_14, zu_0, zu_1, zu_2, zu_3, zu_4, zu_5, zu_6, zu_7, zu_8, zu_9, zu_10, zu_11, zu_12, zu_13, zu_14, zu_15, zu_16, zu_17, zu_18, zu_19, zu_20, zu_21, zu_22, zu_23, zu_24, zu_25, zu_26, zu_27, zu_28, zu_29, zu_30, zu_90, zv_0_9, zv_1_9, zv_2_9, zv_3_9, zv_4_9, zv_5_9, zv_6_9, zv_7_9, zv_8_9, zv_0_330, zv_0_4544, zv_1_4544, zv_2_4544, zv_3_4544, zv_4_4544, zv_5_4544, zv_6_4544, zv_7_4544, zv_8_4544, zv_9_4544, zv_10_4544, zv_11_4544, zv_12_4544, zv_13_4544, zv_14_4544, zv_15_4544, zv_16_4544, zv_17_4544, zv_18_4544, zv_19_4544, zv_20_4544, zv_21_4544, zv_22_4544, zv_23_4544, zv_24_4544, zv_25_4544, zv_26_4544, zv_27_4544, zv_28_4544, zv_29_4544, zv_0_11, zv_1_11, zv_0_160, true_and, and_true, Nat.reduceAdd, h12, h13, e1, v1, v2, a12, a13, nI_1, v3, v4, b13]
  exact q
theorem c_isOf {E : zm_E} (hE : zm_ok E.2.2.1 E.2.2.2.2) (d : Nat) {k w : Nat} (hk : k ≤ 8) (hw : w ≤ 8) {M : zm_M} (h14 : M.1 0 14 = nI w) : zm_R E (d + 1) mX12_isOf [.ref 0, .int (nI k)] M (fun r M' => r = some (.int (zi_b (decide (¬ (k = 7 ∧ w = 2) ∧ ¬ (k = 8 ∧ ¬ w = 0))))) ∧ M' = M) := by
  refine zX12_isOf hE rfl (fun G h0 h23 h30 h34 h35 => ?_)
  show G 0 [some (.ref 0), some (.int (nI k))] [] M
  have l7 : (nI k < 7) = (k < 7) := propext (nI_ltI (b := 7) (by omega) (by decide))
  have e7 : (nI k = 7) = (k = 7) := propext (nI_eq (b := 7) (by omega) (by decide))
  have w2 : (nI w = 2) = (w = 2) := propext (nI_eq (b := 2) (by omega) (by decide))
  have w0 : (nI w = 0) = (w = 0) := propext (nI_eq (b := 0) (by omega) (by decide))
  have yes : (¬ (k = 7 ∧ w = 2) ∧ ¬ (k = 8 ∧ ¬ w = 0)) → G 30 [some (.ref 0), some (.int (nI k))] [] M := by
    intro h
    refine h30 _ _ _ ?_
    simp only [bX12_isOf_30, zw_0, zw_1, zs_iconst, zs_goto, zb_0, za_1, za_2, za_3, za_4, za_5, za_6, za_7, za_8, za_9, za_10, za_11, za_12, za_13, za_14, true_and, and_true, Nat.reduceAdd]
    refine h35 _ _ _ ?_
    simp only [bX12_isOf_35, zw_0, zw_1, zs_ireturn, zn_int, zn_b0, zn_b1, zb_0, za_1, za_2, za_3, za_4, za_5, za_6, za_7, za_8, za_9, za_10, za_11, za_12, za_13, za_14, true_and, and_true, Nat.reduceAdd]
    rw [decide_eq_true h]; rfl
  have no : ¬ (¬ (k = 7 ∧ w = 2) ∧ ¬ (k = 8 ∧ ¬ w = 0)) → G 34 [some (.ref 0), some (.int (nI k))] [] M := by
    intro h
    refine h34 _ _ _ ?_
    simp only [bX12_isOf_34, zw_0, zw_1, zs_iconst, zb_0, za_1, za_2, za_3, za_4, za_5, za_6, za_7, za_8, za_9, za_10, za_11, za_12, za_13, za_14, true_and, and_true, Nat.reduceAdd]
    refine h35 _ _ _ ?_
    simp only [bX12_isOf_35, zw_0, zw_1, zs_ireturn, zn_int, zn_b0, zn_b1, zb_0, za_1, za_2, za_3, za_4, za_5, za_6, za_7, za_8, za_9, za_10, za_11, za_12, za_13, za_14, true_and, and_true, Nat.reduceAdd]
    rw [decide_eq_false h]; rfl
  refine h0 _ _ _ ?_
  simp only [bX12_isOf_0, zw_0, zw_1, zs_iloadn1, zs_bipush, zs_iclt, zs_icne, zs_aloadn0, zs_aloadNn0, zg_12_142, zs_iconst, zs_iceq, zs_goto, zb_0, za_1, za_2, za_3, za_4, za_5, za_6, za_7, za_8, za_9, za_10, za_11, za_12, za_13, za_14, true_and, and_true, Nat.reduceAdd, l7, e7, h14, w2]
  refine ⟨fun a => yes (by omega), fun a => ⟨fun b => ?_, fun b => ⟨fun c => no (by omega), fun c => yes (by omega)⟩⟩⟩
  refine h23 _ _ _ ?_
  simp only [bX12_isOf_23, zw_0, zw_1, zs_aloadn0, zs_aloadNn0, zg_12_142, zs_ifne, zb_0, za_1, za_2, za_3, za_4, za_5, za_6, za_7, za_8, za_9, za_10, za_11, za_12, za_13, za_14, true_and, and_true, Nat.reduceAdd, h14, w0]
  exact ⟨fun c => no (by omega), fun c => yes (by omega)⟩
