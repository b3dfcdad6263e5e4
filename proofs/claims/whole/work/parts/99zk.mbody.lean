/-! ===== the reference: the body of a clause ===== -/
section
variable {E : zm_E} {tp : Nat → Nat} {n : Nat}
theorem zu_act (hE : zm_ok E.2.2.1 E.2.2.2.2) (d : Nat) {k p w : Nat} {M : zm_M} (hw : 3 ≤ w) (hw8 : w ≤ 8) (hT : zk_tm tp n M) (hA : zk_at tp n (zk_st tp n k) M) (hp : p + 3 < 2820) : zm_R E (d + 9) mX12_body [.ref 0, .int (nI w), .int (nI p)] M (fun r M' => zk_tm tp n M' ∧ zu_A p M M' ∧ ((zc_f (zs_T tp n) (zs_N tp n) w k = none ∧ r = some (.int 0) ∧ zk_at tp n (zk_st tp n (k + zc_e w)) M' ∧ zy_a (nI w) (nI (zs_N tp n k)) (nI (zs_N tp n (k + 2))) (nI (zs_N tp n (k + 4))) (M'.1 3 (p + 1)) (M'.1 3 (p + 2)) (M'.1 3 (p + 3))) ∨ (∃ f j, zc_f (zs_T tp n) (zs_N tp n) w k = some (f, j) ∧ (1 ≤ f ∧ f ≤ 2) ∧ r = some (.int (nI f)) ∧ zk_at tp n (zk_st tp n j) M'))) := by
  refine zX12_body hE rfl (fun G h0 h40 h61 h84 h106 h107 h126 h137 h150 h164 => ?_)
  show G 0 [some (.ref 0), some (.int (nI w)), some (.int (nI p)), none] [] M
  have eqw : ∀ x : Nat, x < 10 → (nI w = nI x) = (w = x) := fun x hx => propext (nI_eq (by omega) (by omega))
  have ne : ∀ x : Nat, x < 10 → w ≠ x → nI w ≠ nI x := fun x hx h z => h ((nI_eq (by omega) (by omega)).mp z)
  have q3 : (nI w = 3) = (w = 3) := eqw 3 (by decide)
  have q4 : (nI w = 4) = (w = 4) := eqw 4 (by decide)
  have q5 : (nI w = 5) = (w = 5) := eqw 5 (by decide)
  have q6 : (nI w = 6) = (w = 6) := eqw 6 (by decide)
  have q7 : (nI w = 7) = (w = 7) := eqw 7 (by decide)
  have q8 : (nI w = 8) = (w = 8) := eqw 8 (by decide)
  have zya : ∀ M' : zm_M, w ≠ 5 → w ≠ 8 → M'.1 3 (p + 1) = nI (zs_N tp n k) → M'.1 3 (p + 2) = nI (zs_N tp n (k + 2)) → zy_a (nI w) (nI (zs_N tp n k)) (nI (zs_N tp n (k + 2))) (nI (zs_N tp n (k + 4))) (M'.1 3 (p + 1)) (M'.1 3 (p + 2)) (M'.1 3 (p + 3)) := fun M' h5 h8 a b => ⟨fun _ => ⟨a, b⟩, fun z => absurd z (ne 5 (by decide) h5), fun z => absurd z (ne 8 (by decide) h8)⟩
  have e3 : w ≠ 5 → w ≠ 8 → k + zc_e w = k + 3 := fun h5 h8 => by unfold zc_e; rw [if_neg h8, if_neg h5]
  have last : (w = 4 ∨ w = 7) → ∀ l3, G 137 [some (.ref 0), some (.int (nI w)), some (.int (nI p)), l3] [] M := by
    intro hw2 l3
    have hf : zc_f (zs_T tp n) (zs_N tp n) w k = zc_pr (zs_T tp n) (zs_N tp n) 14 9 k := by
      unfold zc_f; rw [if_neg (by omega), if_neg (by omega), if_neg (by omega), if_neg (by omega)]
    have gt2 : ((2 : Int32) < nI w) = True := eq_true ((nI_ltI (a := 2) (by decide) (by omega)).mpr (by omega))
    refine h137 _ _ _ ?_
    simp only [bX12_body_137, zw_0, zw_1, zs_iloadn1, zs_iconst, zs_icgt, zs_aloadn0, zs_aloadNn0, zs_iloadn2, zi_12_231, zs_goto, zh_0, zh_1, zh_2, zh_3, zh_4, zt_i, zt_l, zt_r, zt_n, zb_0, za_1, za_2, za_3, za_4, za_5, za_6, za_7, za_8, za_9, za_10, za_11, za_12, za_13, za_14, true_and, and_true, Nat.reduceAdd, gt2]
    refine ⟨fun _ => ?_, fun h => absurd trivial h⟩
    refine h150 _ _ _ ?_
    simp only [bX12_body_150, zw_0, zw_1, zs_aloadn0, zs_aloadNn0, zs_iloadn2, zs_bipush, zi_12_120, zi_12_227, zh_0, zh_1, zh_2, zh_3, zh_4, zt_i, zt_l, zt_r, zt_n, zb_0, za_1, za_2, za_3, za_4, za_5, za_6, za_7, za_8, za_9, za_10, za_11, za_12, za_13, za_14, true_and, and_true, Nat.reduceAdd]
    refine zm_R_eq (c_w2 hE (d + 7) 116 111 (by decide) (by decide) _) ?_
    simp only [bX12_body_150, zw_0, zw_1, zs_aloadn0, zs_aloadNn0, zs_iloadn2, zs_bipush, zi_12_120, zi_12_227, zh_0, zh_1, zh_2, zh_3, zh_4, zt_i, zt_l, zt_r, zt_n, zb_0, za_1, za_2, za_3, za_4, za_5, za_6, za_7, za_8, za_9, za_10, za_11, za_12, za_13, za_14, true_and, and_true, Nat.reduceAdd]
    refine zm_R_mono (zu_pair (x := 14) (h := 9) hE (d + 3) (by decide) (by decide) hT hA hp (by decide)) (fun r M1 h1 => ?_)
    obtain ⟨T1, B1, h1⟩ := h1
    rcases h1 with ⟨a1, rfl, a3, a4, a5⟩ | ⟨f, j, a1, a2, rfl, a4⟩
    · simp only [bX12_body_150, zw_0, zw_1, zs_aloadn0, zs_aloadNn0, zs_iloadn2, zs_bipush, zi_12_120, zi_12_227, zh_0, zh_1, zh_2, zh_3, zh_4, zt_i, zt_l, zt_r, zt_n, zb_0, za_1, za_2, za_3, za_4, za_5, za_6, za_7, za_8, za_9, za_10, za_11, za_12, za_13, za_14, true_and, and_true, Nat.reduceAdd]
      refine h164 _ _ _ ?_
      simp only [bX12_body_164, zw_0, zw_1, zs_ireturn, zn_int, zn_b0, zn_b1, zb_0, za_1, za_2, za_3, za_4, za_5, za_6, za_7, za_8, za_9, za_10, za_11, za_12, za_13, za_14, true_and, and_true, Nat.reduceAdd]
      exact ⟨T1, B1, Or.inl ⟨hf.trans a1, by rw [e3 (by omega) (by omega)]; exact a3, zya M1 (by omega) (by omega) a4 a5⟩⟩
    · simp only [bX12_body_150, zw_0, zw_1, zs_aloadn0, zs_aloadNn0, zs_iloadn2, zs_bipush, zi_12_120, zi_12_227, zh_0, zh_1, zh_2, zh_3, zh_4, zt_i, zt_l, zt_r, zt_n, zb_0, za_1, za_2, za_3, za_4, za_5, za_6, za_7, za_8, za_9, za_10, za_11, za_12, za_13, za_14, true_and, and_true, Nat.reduceAdd]
      refine h164 _ _ _ ?_
      simp only [bX12_body_164, zw_0, zw_1, zs_ireturn, zn_int, zn_b0, zn_b1, zb_0, za_1, za_2, za_3, za_4, za_5, za_6, za_7, za_8, za_9, za_10, za_11, za_12, za_13, za_14, true_and, and_true, Nat.reduceAdd]
      exact ⟨T1, B1, Or.inr ⟨f, j, hf.trans a1, a2, rfl, a4⟩⟩
  refine h0 _ _ _ ?_
  simp only [bX12_body_0, zw_0, zw_1, zs_iloadn1, zs_tsw, zm_sw, zb_0, za_1, za_2, za_3, za_4, za_5, za_6, za_7, za_8, za_9, za_10, za_11, za_12, za_13, za_14, true_and, and_true, Nat.reduceAdd, q3, q4, q5, q6, q7, q8]
  refine ⟨fun a3 => ?_, fun n3 => ⟨fun a4 => last (Or.inl a4) _, fun n4 => ⟨fun a5 => ?_, fun n5 => ⟨fun a6 => ?_, fun n6 => ⟨fun a7 => last (Or.inr a7) _, fun n7 => ⟨fun a8 => ?_, fun n8 => by omega⟩⟩⟩⟩⟩⟩
  · have hf : zc_f (zs_T tp n) (zs_N tp n) w k = zc_pr (zs_T tp n) (zs_N tp n) 17 9 k := by
      unfold zc_f; rw [if_neg (by omega), if_neg (by omega), if_pos a3]
    refine h40 _ _ _ ?_
    simp only [bX12_body_40, zw_0, zw_1, zs_aloadn0, zs_aloadNn0, zs_iloadn2, zs_bipush, zi_12_132, zi_12_227, zs_ireturn, zh_0, zh_1, zh_2, zh_3, zh_4, zt_i, zt_l, zt_r, zt_n, zn_int, zn_b0, zn_b1, zb_0, za_1, za_2, za_3, za_4, za_5, za_6, za_7, za_8, za_9, za_10, za_11, za_12, za_13, za_14, true_and, and_true, Nat.reduceAdd]
    refine zm_R_eq (c_w5 hE (d + 4) 117 110 100 101 114 (by decide) (by decide) (by decide) (by decide) (by decide) _) ?_
    simp only [bX12_body_40, zw_0, zw_1, zs_aloadn0, zs_aloadNn0, zs_iloadn2, zs_bipush, zi_12_132, zi_12_227, zs_ireturn, zh_0, zh_1, zh_2, zh_3, zh_4, zt_i, zt_l, zt_r, zt_n, zn_int, zn_b0, zn_b1, zb_0, za_1, za_2, za_3, za_4, za_5, za_6, za_7, za_8, za_9, za_10, za_11, za_12, za_13, za_14, true_and, and_true, Nat.reduceAdd]
    refine zm_R_mono (zu_pair (x := 17) (h := 9) hE (d + 3) (by decide) (by decide) hT hA hp (by decide)) (fun r M1 h1 => ?_)
    obtain ⟨T1, B1, h1⟩ := h1
    rcases h1 with ⟨a1, rfl, a3', a4, a5⟩ | ⟨f, j, a1, a2, rfl, a4⟩
    · simp only [bX12_body_40, zw_0, zw_1, zs_aloadn0, zs_aloadNn0, zs_iloadn2, zs_bipush, zi_12_132, zi_12_227, zs_ireturn, zh_0, zh_1, zh_2, zh_3, zh_4, zt_i, zt_l, zt_r, zt_n, zn_int, zn_b0, zn_b1, zb_0, za_1, za_2, za_3, za_4, za_5, za_6, za_7, za_8, za_9, za_10, za_11, za_12, za_13, za_14, true_and, and_true, Nat.reduceAdd]
      exact ⟨T1, B1, Or.inl ⟨hf.trans a1, by rw [e3 (by omega) (by omega)]; exact a3', zya M1 (by omega) (by omega) a4 a5⟩⟩
    · simp only [bX12_body_40, zw_0, zw_1, zs_aloadn0, zs_aloadNn0, zs_iloadn2, zs_bipush, zi_12_132, zi_12_227, zs_ireturn, zh_0, zh_1, zh_2, zh_3, zh_4, zt_i, zt_l, zt_r, zt_n, zn_int, zn_b0, zn_b1, zb_0, za_1, za_2, za_3, za_4, za_5, za_6, za_7, za_8, za_9, za_10, za_11, za_12, za_13, za_14, true_and, and_true, Nat.reduceAdd]
      exact ⟨T1, B1, Or.inr ⟨f, j, hf.trans a1, a2, rfl, a4⟩⟩
  · refine h61 _ _ _ ?_
    simp only [bX12_body_61, zw_0, zw_1, zs_aloadn0, zs_aloadNn0, zs_iloadn2, zs_bipush, zi_12_120, zi_12_227, zs_istoren3, zs_iloadn3, zs_ifeq, zs_goto, zc_none, zc_int, zc_ref, zc_null, zc_long, zh_0, zh_1, zh_2, zh_3, zh_4, zt_i, zt_l, zt_r, zt_n, zb_0, za_1, za_2, za_3, za_4, za_5, za_6, za_7, za_8, za_9, za_10, za_11, za_12, za_13, za_14, true_and, and_true, Nat.reduceAdd]
    refine zm_R_eq (c_w2 hE (d + 7) 116 111 (by decide) (by decide) _) ?_
    simp only [bX12_body_61, zw_0, zw_1, zs_aloadn0, zs_aloadNn0, zs_iloadn2, zs_bipush, zi_12_120, zi_12_227, zs_istoren3, zs_iloadn3, zs_ifeq, zs_goto, zc_none, zc_int, zc_ref, zc_null, zc_long, zh_0, zh_1, zh_2, zh_3, zh_4, zt_i, zt_l, zt_r, zt_n, zb_0, za_1, za_2, za_3, za_4, za_5, za_6, za_7, za_8, za_9, za_10, za_11, za_12, za_13, za_14, true_and, and_true, Nat.reduceAdd]
    refine zm_R_mono (zu_pair (x := 14) (h := 9) hE (d + 3) (by decide) (by decide) hT hA hp (by decide)) (fun r M1 h1 => ?_)
    obtain ⟨T1, B1, h1⟩ := h1
    rcases h1 with ⟨a1, rfl, a3', a4, a5'⟩ | ⟨f, j, a1, a2, rfl, a4⟩
    · have hf : zc_f (zs_T tp n) (zs_N tp n) w k = zc_sz (zs_T tp n) (zs_N tp n) k := by
        unfold zc_f
        rw [if_neg (by omega), if_pos a5, a1]; rfl
      have e3' : nI p + 3 = nI (p + 3) := nI_add p 3
      simp only [bX12_body_61, zw_0, zw_1, zs_aloadn0, zs_aloadNn0, zs_iloadn2, zs_bipush, zi_12_120, zi_12_227, zs_istoren3, zs_iloadn3, zs_ifeq, zs_goto, zc_none, zc_int, zc_ref, zc_null, zc_long, zh_0, zh_1, zh_2, zh_3, zh_4, zt_i, zt_l, zt_r, zt_n, zb_0, za_1, za_2, za_3, za_4, za_5, za_6, za_7, za_8, za_9, za_10, za_11, za_12, za_13, za_14, true_and, and_true, Nat.reduceAdd]
      refine ⟨fun _ => ?_, fun h => absurd trivial h⟩
      refine h84 _ _ _ ?_
      simp only [bX12_body_84, zw_0, zw_1, zs_aloadn0, zs_aloadNn0, zs_bipush, zi_12_128, zs_iloadn2, zs_iconst, zs_iadd, zs_sipush, zi_12_223, zh_0, zh_1, zh_2, zh_3, zh_4, zt_i, zt_l, zt_r, zt_n, zb_0, za_1, za_2, za_3, za_4, za_5, za_6, za_7, za_8, za_9, za_10, za_11, za_12, za_13, za_14, true_and, and_true, Nat.reduceAdd]
      refine zm_R_eq (c_w4 hE (d + 5) 115 105 122 101 (by decide) (by decide) (by decide) (by decide) _) ?_
      simp only [bX12_body_84, zw_0, zw_1, zs_aloadn0, zs_aloadNn0, zs_bipush, zi_12_128, zs_iloadn2, zs_iconst, zs_iadd, zs_sipush, zi_12_223, zh_0, zh_1, zh_2, zh_3, zh_4, zt_i, zt_l, zt_r, zt_n, zb_0, za_1, za_2, za_3, za_4, za_5, za_6, za_7, za_8, za_9, za_10, za_11, za_12, za_13, za_14, true_and, and_true, Nat.reduceAdd, e3']
      refine zu_word (p := p) (q := p + 3) (i := 9) (l := 1) (h := 9999) hE (d + 4) (by decide) (by decide) T1 a3' (zs_le _ _ _) (by omega) (by omega) (by omega) (by decide) (by decide) (fun z2 => ?_) (fun y2 M2 T2 A2 B2 z3 => ?_) (fun y2 M2 T2 A2 B2 y3 z3 => ?_) (fun y2 y3 z3 M2 T2 A2 B2 w2 => ?_)
      · simp only [bX12_body_84, zw_0, zw_1, zs_aloadn0, zs_aloadNn0, zs_bipush, zi_12_128, zs_iloadn2, zs_iconst, zs_iadd, zs_sipush, zi_12_223, zh_0, zh_1, zh_2, zh_3, zh_4, zt_i, zt_l, zt_r, zt_n, zb_0, za_1, za_2, za_3, za_4, za_5, za_6, za_7, za_8, za_9, za_10, za_11, za_12, za_13, za_14, true_and, and_true, Nat.reduceAdd]
        refine h106 _ _ _ ?_
        simp only [bX12_body_106, zw_0, zw_1, zs_ireturn, zn_int, zn_b0, zn_b1, zb_0, za_1, za_2, za_3, za_4, za_5, za_6, za_7, za_8, za_9, za_10, za_11, za_12, za_13, za_14, true_and, and_true, Nat.reduceAdd]
        exact ⟨T1, B1, Or.inr ⟨1, k + 3, by rw [hf]; unfold zc_sz; rw [if_pos z2], by decide, rfl, a3'⟩⟩
      · simp only [bX12_body_84, zw_0, zw_1, zs_aloadn0, zs_aloadNn0, zs_bipush, zi_12_128, zs_iloadn2, zs_iconst, zs_iadd, zs_sipush, zi_12_223, zh_0, zh_1, zh_2, zh_3, zh_4, zt_i, zt_l, zt_r, zt_n, zb_0, za_1, za_2, za_3, za_4, za_5, za_6, za_7, za_8, za_9, za_10, za_11, za_12, za_13, za_14, true_and, and_true, Nat.reduceAdd]
        refine h106 _ _ _ ?_
        simp only [bX12_body_106, zw_0, zw_1, zs_ireturn, zn_int, zn_b0, zn_b1, zb_0, za_1, za_2, za_3, za_4, za_5, za_6, za_7, za_8, za_9, za_10, za_11, za_12, za_13, za_14, true_and, and_true, Nat.reduceAdd]
        exact ⟨T2, zu_A_trans B1 B2, Or.inr ⟨1, k + 4, by rw [hf]; unfold zc_sz; rw [if_neg (fun z => z y2), if_pos z3], by decide, rfl, A2⟩⟩
      · simp only [bX12_body_84, zw_0, zw_1, zs_aloadn0, zs_aloadNn0, zs_bipush, zi_12_128, zs_iloadn2, zs_iconst, zs_iadd, zs_sipush, zi_12_223, zh_0, zh_1, zh_2, zh_3, zh_4, zt_i, zt_l, zt_r, zt_n, zb_0, za_1, za_2, za_3, za_4, za_5, za_6, za_7, za_8, za_9, za_10, za_11, za_12, za_13, za_14, true_and, and_true, Nat.reduceAdd]
        refine h106 _ _ _ ?_
        simp only [bX12_body_106, zw_0, zw_1, zs_ireturn, zn_int, zn_b0, zn_b1, zb_0, za_1, za_2, za_3, za_4, za_5, za_6, za_7, za_8, za_9, za_10, za_11, za_12, za_13, za_14, true_and, and_true, Nat.reduceAdd]
        exact ⟨T2, zu_A_trans B1 B2, Or.inr ⟨2, k + 4, by rw [hf]; unfold zc_sz; rw [if_neg (fun z => z y2), if_neg (fun z => z y3), if_pos z3], by decide, rfl, A2⟩⟩
      · simp only [bX12_body_84, zw_0, zw_1, zs_aloadn0, zs_aloadNn0, zs_bipush, zi_12_128, zs_iloadn2, zs_iconst, zs_iadd, zs_sipush, zi_12_223, zh_0, zh_1, zh_2, zh_3, zh_4, zt_i, zt_l, zt_r, zt_n, zb_0, za_1, za_2, za_3, za_4, za_5, za_6, za_7, za_8, za_9, za_10, za_11, za_12, za_13, za_14, true_and, and_true, Nat.reduceAdd]
        refine h106 _ _ _ ?_
        simp only [bX12_body_106, zw_0, zw_1, zs_ireturn, zn_int, zn_b0, zn_b1, zb_0, za_1, za_2, za_3, za_4, za_5, za_6, za_7, za_8, za_9, za_10, za_11, za_12, za_13, za_14, true_and, and_true, Nat.reduceAdd]
        refine ⟨T2, zu_A_trans B1 B2, Or.inl ⟨by rw [hf]; unfold zc_sz; rw [if_neg (fun z => z y2), if_neg (fun z => z y3), if_neg (fun x => x z3)], ?_, ⟨fun _ => ⟨?_, ?_⟩, fun _ => ?_, fun z => absurd z (ne 8 (by decide) (by omega))⟩⟩⟩
        · rw [show k + zc_e w = k + 5 by unfold zc_e; rw [if_neg (by omega), if_pos a5]]; exact A2
        · rw [w2, if_neg (by omega)]; exact a4
        · rw [w2, if_neg (by omega)]; exact a5'
        · rw [w2, if_pos rfl]
    · have hf : zc_f (zs_T tp n) (zs_N tp n) w k = some (f, j) := by
        unfold zc_f
        rw [if_neg (by omega), if_pos a5, a1]; rfl
      simp only [bX12_body_61, zw_0, zw_1, zs_aloadn0, zs_aloadNn0, zs_iloadn2, zs_bipush, zi_12_120, zi_12_227, zs_istoren3, zs_iloadn3, zs_ifeq, zs_goto, zc_none, zc_int, zc_ref, zc_null, zc_long, zh_0, zh_1, zh_2, zh_3, zh_4, zt_i, zt_l, zt_r, zt_n, zb_0, za_1, za_2, za_3, za_4, za_5, za_6, za_7, za_8, za_9, za_10, za_11, za_12, za_13, za_14, true_and, and_true, Nat.reduceAdd]
      refine ⟨fun h => absurd h (nI_ne0 (by omega) (by omega)), fun _ => ?_⟩
      refine h106 _ _ _ ?_
      simp only [bX12_body_106, zw_0, zw_1, zs_ireturn, zn_int, zn_b0, zn_b1, zb_0, za_1, za_2, za_3, za_4, za_5, za_6, za_7, za_8, za_9, za_10, za_11, za_12, za_13, za_14, true_and, and_true, Nat.reduceAdd]
      exact ⟨T1, B1, Or.inr ⟨f, j, hf, a2, rfl, a4⟩⟩
  · have hf : zc_f (zs_T tp n) (zs_N tp n) w k = zc_pr (zs_T tp n) (zs_N tp n) 15 99 k := by
      unfold zc_f; rw [if_neg (by omega), if_neg (by omega), if_neg (by omega), if_pos a6]
    refine h107 _ _ _ ?_
    simp only [bX12_body_107, zw_0, zw_1, zs_aloadn0, zs_aloadNn0, zs_iloadn2, zs_bipush, zi_12_128, zi_12_227, zs_ireturn, zh_0, zh_1, zh_2, zh_3, zh_4, zt_i, zt_l, zt_r, zt_n, zn_int, zn_b0, zn_b1, zb_0, za_1, za_2, za_3, za_4, za_5, za_6, za_7, za_8, za_9, za_10, za_11, za_12, za_13, za_14, true_and, and_true, Nat.reduceAdd]
    refine zm_R_eq (c_w4 hE (d + 5) 100 97 121 115 (by decide) (by decide) (by decide) (by decide) _) ?_
    simp only [bX12_body_107, zw_0, zw_1, zs_aloadn0, zs_aloadNn0, zs_iloadn2, zs_bipush, zi_12_128, zi_12_227, zs_ireturn, zh_0, zh_1, zh_2, zh_3, zh_4, zt_i, zt_l, zt_r, zt_n, zn_int, zn_b0, zn_b1, zb_0, za_1, za_2, za_3, za_4, za_5, za_6, za_7, za_8, za_9, za_10, za_11, za_12, za_13, za_14, true_and, and_true, Nat.reduceAdd]
    refine zm_R_mono (zu_pair (x := 15) (h := 99) hE (d + 3) (by decide) (by decide) hT hA hp (by decide)) (fun r M1 h1 => ?_)
    obtain ⟨T1, B1, h1⟩ := h1
    rcases h1 with ⟨a1, rfl, a3', a4, a5⟩ | ⟨f, j, a1, a2, rfl, a4⟩
    · simp only [bX12_body_107, zw_0, zw_1, zs_aloadn0, zs_aloadNn0, zs_iloadn2, zs_bipush, zi_12_128, zi_12_227, zs_ireturn, zh_0, zh_1, zh_2, zh_3, zh_4, zt_i, zt_l, zt_r, zt_n, zn_int, zn_b0, zn_b1, zb_0, za_1, za_2, za_3, za_4, za_5, za_6, za_7, za_8, za_9, za_10, za_11, za_12, za_13, za_14, true_and, and_true, Nat.reduceAdd]
      exact ⟨T1, B1, Or.inl ⟨hf.trans a1, by rw [e3 (by omega) (by omega)]; exact a3', zya M1 (by omega) (by omega) a4 a5⟩⟩
    · simp only [bX12_body_107, zw_0, zw_1, zs_aloadn0, zs_aloadNn0, zs_iloadn2, zs_bipush, zi_12_128, zi_12_227, zs_ireturn, zh_0, zh_1, zh_2, zh_3, zh_4, zt_i, zt_l, zt_r, zt_n, zn_int, zn_b0, zn_b1, zb_0, za_1, za_2, za_3, za_4, za_5, za_6, za_7, za_8, za_9, za_10, za_11, za_12, za_13, za_14, true_and, and_true, Nat.reduceAdd]
      exact ⟨T1, B1, Or.inr ⟨f, j, hf.trans a1, a2, rfl, a4⟩⟩
  · have hf : zc_f (zs_T tp n) (zs_N tp n) w k = zc_dy (zs_T tp n) (zs_N tp n) k := by
      unfold zc_f; rw [if_pos a8]
    refine h126 _ _ _ ?_
    simp only [bX12_body_126, zw_0, zw_1, zs_aloadn0, zs_aloadNn0, zs_iloadn2, zs_iconst, zs_iadd, zs_bipush, zi_12_216, zs_ireturn, zh_0, zh_1, zh_2, zh_3, zh_4, zt_i, zt_l, zt_r, zt_n, zn_int, zn_b0, zn_b1, zb_0, za_1, za_2, za_3, za_4, za_5, za_6, za_7, za_8, za_9, za_10, za_11, za_12, za_13, za_14, true_and, and_true, Nat.reduceAdd, nI_1]
    refine zu_fig (p := p) (q := p + 1) (l := 1) (h := 60) hE (d + 5) hT hA (by omega) (by omega) (by omega) (by decide) (by decide) (fun z => ?_) (fun y z => ?_) (fun y z M1 T1 A1 B1 w1 => ?_)
    · simp only [bX12_body_126, zw_0, zw_1, zs_aloadn0, zs_aloadNn0, zs_iloadn2, zs_iconst, zs_iadd, zs_bipush, zi_12_216, zs_ireturn, zh_0, zh_1, zh_2, zh_3, zh_4, zt_i, zt_l, zt_r, zt_n, zn_int, zn_b0, zn_b1, zb_0, za_1, za_2, za_3, za_4, za_5, za_6, za_7, za_8, za_9, za_10, za_11, za_12, za_13, za_14, true_and, and_true, Nat.reduceAdd]
      exact ⟨hT, zu_A_refl, Or.inr ⟨1, k, by rw [hf]; unfold zc_dy; rw [if_pos z], by decide, rfl, hA⟩⟩
    · simp only [bX12_body_126, zw_0, zw_1, zs_aloadn0, zs_aloadNn0, zs_iloadn2, zs_iconst, zs_iadd, zs_bipush, zi_12_216, zs_ireturn, zh_0, zh_1, zh_2, zh_3, zh_4, zt_i, zt_l, zt_r, zt_n, zn_int, zn_b0, zn_b1, zb_0, za_1, za_2, za_3, za_4, za_5, za_6, za_7, za_8, za_9, za_10, za_11, za_12, za_13, za_14, true_and, and_true, Nat.reduceAdd]
      exact ⟨hT, zu_A_refl, Or.inr ⟨2, k, by rw [hf]; unfold zc_dy; rw [if_neg (fun z => z y), if_pos z], by decide, rfl, hA⟩⟩
    · simp only [bX12_body_126, zw_0, zw_1, zs_aloadn0, zs_aloadNn0, zs_iloadn2, zs_iconst, zs_iadd, zs_bipush, zi_12_216, zs_ireturn, zh_0, zh_1, zh_2, zh_3, zh_4, zt_i, zt_l, zt_r, zt_n, zn_int, zn_b0, zn_b1, zb_0, za_1, za_2, za_3, za_4, za_5, za_6, za_7, za_8, za_9, za_10, za_11, za_12, za_13, za_14, true_and, and_true, Nat.reduceAdd]
      refine ⟨T1, B1, Or.inl ⟨by rw [hf]; unfold zc_dy; rw [if_neg (fun z => z y), if_neg (fun x => x z)], ?_, ⟨fun z => ?_, fun z => absurd z (ne 5 (by decide) (by omega)), fun _ => ⟨?_, zs_N tp n k, z.2, rfl⟩⟩⟩⟩
      · rw [show k + zc_e w = k + 1 by unfold zc_e; rw [if_pos a8]]; exact A1
      · exfalso
        rw [q3, q4, q5, q6, q7] at z
        omega
      · rw [w1, if_pos rfl]
def zu_L (b c0 p : Nat) (M M' : zm_M) : Prop := zf [0, 3, 5] M M' ∧ zg 0 [7, 8, 9, 10, 13, 16, 17, 18] M M' ∧ (∀ j, (j < b + 97 + 2 * c0 ∨ b + 705 ≤ j) → j ≠ p + 1 → j ≠ p + 2 → M'.1 3 j = M.1 3 j) ∧ ∀ j, j ≠ 11 → M'.2.1 0 j = M.2.1 0 j
theorem zu_law (hE : zm_ok E.2.2.1 E.2.2.2.2) (d : Nat) {m k b c0 p w : Nat} {M : zm_M} (hw : w ≤ 2) (hm : zk_st tp n m = n) (hb : b ≤ 2115) (hp : b ≤ p) (hp2 : p + 3 ≤ b + 97) (hT : zk_tm tp n M) (hA : zk_at tp n (zk_st tp n k) M) (h12 : M.1 0 12 = nI b) (h13 : M.1 0 13 = nI c0) (h14 : M.1 0 14 = nI w) (hck : c0 ≤ k) (hkm : k ≤ m) (hm3 : m ≤ 300) {Q : Option Value → zm_M → Prop} : (∀ k' D, zc_O (zs_T tp n) (zs_N tp n) w k k' D → (∀ cs M', zk_tm tp n M' → zk_at tp n (zk_st tp n k') M' → zs_mn cs D → M'.1 0 13 = nI (c0 + cs.length) → zh_cs (b + 97 + 2 * c0) cs (M'.1 3) → M'.1 3 (p + 1) = nI c0 → M'.1 3 (p + 2) = nI (c0 + cs.length) → c0 + cs.length ≤ k' → k' ≤ m → zu_L b c0 p M M' → Q (some (.int 0)) M') → zm_R E (d + 8) mX12_lawClause [.ref 0, .int (nI p)] M Q) ∧ (∀ f j, zc_F (zs_T tp n) (zs_N tp n) w k f j → ((1 ≤ f ∧ f ≤ 5) → ∀ M', zk_tm tp n M' → zk_at tp n (zk_st tp n j) M' → zu_L b c0 p M M' → Q (some (.int (nI f))) M') → zm_R E (d + 8) mX12_lawClause [.ref 0, .int (nI p)] M Q) := by
  have v1 : vp_in (nI (p + 1)) 2820 := vp_in_nI (by omega) (by decide)
  have v2 : (nI (p + 1)).toNatClampNeg = p + 1 := nI_clamp (by omega)
  have v3 : vp_in (nI (p + 2)) 2820 := vp_in_nI (by omega) (by decide)
  have v4 : (nI (p + 2)).toNatClampNeg = p + 2 := nI_clamp (by omega)
  have e2 : nI p + 2 = nI (p + 2) := nI_add p 2
  have key : ∀ (Fa : Nat → Nat → Prop) (Fi : Nat → List (Nat × Nat) → Prop), (∀ G, zs_ru (zs_T tp n) (zs_N tp n) w G Fa Fi → G k [] 0 false []) → (∀ f j, (1 ≤ f ∧ f ≤ 5) → Fa f j → ∀ M', zk_tm tp n M' → zk_at tp n (zk_st tp n j) M' → zu_L b c0 p M M' → Q (some (.int (nI f))) M') → (∀ k' cs, Fi k' cs → ∀ M', zk_tm tp n M' → zk_at tp n (zk_st tp n k') M' → M'.1 0 13 = nI (c0 + cs.length) → zh_cs (b + 97 + 2 * c0) cs (M'.1 3) → M'.1 3 (p + 1) = nI c0 → M'.1 3 (p + 2) = nI (c0 + cs.length) → c0 + cs.length ≤ k' → k' ≤ m → zu_L b c0 p M M' → Q (some (.int 0)) M') → zm_R E (d + 8) mX12_lawClause [.ref 0, .int (nI p)] M Q := by
    intro Fa Fi run k1 k2
    refine zX12_lawClause hE rfl (fun G h0 => ?_)
    show G 0 [some (.ref 0), some (.int (nI p)), none] [] M
    refine h0 _ _ _ ?_
    simp only [bX12_lawClause_0, zw_0, zw_1, zs_aloadn0, zs_aloadNn0, zg_12_16, zs_iloadn1, zs_iconst, zs_iadd, zg_12_139, zs_iastore, zi_12_220, zs_istoren2, zs_iloadn2, zs_ireturn, zc_none, zc_int, zc_ref, zc_null, zc_long, zh_0, zh_1, zh_2, zh_3, zh_4, zt_i, zt_l, zt_r, zt_n, zn_int, zn_b0, zn_b1, zb_0, za_1, za_2, za_3, za_4, za_5, za_6, za_7, za_8, za_9, za_10, za_11, za_12, za_13, za_14, zu_0, zu_1, zu_2, zu_3, zu_4, zu_5, zu_6, zu_7, zu_8, zu_9, zu_10, zu_11, zu_12, zu_13, zu_14, zu_15, zu_16, zu_17, zu_18, zu_19, zu_20, zu_21, zu_22, zu_23, zu_24, zu_25, zu_26, zu_27, zu_28, zu_29, zu_30, zu_90, zv_0_9, zv_1_9, zv_2_9, zv_3_9, zv_4_9, zv_5_9, zv_6_9, zv_7_9, zv_8_9, zv_0_330, zv_0_4544, zv_1_4544, zv_2_4544, zv_3_4544, zv_4_4544, zv_5_4544, zv_6_4544, zv_7_4544, zv_8_4544, zv_9_4544, zv_10_4544, zv_11_4544, zv_12_4544, zv_13_4544, zv_14_4544, zv_15_4544, zv_16_4544, zv_17_4544, zv_18_4544, zv_19_4544, zv_20_4544, zv_21_4544, zv_22_4544, zv_23_4544, zv_24_4544, zv_25_4544, zv_26_4544, zv_27_4544, zv_28_4544, zv_29_4544, zv_0_11, zv_1_11, zv_0_160, true_and, and_true, Nat.reduceAdd, nI_1, v1, v2, h13]
    have B1 : zu_A p M (zm_wi M 3 (p + 1) (nI c0)) := zu_A_w (by omega) (by omega)
    have T1 := zk_tm_A hT B1
    have A1 : zk_at tp n (zk_st tp n k) (zm_wi M 3 (p + 1) (nI c0)) := zk_at_c hA (fun j _ => by rw [zm_wi_other (by decide)]) rfl
    refine zm_R_mono (c_summed hE d hm hb (by omega) ⟨T1, A1⟩ (by rw [zm_wi_other (by decide)]; exact h12) (by rw [zm_wi_other (by decide)]; exact h13) (by rw [zm_wi_other (by decide)]; exact h14) hck hkm hm3 run) (fun r M2 h2 => ?_)
    obtain ⟨F2, h2⟩ := h2
    have wr : ∀ v, zu_L b c0 p M (zm_wi M2 3 (p + 2) v) := by
      intro v
      refine ⟨zf_wi (zf_trans (zf_wi zf_refl (by decide)) F2.1) (by decide), fun j hj => ?_, fun j hj h1 h2 => ?_, fun j hj => ?_⟩
      · rw [zm_wi_other (by decide), F2.2.1 j hj, zm_wi_other (by decide)]
      · rw [zm_wi_same, if_neg h2, F2.2.2.1 j hj, zm_wi_same, if_neg h1]
      · exact F2.2.2.2 j hj
    have tk : ∀ v j, zk_tm tp n M2 → zk_at tp n (zk_st tp n j) M2 → zk_tm tp n (zm_wi M2 3 (p + 2) v) ∧ zk_at tp n (zk_st tp n j) (zm_wi M2 3 (p + 2) v) := fun v j a b => ⟨zk_tm_A a (zu_A_w (p := p) (by omega) (by omega)), zk_at_c b (fun j _ => by rw [zm_wi_other (by decide)]) rfl⟩
    rcases h2 with ⟨f, j, a1, a2, rfl, a4, a5⟩ | ⟨k', cs, a1, rfl, a3, a4, a5, a6, a7⟩
    · simp only [bX12_lawClause_0, zw_0, zw_1, zs_aloadn0, zs_aloadNn0, zg_12_16, zs_iloadn1, zs_iconst, zs_iadd, zg_12_139, zs_iastore, zi_12_220, zs_istoren2, zs_iloadn2, zs_ireturn, zc_none, zc_int, zc_ref, zc_null, zc_long, zh_0, zh_1, zh_2, zh_3, zh_4, zt_i, zt_l, zt_r, zt_n, zn_int, zn_b0, zn_b1, zb_0, za_1, za_2, za_3, za_4, za_5, za_6, za_7, za_8, za_9, za_10, za_11, za_12, za_13, za_14, zu_0, zu_1, zu_2, zu_3, zu_4, zu_5, zu_6, zu_7, zu_8, zu_9, zu_10, zu_11, zu_12, zu_13, zu_14, zu_15, zu_16, zu_17, zu_18, zu_19, zu_20, zu_21, zu_22, zu_23, zu_24, zu_25, zu_26, zu_27, zu_28, zu_29, zu_30, zu_90, zv_0_9, zv_1_9, zv_2_9, zv_3_9, zv_4_9, zv_5_9, zv_6_9, zv_7_9, zv_8_9, zv_0_330, zv_0_4544, zv_1_4544, zv_2_4544, zv_3_4544, zv_4_4544, zv_5_4544, zv_6_4544, zv_7_4544, zv_8_4544, zv_9_4544, zv_10_4544, zv_11_4544, zv_12_4544, zv_13_4544, zv_14_4544, zv_15_4544, zv_16_4544, zv_17_4544, zv_18_4544, zv_19_4544, zv_20_4544, zv_21_4544, zv_22_4544, zv_23_4544, zv_24_4544, zv_25_4544, zv_26_4544, zv_27_4544, zv_28_4544, zv_29_4544, zv_0_11, zv_1_11, zv_0_160, true_and, and_true, Nat.reduceAdd, e2, v3, v4]
      obtain ⟨t1, t2⟩ := tk (M2.1 0 13) j a4 a5
      exact k1 f j a1 a2 _ t1 t2 (wr _)
    · simp only [bX12_lawClause_0, zw_0, zw_1, zs_aloadn0, zs_aloadNn0, zg_12_16, zs_iloadn1, zs_iconst, zs_iadd, zg_12_139, zs_iastore, zi_12_220, zs_istoren2, zs_iloadn2, zs_ireturn, zc_none, zc_int, zc_ref, zc_null, zc_long, zh_0, zh_1, zh_2, zh_3, zh_4, zt_i, zt_l, zt_r, zt_n, zn_int, zn_b0, zn_b1, zb_0, za_1, za_2, za_3, za_4, za_5, za_6, za_7, za_8, za_9, za_10, za_11, za_12, za_13, za_14, zu_0, zu_1, zu_2, zu_3, zu_4, zu_5, zu_6, zu_7, zu_8, zu_9, zu_10, zu_11, zu_12, zu_13, zu_14, zu_15, zu_16, zu_17, zu_18, zu_19, zu_20, zu_21, zu_22, zu_23, zu_24, zu_25, zu_26, zu_27, zu_28, zu_29, zu_30, zu_90, zv_0_9, zv_1_9, zv_2_9, zv_3_9, zv_4_9, zv_5_9, zv_6_9, zv_7_9, zv_8_9, zv_0_330, zv_0_4544, zv_1_4544, zv_2_4544, zv_3_4544, zv_4_4544, zv_5_4544, zv_6_4544, zv_7_4544, zv_8_4544, zv_9_4544, zv_10_4544, zv_11_4544, zv_12_4544, zv_13_4544, zv_14_4544, zv_15_4544, zv_16_4544, zv_17_4544, zv_18_4544, zv_19_4544, zv_20_4544, zv_21_4544, zv_22_4544, zv_23_4544, zv_24_4544, zv_25_4544, zv_26_4544, zv_27_4544, zv_28_4544, zv_29_4544, zv_0_11, zv_1_11, zv_0_160, true_and, and_true, Nat.reduceAdd, e2, v3, v4, a4]
      obtain ⟨t1, t2⟩ := tk (nI (c0 + cs.length)) k' a3.1 a3.2
      refine k2 k' cs a1 _ t1 t2 (by rw [zm_wi_other (by decide)]; exact a4) (zh_cs_c a5 (fun j j1 j2 => by rw [zm_wi_same, if_neg (by omega)])) ?_ (by rw [zm_wi_same, if_pos rfl]) a6 a7 (wr _)
      rw [zm_wi_same, if_neg (by omega), F2.2.2.1 (p + 1) (by omega), zm_wi_same, if_pos rfl]
  refine ⟨fun k' D hO q1 => ?_, fun f j hF q2 => ?_⟩
  · have hO2 := hO
    unfold zc_O at hO2
    rw [if_pos hw] at hO2
    refine key (fun _ _ => False) (fun j cs => j = k' ∧ zs_mn cs D) (hO2.2 _) (fun f j _ z => absurd z id) (fun k2 cs z M' a1 a2 a3 a4 a5 a6 a7 a8 a9 => ?_)
    obtain ⟨rfl, z2⟩ := z
    exact q1 cs M' a1 a2 z2 a3 a4 a5 a6 a7 a8 a9
  · have hF2 := hF
    unfold zc_F at hF2
    rw [if_pos hw] at hF2
    refine key (fun f' j' => f' = f ∧ j' = j) (fun _ _ => False) (hF2 _) (fun f2 j2 l z M' a1 a2 a3 => ?_) (fun k2 cs z => absurd z id)
    obtain ⟨rfl, rfl⟩ := z
    exact q2 l M' a1 a2 a3
end
