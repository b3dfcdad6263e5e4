/-! ===== the reference: what is open now ===== -/
theorem zh_op_at : ∀ (ws : List Nat) (f : Nat → Int32), ws.length ≤ 160 → zh_wf ws f → (zh_op ws = -1 ∧ zh_on ws = -1) ∨ ∃ i c, i < ws.length ∧ zh_op ws = nI i ∧ f i = nI c ∧ zh_on ws = nI c ∧ 40 ≤ c ∧ c < 100 := by
  intro ws
  induction ws with
  | nil => intro f _ _; exact Or.inl ⟨rfl, rfl⟩
  | cons c ws ih =>
    intro f hl h
    have hl2 : ws.length + 1 ≤ 160 := hl
    simp only [zh_op, zh_on]
    by_cases c4 : 40 ≤ c
    · rw [if_pos c4, if_pos c4]
      exact Or.inr ⟨ws.length, c, by simp, rfl, h.1, rfl, c4, h.2.1⟩
    · rw [if_neg c4, if_neg c4]
      rcases ih f (by omega) h.2.2 with z | ⟨i, x, z1, z2⟩
      · exact Or.inl z
      · exact Or.inr ⟨i, x, by simp; omega, z2⟩
theorem c_openNow {E : zm_E} (hE : zm_ok E.2.2.1 E.2.2.2.2) (d : Nat) {ws : List Nat} {M : zm_M} (hW : zh_W ws M) : zm_R E (d + 2) mX12_openNow [.ref 0] M (fun r M' => r = some (.int (zh_on ws)) ∧ M' = M) := by
  refine zX12_openNow hE rfl (fun G h0 h11 h20 => ?_)
  show G 0 [some (.ref 0)] [] M
  have fin : ∀ x : Int32, x = zh_on ws → G 20 [some (.ref 0)] [.int x] M := by
    intro x hx
    refine h20 _ _ _ ?_
    simp only [bX12_openNow_20, zw_0, zw_1, zs_ireturn, zn_int, zn_b0, zn_b1, zb_0, za_1, za_2, za_3, za_4, za_5, za_6, za_7, za_8, za_9, za_10, za_11, za_12, za_13, za_14, true_and, and_true, Nat.reduceAdd]
    rw [hx]
  have hl := hW.2.1
  refine h0 _ _ _ ?_
  simp only [bX12_openNow_0, zw_0, zw_1, zs_aloadn0, zs_aloadNn0, zi_12_158, zs_ifge, zs_iconst, zs_goto, zh_0, zh_1, zh_2, zh_3, zh_4, zt_i, zt_l, zt_r, zt_n, zb_0, za_1, za_2, za_3, za_4, za_5, za_6, za_7, za_8, za_9, za_10, za_11, za_12, za_13, za_14, true_and, and_true, Nat.reduceAdd]
  refine zm_R_eq (c_openAt hE d hW) ?_
  rcases zh_op_at ws (M.1 5) hW.2.1 hW.2.2 with ⟨z1, z2⟩ | ⟨i, c, z1, z2, z3, z4, z5, z6⟩
  · rw [z1]
    simp only [bX12_openNow_0, zw_0, zw_1, zs_aloadn0, zs_aloadNn0, zi_12_158, zs_ifge, zs_iconst, zs_goto, zh_0, zh_1, zh_2, zh_3, zh_4, zt_i, zt_l, zt_r, zt_n, zb_0, za_1, za_2, za_3, za_4, za_5, za_6, za_7, za_8, za_9, za_10, za_11, za_12, za_13, za_14, true_and, and_true, Nat.reduceAdd]
    exact ⟨fun h => absurd h (by decide), fun _ => fin _ z2.symm⟩
  · rw [z2]
    simp only [bX12_openNow_0, zw_0, zw_1, zs_aloadn0, zs_aloadNn0, zi_12_158, zs_ifge, zs_iconst, zs_goto, zh_0, zh_1, zh_2, zh_3, zh_4, zt_i, zt_l, zt_r, zt_n, zb_0, za_1, za_2, za_3, za_4, za_5, za_6, za_7, za_8, za_9, za_10, za_11, za_12, za_13, za_14, true_and, and_true, Nat.reduceAdd]
    refine ⟨fun _ => ?_, fun h => absurd (zr_pos (by omega)) h⟩
    refine h11 _ _ _ ?_
    simp only [bX12_openNow_11, zw_0, zw_1, zs_aloadn0, zs_aloadNn0, zg_12_29, zi_12_158, zs_iaload, zh_0, zh_1, zh_2, zh_3, zh_4, zt_i, zt_l, zt_r, zt_n, zb_0, za_1, za_2, za_3, za_4, za_5, za_6, za_7, za_8, za_9, za_10, za_11, za_12, za_13, za_14, zu_0, zu_1, zu_2, zu_3, zu_4, zu_5, zu_6, zu_7, zu_8, zu_9, zu_10, zu_11, zu_12, zu_13, zu_14, zu_15, zu_16, zu_17, zu_18, zu_19, zu_20, zu_21, zu_22, zu_23, zu_24, zu_25, zu_26, zu_27, zu_28, zu_29, zu_30, zu_90, zv_0_9, zv_1_9, zv_2_9, zv_3_9, zv_4_9, zv_5_9, zv_6_9, zv_7_9, zv_8_9, zv_0_330, zv_0_4544, zv_1_4544, zv_2_4544, zv_3_4544, zv_4_4544, zv_5_4544, zv_6_4544, zv_7_4544, zv_8_4544, zv_9_4544, zv_10_4544, zv_11_4544, zv_12_4544, zv_13_4544, zv_14_4544, zv_15_4544, zv_16_4544, zv_17_4544, zv_18_4544, zv_19_4544, zv_20_4544, zv_21_4544, zv_22_4544, zv_23_4544, zv_24_4544, zv_25_4544, zv_26_4544, zv_27_4544, zv_28_4544, zv_29_4544, zv_0_11, zv_1_11, zv_0_160, true_and, and_true, Nat.reduceAdd]
    refine zm_R_eq (c_openAt hE d hW) ?_
    have v1 : vp_in (nI i) 160 := vp_in_nI (by omega) (by decide)
    have v2 : (nI i).toNatClampNeg = i := nI_clamp (by omega)
    rw [z2]
    simp only [bX12_openNow_11, zw_0, zw_1, zs_aloadn0, zs_aloadNn0, zg_12_29, zi_12_158, zs_iaload, zh_0, zh_1, zh_2, zh_3, zh_4, zt_i, zt_l, zt_r, zt_n, zb_0, za_1, za_2, za_3, za_4, za_5, za_6, za_7, za_8, za_9, za_10, za_11, za_12, za_13, za_14, zu_0, zu_1, zu_2, zu_3, zu_4, zu_5, zu_6, zu_7, zu_8, zu_9, zu_10, zu_11, zu_12, zu_13, zu_14, zu_15, zu_16, zu_17, zu_18, zu_19, zu_20, zu_21, zu_22, zu_23, zu_24, zu_25, zu_26, zu_27, zu_28, zu_29, zu_30, zu_90, zv_0_9, zv_1_9, zv_2_9, zv_3_9, zv_4_9, zv_5_9, zv_6_9, zv_7_9, zv_8_9, zv_0_330, zv_0_4544, zv_1_4544, zv_2_4544, zv_3_4544, zv_4_4544, zv_5_4544, zv_6_4544, zv_7_4544, zv_8_4544, zv_9_4544, zv_10_4544, zv_11_4544, zv_12_4544, zv_13_4544, zv_14_4544, zv_15_4544, zv_16_4544, zv_17_4544, zv_18_4544, zv_19_4544, zv_20_4544, zv_21_4544, zv_22_4544, zv_23_4544, zv_24_4544, zv_25_4544, zv_26_4544, zv_27_4544, zv_28_4544, zv_29_4544, zv_0_11, zv_1_11, zv_0_160, true_and, and_true, Nat.reduceAdd, v1, v2, z3]
    exact fin _ z4.symm
