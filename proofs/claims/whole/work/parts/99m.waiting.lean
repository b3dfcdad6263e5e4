/-! ===== the reference: what waits ===== -/
def zh_wf : List Nat → (Nat → Int32) → Prop
  | [], _ => True
  | c :: ws, f => f ws.length = nI c ∧ c < 100 ∧ zh_wf ws f
def zh_W (ws : List Nat) (M : zm_M) : Prop := M.1 0 16 = nI ws.length ∧ ws.length ≤ 160 ∧ zh_wf ws (M.1 5)
theorem zh_wc : ∀ (ws : List Nat) (f g : Nat → Int32), zh_wf ws f → (∀ i, i < ws.length → g i = f i) → zh_wf ws g := by
  intro ws
  induction ws with
  | nil => intro f g _ _; trivial
  | cons c ws ih =>
    intro f g h e
    refine ⟨?_, h.2.1, ih f g h.2.2 (fun i hi => e i (by simp; omega))⟩
    rw [e ws.length (by simp)]
    exact h.1
/-- where the innermost open thing stands -/
def zh_op : List Nat → Int32
  | [] => -1
  | c :: ws => if 40 ≤ c then nI ws.length else zh_op ws
def zh_on : List Nat → Int32
  | [] => -1
  | c :: ws => if 40 ≤ c then nI c else zh_on ws
theorem zh_mi {l : Nat} (h : l < 2 ^ 30) : nI (l + 1) + -1 = nI l := by
  rw [← nI_1]
  rw [Int32.add_assoc]
  exact Int32.add_zero _
theorem c_openAt {E : zm_E} (hE : zm_ok E.2.2.1 E.2.2.2.2) (d : Nat) {ws : List Nat} {M : zm_M} (hW : zh_W ws M) : zm_R E (d + 1) mX12_openAt [.ref 0] M (fun r M' => r = some (.int (zh_op ws)) ∧ M' = M) := by
  refine zX12_openAt hE rfl (fun G h0 h7 h28 => ?_)
  show G 0 [some (.ref 0), none] [] M
  obtain ⟨h16, hl, hf⟩ := hW
  have loop : ∀ (us : List Nat), us.length ≤ 160 → zh_wf us (M.1 5) → zh_op us = zh_op ws → G 7 [some (.ref 0), some (.int (nI us.length + -1))] [] M := by
    intro us
    induction us with
    | nil =>
      intro _ _ e
      refine h7 _ _ _ ?_
      simp only [bX12_openAt_7, zw_0, zw_1, zs_iloadn1, zs_iflt, zs_aloadn0, zs_aloadNn0, zg_12_29, zs_iaload, zs_bipush, zs_icge, zs_iinc1, zs_goto, zc_none, zc_int, zc_ref, zc_null, zc_long, zb_0, za_1, za_2, za_3, za_4, za_5, za_6, za_7, za_8, za_9, za_10, za_11, za_12, za_13, za_14, zu_0, zu_1, zu_2, zu_3, zu_4, zu_5, zu_6, zu_7, zu_8, zu_9, zu_10, zu_11, zu_12, zu_13, zu_14, zu_15, zu_16, zu_17, zu_18, zu_19, zu_20, zu_21, zu_22, zu_23, zu_24, zu_25, zu_26, zu_27, zu_28, zu_29, zu_30, zu_90, zv_0_9, zv_1_9, zv_2_9, zv_3_9, zv_4_9, zv_5_9, zv_6_9, zv_7_9, zv_8_9, zv_0_330, zv_0_4544, zv_1_4544, zv_2_4544, zv_3_4544, zv_4_4544, zv_5_4544, zv_6_4544, zv_7_4544, zv_8_4544, zv_9_4544, zv_10_4544, zv_11_4544, zv_12_4544, zv_13_4544, zv_14_4544, zv_15_4544, zv_16_4544, zv_17_4544, zv_18_4544, zv_19_4544, zv_20_4544, zv_21_4544, zv_22_4544, zv_23_4544, zv_24_4544, zv_25_4544, zv_26_4544, zv_27_4544, zv_28_4544, zv_29_4544, zv_0_11, zv_1_11, zv_0_160, true_and, and_true, Nat.reduceAdd]
      refine ⟨fun _ => ?_, fun h => absurd (by decide) h⟩
      refine h28 _ _ _ ?_
      simp only [bX12_openAt_28, zw_0, zw_1, zs_iloadn1, zs_ireturn, zn_int, zn_b0, zn_b1, zb_0, za_1, za_2, za_3, za_4, za_5, za_6, za_7, za_8, za_9, za_10, za_11, za_12, za_13, za_14, true_and, and_true, Nat.reduceAdd]
      rw [← e]
      rfl
    | cons c us ih =>
      intro hl2 hf2 e
      have hl3 : us.length + 1 ≤ 160 := hl2
      obtain ⟨f1, f2, f3⟩ := hf2
      have v1 : vp_in (nI us.length) 160 := vp_in_nI (by omega) (by decide)
      have v2 : (nI us.length).toNatClampNeg = us.length := nI_clamp (by omega)
      have e40 : ((40 : Int32) ≤ nI c) = (40 ≤ c) := propext (nI_leI (a := 40) (by decide) (by omega))
      rw [show (c :: us).length = us.length + 1 from rfl, zh_mi (by omega)]
      simp only [zh_op] at e
      refine h7 _ _ _ ?_
      simp only [bX12_openAt_7, zw_0, zw_1, zs_iloadn1, zs_iflt, zs_aloadn0, zs_aloadNn0, zg_12_29, zs_iaload, zs_bipush, zs_icge, zs_iinc1, zs_goto, zc_none, zc_int, zc_ref, zc_null, zc_long, zb_0, za_1, za_2, za_3, za_4, za_5, za_6, za_7, za_8, za_9, za_10, za_11, za_12, za_13, za_14, zu_0, zu_1, zu_2, zu_3, zu_4, zu_5, zu_6, zu_7, zu_8, zu_9, zu_10, zu_11, zu_12, zu_13, zu_14, zu_15, zu_16, zu_17, zu_18, zu_19, zu_20, zu_21, zu_22, zu_23, zu_24, zu_25, zu_26, zu_27, zu_28, zu_29, zu_30, zu_90, zv_0_9, zv_1_9, zv_2_9, zv_3_9, zv_4_9, zv_5_9, zv_6_9, zv_7_9, zv_8_9, zv_0_330, zv_0_4544, zv_1_4544, zv_2_4544, zv_3_4544, zv_4_4544, zv_5_4544, zv_6_4544, zv_7_4544, zv_8_4544, zv_9_4544, zv_10_4544, zv_11_4544, zv_12_4544, zv_13_4544, zv_14_4544, zv_15_4544, zv_16_4544, zv_17_4544, zv_18_4544, zv_19_4544, zv_20_4544, zv_21_4544, zv_22_4544, zv_23_4544, zv_24_4544, zv_25_4544, zv_26_4544, zv_27_4544, zv_28_4544, zv_29_4544, zv_0_11, zv_1_11, zv_0_160, true_and, and_true, Nat.reduceAdd, v1, v2, f1, e40]
      refine ⟨fun h => absurd h (nI_pos (by omega)), fun _ => ⟨fun h => ?_, fun h => ?_⟩⟩
      · rw [if_pos h] at e
        refine h28 _ _ _ ?_
        simp only [bX12_openAt_28, zw_0, zw_1, zs_iloadn1, zs_ireturn, zn_int, zn_b0, zn_b1, zb_0, za_1, za_2, za_3, za_4, za_5, za_6, za_7, za_8, za_9, za_10, za_11, za_12, za_13, za_14, true_and, and_true, Nat.reduceAdd]
        rw [e]
      · rw [if_neg h] at e
        exact ih (by omega) f3 e
  refine h0 _ _ _ ?_
  simp only [bX12_openAt_0, zw_0, zw_1, zs_aloadn0, zs_aloadNn0, zg_12_145, zs_iconst, zs_isub, zs_istoren1, zc_none, zc_int, zc_ref, zc_null, zc_long, zb_0, za_1, za_2, za_3, za_4, za_5, za_6, za_7, za_8, za_9, za_10, za_11, za_12, za_13, za_14, true_and, and_true, Nat.reduceAdd, h16]
  have := loop ws hl hf rfl
  rw [show nI ws.length + (-1 : Int32) = nI ws.length - 1 from by rw [Int32.sub_eq_add_neg]] at this
  exact this
