/-! ===== foretold, pardoned: the reference ===== -/
/-- what these may change -/
def zmh (M M' : zm_M) : Prop := zf [0, 1, 6, 7, 8, 9] M M' ∧ (∀ j, ¬ zh_in j → M'.1 1 j = M.1 1 j) ∧ (∀ j, j ≠ 24 → j ≠ 25 → M'.1 0 j = M.1 0 j)
theorem zMs_h {n tn s : Nat} {b pr : Nat → Int32} {T : Nat → Option zD} {S : zW} {H : Nat → zW} {M M' : zm_M} (hA : ∀ i, i < s → zw_i n b (H i)) (h : zMs n tn b pr T S s H M) (hr : zmh M M') (hS : zw_m M' S) : zMs n tn b pr T S s H M' := by
  obtain ⟨⟨a1, a2, a3, a4, a5⟩, b2, b3, b4, ⟨k1, k2, k3⟩, b6⟩ := h
  have hn := a1.1
  have e9 : ∀ i, i < n → M'.1 1 (90 + i) = M.1 1 (90 + i) := fun i hi => hr.2.1 _ (by unfold zh_in; omega)
  refine ⟨⟨zt_wf_c a1 (fun i hi => (e9 i hi).symm), by rw [hr.2.1 0 (by unfold zh_in; omega)]; exact a2, fun i hi => (e9 i hi).trans (a3 i hi), fun i hi => by rw [hr.2.1 _ (by unfold zh_in; omega)]; exact a4 i hi, a5⟩, by rw [hr.2.1 1 (by unfold zh_in; omega)]; exact b2, fun w hw => by rw [hr.2.1 2 (by unfold zh_in; omega)]; exact zm_T_c (b3 w hw) (hr.1 3 (by decide)).1, hS, ⟨by rw [hr.2.1 3 (by unfold zh_in; omega)]; exact k1, k2, fun i hi => zw_r_c (hA i hi).1 (k3 i hi) (fun k hk => hr.2.1 _ (by unfold zh_in; omega)) (fun k hk => hr.2.1 _ (by unfold zh_in; omega))⟩, by rw [hr.2.2 23 (by decide) (by decide)]; exact b6⟩
theorem c_setAside {E : zm_E} (hE : zm_ok E.2.2.1 E.2.2.2.2) (d : Nat) {M : zm_M} {Q : Option Value → zm_M → Prop} (q : ∀ M', (∀ j, 6 ≤ j → j < 90 → M'.1 9 j = M.1 1 j) → M'.1 0 23 = 0 → (∀ j, j ≠ 23 → M'.1 0 j = M.1 0 j) → zf [0, 9] M M' → Q none M') : zm_R E (d + 1) mX12_setAside [.ref 0] M Q := by
  refine zX12_setAside hE rfl (fun G h0 h3 h27 => ?_)
  show G 0 [some (.ref 0), none] [] M
  have loop : ∀ (f i : Nat) (M1 : zm_M), i + f = 90 → 6 ≤ i → (∀ j, 6 ≤ j → j < i → M1.1 9 j = M.1 1 j) → zf [9] M M1 → G 3 [some (.ref 0), some (.int (nI i))] [] M1 := by
    intro f
    induction f with
    | zero =>
      intro i M1 hi h6 e f1
      obtain rfl : i = 90 := by omega
      refine h3 _ _ _ ?_
      simp only [bX12_setAside_3, zw_0, zw_1, zs_iloadn1, zs_bipush, zs_icge, zs_aloadn0, zs_aloadNn0, zg_12_47, zg_12_7, zs_iaload, zs_iastore, zs_iinc1, zs_goto, zc_none, zc_int, zc_ref, zc_null, zc_long, zb_0, za_1, za_2, za_3, za_4, za_5, za_6, za_7, za_8, za_9, za_10, za_11, za_12, za_13, za_14, zu_0, zu_1, zu_2, zu_3, zu_4, zu_5, zu_6, zu_7, zu_8, zu_9, zu_10, zu_11, zu_12, zu_13, zu_14, zu_15, zu_16, zu_17, zu_18, zu_19, zu_20, zu_21, zu_22, zu_23, zu_24, zu_25, zu_26, zu_27, zu_28, zu_29, zu_30, zu_90, zv_0_9, zv_1_9, zv_2_9, zv_3_9, zv_4_9, zv_5_9, zv_6_9, zv_7_9, zv_8_9, zv_0_330, zv_0_4544, zv_1_4544, zv_2_4544, zv_3_4544, zv_4_4544, zv_5_4544, zv_6_4544, zv_7_4544, zv_8_4544, zv_9_4544, zv_10_4544, zv_11_4544, zv_12_4544, zv_13_4544, zv_14_4544, zv_15_4544, zv_16_4544, zv_17_4544, zv_18_4544, zv_19_4544, zv_20_4544, zv_21_4544, zv_22_4544, zv_23_4544, zv_24_4544, zv_25_4544, zv_26_4544, zv_27_4544, zv_28_4544, zv_29_4544, zv_0_11, zv_1_11, zv_0_160, true_and, and_true, Nat.reduceAdd]
      refine ⟨fun _ => ?_, fun h => absurd (by decide) h⟩
      refine h27 _ _ _ ?_
      simp only [bX12_setAside_27, zw_0, zw_1, zs_aloadn0, zs_aloadNn0, zs_iconst, zq_12_43, zs_return, zn_int, zn_b0, zn_b1, zb_0, za_1, za_2, za_3, za_4, za_5, za_6, za_7, za_8, za_9, za_10, za_11, za_12, za_13, za_14, true_and, and_true, Nat.reduceAdd]
      refine ⟨Or.inl trivial, ?_⟩
      refine q _ (fun j a b => by rw [zm_wi_other (by decide)]; exact e j a b) (by rw [zm_wi_same, if_pos rfl]) (fun j hj => by rw [zm_wi_same, if_neg hj, (f1 0 (by decide)).1]) (zf_wi (zf_sub f1 (by simp)) (by decide))
    | succ f ih =>
      intro i M1 hi h6 e f1
      have v1 : vp_in (nI i) 90 := vp_in_nI (by omega) (by decide)
      have v2 : (nI i).toNatClampNeg = i := nI_clamp (by omega)
      have v3 : vp_in (nI i) 4544 := vp_in_nI (by omega) (by decide)
      have m1 : M1.1 1 i = M.1 1 i := by rw [(f1 1 (by decide)).1]
      refine h3 _ _ _ ?_
      simp only [bX12_setAside_3, zw_0, zw_1, zs_iloadn1, zs_bipush, zs_icge, zs_aloadn0, zs_aloadNn0, zg_12_47, zg_12_7, zs_iaload, zs_iastore, zs_iinc1, zs_goto, zc_none, zc_int, zc_ref, zc_null, zc_long, zb_0, za_1, za_2, za_3, za_4, za_5, za_6, za_7, za_8, za_9, za_10, za_11, za_12, za_13, za_14, zu_0, zu_1, zu_2, zu_3, zu_4, zu_5, zu_6, zu_7, zu_8, zu_9, zu_10, zu_11, zu_12, zu_13, zu_14, zu_15, zu_16, zu_17, zu_18, zu_19, zu_20, zu_21, zu_22, zu_23, zu_24, zu_25, zu_26, zu_27, zu_28, zu_29, zu_30, zu_90, zv_0_9, zv_1_9, zv_2_9, zv_3_9, zv_4_9, zv_5_9, zv_6_9, zv_7_9, zv_8_9, zv_0_330, zv_0_4544, zv_1_4544, zv_2_4544, zv_3_4544, zv_4_4544, zv_5_4544, zv_6_4544, zv_7_4544, zv_8_4544, zv_9_4544, zv_10_4544, zv_11_4544, zv_12_4544, zv_13_4544, zv_14_4544, zv_15_4544, zv_16_4544, zv_17_4544, zv_18_4544, zv_19_4544, zv_20_4544, zv_21_4544, zv_22_4544, zv_23_4544, zv_24_4544, zv_25_4544, zv_26_4544, zv_27_4544, zv_28_4544, zv_29_4544, zv_0_11, zv_1_11, zv_0_160, true_and, and_true, Nat.reduceAdd, v1, v2, v3, m1, nI_1]
      refine ⟨fun h => absurd h (nI_ge (b := 90) (by omega) (by decide)), fun _ => ?_⟩
      refine ih (i + 1) _ (by omega) (by omega) (fun j a b => ?_) (zf_wi f1 (by decide))
      rw [zm_wi_same]
      by_cases c : j = i
      · rw [if_pos c, c]
      · rw [if_neg c]; exact e j a (by omega)
  refine h0 _ _ _ ?_
  simp only [bX12_setAside_0, zw_0, zw_1, zs_bipush, zs_istoren1, zc_none, zc_int, zc_ref, zc_null, zc_long, zb_0, za_1, za_2, za_3, za_4, za_5, za_6, za_7, za_8, za_9, za_10, za_11, za_12, za_13, za_14, true_and, and_true, Nat.reduceAdd]
  exact loop 84 6 M (by omega) (by omega) (fun j a b => by omega) zf_refl
theorem c_putBack {E : zm_E} (hE : zm_ok E.2.2.1 E.2.2.2.2) (d : Nat) {M : zm_M} {Q : Option Value → zm_M → Prop} (q : ∀ M', (∀ j, 6 ≤ j → j < 90 → M'.1 1 j = M.1 9 j) → (∀ j, (j < 6 ∨ 90 ≤ j) → M'.1 1 j = M.1 1 j) → M'.1 0 23 = 1 → (∀ j, j ≠ 23 → M'.1 0 j = M.1 0 j) → zf [0, 1] M M' → Q none M') : zm_R E (d + 1) mX12_putBack [.ref 0] M Q := by
  refine zX12_putBack hE rfl (fun G h0 h3 h27 => ?_)
  show G 0 [some (.ref 0), none] [] M
  have loop : ∀ (f i : Nat) (M1 : zm_M), i + f = 90 → 6 ≤ i → (∀ j, 6 ≤ j → j < i → M1.1 1 j = M.1 9 j) → (∀ j, (j < 6 ∨ 90 ≤ j) → M1.1 1 j = M.1 1 j) → zf [1] M M1 → G 3 [some (.ref 0), some (.int (nI i))] [] M1 := by
    intro f
    induction f with
    | zero =>
      intro i M1 hi h6 e e2 f1
      obtain rfl : i = 90 := by omega
      refine h3 _ _ _ ?_
      simp only [bX12_putBack_3, zw_0, zw_1, zs_iloadn1, zs_bipush, zs_icge, zs_aloadn0, zs_aloadNn0, zg_12_7, zg_12_47, zs_iaload, zs_iastore, zs_iinc1, zs_goto, zc_none, zc_int, zc_ref, zc_null, zc_long, zb_0, za_1, za_2, za_3, za_4, za_5, za_6, za_7, za_8, za_9, za_10, za_11, za_12, za_13, za_14, zu_0, zu_1, zu_2, zu_3, zu_4, zu_5, zu_6, zu_7, zu_8, zu_9, zu_10, zu_11, zu_12, zu_13, zu_14, zu_15, zu_16, zu_17, zu_18, zu_19, zu_20, zu_21, zu_22, zu_23, zu_24, zu_25, zu_26, zu_27, zu_28, zu_29, zu_30, zu_90, zv_0_9, zv_1_9, zv_2_9, zv_3_9, zv_4_9, zv_5_9, zv_6_9, zv_7_9, zv_8_9, zv_0_330, zv_0_4544, zv_1_4544, zv_2_4544, zv_3_4544, zv_4_4544, zv_5_4544, zv_6_4544, zv_7_4544, zv_8_4544, zv_9_4544, zv_10_4544, zv_11_4544, zv_12_4544, zv_13_4544, zv_14_4544, zv_15_4544, zv_16_4544, zv_17_4544, zv_18_4544, zv_19_4544, zv_20_4544, zv_21_4544, zv_22_4544, zv_23_4544, zv_24_4544, zv_25_4544, zv_26_4544, zv_27_4544, zv_28_4544, zv_29_4544, zv_0_11, zv_1_11, zv_0_160, true_and, and_true, Nat.reduceAdd]
      refine ⟨fun _ => ?_, fun h => absurd (by decide) h⟩
      refine h27 _ _ _ ?_
      simp only [bX12_putBack_27, zw_0, zw_1, zs_aloadn0, zs_aloadNn0, zs_iconst, zq_12_43, zs_return, zn_int, zn_b0, zn_b1, zb_0, za_1, za_2, za_3, za_4, za_5, za_6, za_7, za_8, za_9, za_10, za_11, za_12, za_13, za_14, true_and, and_true, Nat.reduceAdd]
      refine ⟨Or.inr trivial, ?_⟩
      refine q _ (fun j a b => by rw [zm_wi_other (by decide)]; exact e j a b) (fun j hj => by rw [zm_wi_other (by decide)]; exact e2 j hj) (by rw [zm_wi_same, if_pos rfl]) (fun j hj => by rw [zm_wi_same, if_neg hj, (f1 0 (by decide)).1]) (zf_wi (zf_sub f1 (by simp)) (by decide))
    | succ f ih =>
      intro i M1 hi h6 e e2 f1
      have v1 : vp_in (nI i) 90 := vp_in_nI (by omega) (by decide)
      have v2 : (nI i).toNatClampNeg = i := nI_clamp (by omega)
      have v3 : vp_in (nI i) 4544 := vp_in_nI (by omega) (by decide)
      have m9 : M1.1 9 i = M.1 9 i := by rw [(f1 9 (by decide)).1]
      refine h3 _ _ _ ?_
      simp only [bX12_putBack_3, zw_0, zw_1, zs_iloadn1, zs_bipush, zs_icge, zs_aloadn0, zs_aloadNn0, zg_12_7, zg_12_47, zs_iaload, zs_iastore, zs_iinc1, zs_goto, zc_none, zc_int, zc_ref, zc_null, zc_long, zb_0, za_1, za_2, za_3, za_4, za_5, za_6, za_7, za_8, za_9, za_10, za_11, za_12, za_13, za_14, zu_0, zu_1, zu_2, zu_3, zu_4, zu_5, zu_6, zu_7, zu_8, zu_9, zu_10, zu_11, zu_12, zu_13, zu_14, zu_15, zu_16, zu_17, zu_18, zu_19, zu_20, zu_21, zu_22, zu_23, zu_24, zu_25, zu_26, zu_27, zu_28, zu_29, zu_30, zu_90, zv_0_9, zv_1_9, zv_2_9, zv_3_9, zv_4_9, zv_5_9, zv_6_9, zv_7_9, zv_8_9, zv_0_330, zv_0_4544, zv_1_4544, zv_2_4544, zv_3_4544, zv_4_4544, zv_5_4544, zv_6_4544, zv_7_4544, zv_8_4544, zv_9_4544, zv_10_4544, zv_11_4544, zv_12_4544, zv_13_4544, zv_14_4544, zv_15_4544, zv_16_4544, zv_17_4544, zv_18_4544, zv_19_4544, zv_20_4544, zv_21_4544, zv_22_4544, zv_23_4544, zv_24_4544, zv_25_4544, zv_26_4544, zv_27_4544, zv_28_4544, zv_29_4544, zv_0_11, zv_1_11, zv_0_160, true_and, and_true, Nat.reduceAdd, v1, v2, v3, m9, nI_1]
      refine ⟨fun h => absurd h (nI_ge (b := 90) (by omega) (by decide)), fun _ => ?_⟩
      refine ih (i + 1) _ (by omega) (by omega) (fun j a b => ?_) (fun j hj => by rw [zm_wi_same, if_neg (by omega)]; exact e2 j hj) (zf_wi f1 (by decide))
      rw [zm_wi_same]
      by_cases c : j = i
      · rw [if_pos c, c]
      · rw [if_neg c]; exact e j a (by omega)
  refine h0 _ _ _ ?_
  simp only [bX12_putBack_0, zw_0, zw_1, zs_bipush, zs_istoren1, zc_none, zc_int, zc_ref, zc_null, zc_long, zb_0, za_1, za_2, za_3, za_4, za_5, za_6, za_7, za_8, za_9, za_10, za_11, za_12, za_13, za_14, true_and, and_true, Nat.reduceAdd]
  exact loop 84 6 M (by omega) (by omega) (fun j a b => by omega) (fun _ _ => rfl) zf_refl
/-- set aside, days, put back: the row is as it was -/
theorem zmh_back {M M1 M2 M3 : zm_M} {S S2 : zW} (hs : zw_sz S) (hS : zw_m M S) (a1 : ∀ j, 6 ≤ j → j < 90 → M1.1 9 j = M.1 1 j) (a3 : ∀ j, j ≠ 23 → M1.1 0 j = M.1 0 j) (a4 : zf [0, 9] M M1) (hR : zR M1 M2) (hS2 : zw_m M2 S2) (hb : zq_b S S2) (b1 : ∀ j, 6 ≤ j → j < 90 → M3.1 1 j = M2.1 9 j) (b2 : ∀ j, (j < 6 ∨ 90 ≤ j) → M3.1 1 j = M2.1 1 j) (b3 : M3.1 0 23 = 1) (h23 : M.1 0 23 = 1) (b4 : ∀ j, j ≠ 23 → M3.1 0 j = M2.1 0 j) (b5 : zf [0, 1] M2 M3) : zmh M M3 ∧ zw_m M3 S := by
  have e9 : M2.1 9 = M1.1 9 := (hR.1 9 (by decide)).1
  have e1 : M1.1 1 = M.1 1 := (a4 1 (by decide)).1
  have row : ∀ j, 6 ≤ j → j < 90 → M3.1 1 j = M.1 1 j := fun j h1 h2 => by rw [b1 j h1 h2, e9, a1 j h1 h2]
  refine ⟨⟨?_, fun j hj => ?_, fun j h1 h2 => ?_⟩, ?_⟩
  · exact zf_trans (zf_sub a4 (by simp)) (zf_trans (zf_sub hR.1 (by simp)) (zf_sub b5 (by simp)))
  · by_cases c : j < 6 ∨ 90 ≤ j
    · rw [b2 j c, hR.2.1 j hj, e1]
    · exact row j (by omega) (by omega)
  · by_cases c : j = 23
    · rw [c, b3, h23]
    · rw [b4 j c, hR.2.2 j h1 h2, a3 j c]
  · obtain ⟨h1, h2, h3, h4, h5, h6, h7⟩ := hS
    obtain ⟨w1, w2, w3, w4, w5, w6, w7⟩ := hS2
    have hn := hs.1
    refine ⟨(row _ (by omega) (by omega)).trans h1, (row _ (by omega) (by omega)).trans h2, (row _ (by omega) (by omega)).trans h3, (row _ (by omega) (by omega)).trans h4, fun p hp => (row _ (by omega) (by omega)).trans (h5 p hp), fun x k hx hk => (row _ (by omega) (by omega)).trans (h6 x k hx hk), fun i hi => ?_⟩
    have := w7 i (by rw [hb.1]; exact hi)
    rw [hb.2] at this
    exact ⟨(b2 _ (by omega)).trans this.1, (b2 _ (by omega)).trans this.2⟩
theorem zq_b_it (n : Nat) (b pr : Nat → Int32) (T : Nat → Option zD) : ∀ (f : Nat) (S : zW), zq_b S (ze_it false n b pr T f S) := by
  intro f
  induction f with
  | zero => intro S; exact ⟨rfl, rfl⟩
  | succ f ih =>
    intro S
    simp only [ze_it]
    split
    · exact ⟨rfl, rfl⟩
    · exact zq_b_t (zq_b_ps n b pr T S) (ih _)
theorem ze_it_9 (wr : Bool) (n : Nat) (b pr : Nat → Int32) (T : Nat → Option zD) (f : Nat) {S : zW} (h : zWd S = 9999) : ze_it wr n b pr T f S = S := by
  cases f with
  | zero => rfl
  | succ f => simp only [ze_it]; rw [if_pos h]
theorem c_foretold {E : zm_E} (hE : zm_ok E.2.2.1 E.2.2.2.2) (d : Nat) {n tn s : Nat} (v a w : Int32) {b pr : Nat → Int32} {T : Nat → Option zD} {S : zW} {H : Nat → zW} {M : zm_M} (hA : zAl n b T S s H) (hC : zMs n tn b pr T S s H M) {Q : Option Value → zm_M → Prop} (q1 : (zi_in v 1 60 = 0 ∨ zo_is (zWn S) a = false ∨ zi_in w 0 2 = 0) → Q (some (.int (-1))) M) (q2 : ∀ f k M', 1 ≤ f → f ≤ 60 → k < zWn S → v = nI f → a = nI k → ¬ zi_in w 0 2 = 0 → zmh M M' → zw_m M' S → Q (some (.int (zq_fo (ze_it true n b pr T f S) k w))) M') : zm_R E (d + 8) mX12_foretold [.ref 0, .int v, .int a, .int w] M Q := by
  refine zX12_foretold hE rfl (fun G h0 h27 h29 h36 h59 h65 => ?_)
  show G 0 [some (.ref 0), some (.int v), some (.int a), some (.int w), none] [] M
  have bad : (zi_in v 1 60 = 0 ∨ zo_is (zWn S) a = false ∨ zi_in w 0 2 = 0) → G 27 [some (.ref 0), some (.int v), some (.int a), some (.int w), none] [] M := by
    intro h
    refine h27 _ _ _ ?_
    simp only [bX12_foretold_27, zw_0, zw_1, zs_iconst, zs_ireturn, zn_int, zn_b0, zn_b1, zb_0, za_1, za_2, za_3, za_4, za_5, za_6, za_7, za_8, za_9, za_10, za_11, za_12, za_13, za_14, true_and, and_true, Nat.reduceAdd]
    exact q1 h
  have hm10 := hA.2.2.1.1.1
  have m8 : M.1 1 8 = nI (zWn S) := hC.2.2.2.1.2.2.1
  refine h0 _ _ _ ?_
  simp only [bX12_foretold_0, zw_0, zw_1, zs_iloadn1, zs_iconst, zs_bipush, zi_12_69, zs_ifeq, zs_aloadn0, zs_aloadNn0, zs_iloadn2, zi_12_362, zs_iloadn3, zs_ifne, zh_0, zh_1, zh_2, zh_3, zh_4, zt_i, zt_l, zt_r, zt_n, zb_0, za_1, za_2, za_3, za_4, za_5, za_6, za_7, za_8, za_9, za_10, za_11, za_12, za_13, za_14, true_and, and_true, Nat.reduceAdd]
  refine zm_R_eq (c_isIn hE (d + 6) v 1 60 M) ?_
  simp only [bX12_foretold_0, zw_0, zw_1, zs_iloadn1, zs_iconst, zs_bipush, zi_12_69, zs_ifeq, zs_aloadn0, zs_aloadNn0, zs_iloadn2, zi_12_362, zs_iloadn3, zs_ifne, zh_0, zh_1, zh_2, zh_3, zh_4, zt_i, zt_l, zt_r, zt_n, zb_0, za_1, za_2, za_3, za_4, za_5, za_6, za_7, za_8, za_9, za_10, za_11, za_12, za_13, za_14, true_and, and_true, Nat.reduceAdd]
  refine ⟨fun h => bad (Or.inl h), fun hv => ?_⟩
  refine zm_R_eq (c_isApology hE (d + 5) a M) ?_
  rw [m8, zo_in (by omega)]
  simp only [bX12_foretold_0, zw_0, zw_1, zs_iloadn1, zs_iconst, zs_bipush, zi_12_69, zs_ifeq, zs_aloadn0, zs_aloadNn0, zs_iloadn2, zi_12_362, zs_iloadn3, zs_ifne, zh_0, zh_1, zh_2, zh_3, zh_4, zt_i, zt_l, zt_r, zt_n, zb_0, za_1, za_2, za_3, za_4, za_5, za_6, za_7, za_8, za_9, za_10, za_11, za_12, za_13, za_14, true_and, and_true, Nat.reduceAdd, zi_b0]
  refine ⟨fun h => bad (Or.inr (Or.inl h)), fun ha => ?_⟩
  refine zm_R_eq (c_isIn hE (d + 6) w 0 2 M) ?_
  simp only [bX12_foretold_0, zw_0, zw_1, zs_iloadn1, zs_iconst, zs_bipush, zi_12_69, zs_ifeq, zs_aloadn0, zs_aloadNn0, zs_iloadn2, zi_12_362, zs_iloadn3, zs_ifne, zh_0, zh_1, zh_2, zh_3, zh_4, zt_i, zt_l, zt_r, zt_n, zb_0, za_1, za_2, za_3, za_4, za_5, za_6, za_7, za_8, za_9, za_10, za_11, za_12, za_13, za_14, true_and, and_true, Nat.reduceAdd]
  refine ⟨fun hw => ?_, fun h => bad (Or.inr (Or.inr h))⟩
  have ha : zo_is (zWn S) a = true := by simpa using ha
  obtain ⟨f, hf1, hf2, rfl⟩ : ∃ f, 1 ≤ f ∧ f ≤ 60 ∧ v = nI f := zi_1of (by decide) hv
  obtain ⟨k, hk, rfl⟩ := zo_of ha (by omega)
  have q2 := fun M' => q2 f k M' hf1 hf2 hk rfl rfl hw
  obtain ⟨x, -, hx, rfl⟩ : ∃ x, 0 ≤ x ∧ x ≤ 2 ∧ w = nI x := zi_1of (by decide) hw
  refine h29 _ _ _ ?_
  simp only [bX12_foretold_29, zw_0, zw_1, zs_aloadn0, zs_aloadNn0, zi_12_405, zs_iconst, zs_istore4, zc_none, zc_int, zc_ref, zc_null, zc_long, zh_0, zh_1, zh_2, zh_3, zh_4, zt_i, zt_l, zt_r, zt_n, zb_0, za_1, za_2, za_3, za_4, za_5, za_6, za_7, za_8, za_9, za_10, za_11, za_12, za_13, za_14, true_and, and_true, Nat.reduceAdd]
  refine c_setAside hE (d + 6) (fun M1 a1 a2 a3 a4 => ?_)
  simp only [bX12_foretold_29, zw_0, zw_1, zs_aloadn0, zs_aloadNn0, zi_12_405, zs_iconst, zs_istore4, zc_none, zc_int, zc_ref, zc_null, zc_long, zh_0, zh_1, zh_2, zh_3, zh_4, zt_i, zt_l, zt_r, zt_n, zb_0, za_1, za_2, za_3, za_4, za_5, za_6, za_7, za_8, za_9, za_10, za_11, za_12, za_13, za_14, true_and, and_true, Nat.reduceAdd]
  have e1 : M1.1 1 = M.1 1 := (a4 1 (by decide)).1
  have h91 : zm_s9 n b pr M1 := by
    obtain ⟨x1, x2, x3, x4, x5⟩ := hC.1
    unfold zm_s9
    rw [e1]; exact ⟨x1, x2, x3, x4, x5⟩
  generalize hSF : ze_it false n b pr T f S = SF
  have loop : ∀ (g i : Nat) (S1 : zW) (M2 : zm_M), i + g = f → zw_i n b S1 → zWn S1 = zWn S → zw_m M2 S1 → zR M1 M2 → ze_it false n b pr T g S1 = SF → G 36 [some (.ref 0), some (.int (nI f)), some (.int (nI k)), some (.int (nI x)), some (.int (nI i))] [] M2 := by
    intro g
    induction g with
    | zero =>
      intro i S1 M2 hi hi1 hn1 hS1 R2 e
      have e : S1 = SF := e
      refine h36 _ _ _ ?_
      simp only [bX12_foretold_36, zw_0, zw_1, zs_iload4, zs_iloadn1, zs_icge, zs_aloadn0, zs_aloadNn0, zg_12_7, zs_bipush, zs_iaload, zs_sipush, zi_12_368, zh_0, zh_1, zh_2, zh_3, zh_4, zt_i, zt_l, zt_r, zt_n, zb_0, za_1, za_2, za_3, za_4, za_5, za_6, za_7, za_8, za_9, za_10, za_11, za_12, za_13, za_14, zu_0, zu_1, zu_2, zu_3, zu_4, zu_5, zu_6, zu_7, zu_8, zu_9, zu_10, zu_11, zu_12, zu_13, zu_14, zu_15, zu_16, zu_17, zu_18, zu_19, zu_20, zu_21, zu_22, zu_23, zu_24, zu_25, zu_26, zu_27, zu_28, zu_29, zu_30, zu_90, zv_0_9, zv_1_9, zv_2_9, zv_3_9, zv_4_9, zv_5_9, zv_6_9, zv_7_9, zv_8_9, zv_0_330, zv_0_4544, zv_1_4544, zv_2_4544, zv_3_4544, zv_4_4544, zv_5_4544, zv_6_4544, zv_7_4544, zv_8_4544, zv_9_4544, zv_10_4544, zv_11_4544, zv_12_4544, zv_13_4544, zv_14_4544, zv_15_4544, zv_16_4544, zv_17_4544, zv_18_4544, zv_19_4544, zv_20_4544, zv_21_4544, zv_22_4544, zv_23_4544, zv_24_4544, zv_25_4544, zv_26_4544, zv_27_4544, zv_28_4544, zv_29_4544, zv_0_11, zv_1_11, zv_0_160, true_and, and_true, Nat.reduceAdd]
      refine ⟨fun _ => ?_, fun h => absurd (nI_le (by omega) (by omega)) h⟩
      refine h65 _ _ _ ?_
      have e2x : (2 : Int32) + nI x = nI (2 + x) := nI_add 2 x
      simp only [bX12_foretold_65, zw_0, zw_1, zs_aloadn0, zs_aloadNn0, zs_iloadn2, zs_iconst, zs_iloadn3, zs_iadd, zi_12_304, zs_istore4, zi_12_408, zs_iload4, zs_ireturn, zc_none, zc_int, zc_ref, zc_null, zc_long, zh_0, zh_1, zh_2, zh_3, zh_4, zt_i, zt_l, zt_r, zt_n, zn_int, zn_b0, zn_b1, zb_0, za_1, za_2, za_3, za_4, za_5, za_6, za_7, za_8, za_9, za_10, za_11, za_12, za_13, za_14, true_and, and_true, Nat.reduceAdd, e2x]
      refine zm_R_eq (c_gt hE (d + 6) (k := k) (by omega) (2 + x) (by omega) M2) ?_
      rw [zw_m_ap hS1 (by omega) (by omega)]
      simp only [bX12_foretold_65, zw_0, zw_1, zs_aloadn0, zs_aloadNn0, zs_iloadn2, zs_iconst, zs_iloadn3, zs_iadd, zi_12_304, zs_istore4, zi_12_408, zs_iload4, zs_ireturn, zc_none, zc_int, zc_ref, zc_null, zc_long, zh_0, zh_1, zh_2, zh_3, zh_4, zt_i, zt_l, zt_r, zt_n, zn_int, zn_b0, zn_b1, zb_0, za_1, za_2, za_3, za_4, za_5, za_6, za_7, za_8, za_9, za_10, za_11, za_12, za_13, za_14, true_and, and_true, Nat.reduceAdd]
      refine c_putBack hE (d + 6) (fun M3 b1 b2 b3 b4 b5 => ?_)
      simp only [bX12_foretold_65, zw_0, zw_1, zs_aloadn0, zs_aloadNn0, zs_iloadn2, zs_iconst, zs_iloadn3, zs_iadd, zi_12_304, zs_istore4, zi_12_408, zs_iload4, zs_ireturn, zc_none, zc_int, zc_ref, zc_null, zc_long, zh_0, zh_1, zh_2, zh_3, zh_4, zt_i, zt_l, zt_r, zt_n, zn_int, zn_b0, zn_b1, zb_0, za_1, za_2, za_3, za_4, za_5, za_6, za_7, za_8, za_9, za_10, za_11, za_12, za_13, za_14, true_and, and_true, Nat.reduceAdd]
      obtain ⟨z1, z2⟩ := zmh_back hA.2.2.1.1 hC.2.2.2.1 a1 a3 a4 R2 hS1 (by rw [e, ← hSF]; exact zq_b_it n b pr T f S) b1 b2 b3 hC.2.2.2.2.2 b4 b5
      have := q2 M3 z1 z2
      have eq := zq_it true false n b pr T f S S (zq_e_refl S)
      rw [hSF] at eq
      rw [show zq_fo (ze_it true n b pr T f S) k (nI x) = zWa S1 (2 + x) k by
        unfold zq_fo
        rw [e, eq.2.2.2.1]
        rcases (show x = 0 ∨ x = 1 ∨ x = 2 by omega) with rfl | rfl | rfl
        · rw [if_pos (by decide)]
        · rw [if_neg (by decide), if_pos (by decide)]
        · rw [if_neg (by decide), if_neg (by decide), if_pos (by decide)]] at this
      exact this
    | succ g ih =>
      intro i S1 M2 hi hi1 hn1 hS1 R2 e
      obtain ⟨dd, d1, d2, d3⟩ := zw_d9 hi1
      have m6 : M2.1 1 6 = nI dd := by rw [← d2]; exact hS1.1
      have c9 : ((9999 : Int32) ≤ nI dd) = (9999 ≤ dd) := propext (nI_leI (a := 9999) (by decide) (by omega))
      refine h36 _ _ _ ?_
      simp only [bX12_foretold_36, zw_0, zw_1, zs_iload4, zs_iloadn1, zs_icge, zs_aloadn0, zs_aloadNn0, zg_12_7, zs_bipush, zs_iaload, zs_sipush, zi_12_368, zh_0, zh_1, zh_2, zh_3, zh_4, zt_i, zt_l, zt_r, zt_n, zb_0, za_1, za_2, za_3, za_4, za_5, za_6, za_7, za_8, za_9, za_10, za_11, za_12, za_13, za_14, zu_0, zu_1, zu_2, zu_3, zu_4, zu_5, zu_6, zu_7, zu_8, zu_9, zu_10, zu_11, zu_12, zu_13, zu_14, zu_15, zu_16, zu_17, zu_18, zu_19, zu_20, zu_21, zu_22, zu_23, zu_24, zu_25, zu_26, zu_27, zu_28, zu_29, zu_30, zu_90, zv_0_9, zv_1_9, zv_2_9, zv_3_9, zv_4_9, zv_5_9, zv_6_9, zv_7_9, zv_8_9, zv_0_330, zv_0_4544, zv_1_4544, zv_2_4544, zv_3_4544, zv_4_4544, zv_5_4544, zv_6_4544, zv_7_4544, zv_8_4544, zv_9_4544, zv_10_4544, zv_11_4544, zv_12_4544, zv_13_4544, zv_14_4544, zv_15_4544, zv_16_4544, zv_17_4544, zv_18_4544, zv_19_4544, zv_20_4544, zv_21_4544, zv_22_4544, zv_23_4544, zv_24_4544, zv_25_4544, zv_26_4544, zv_27_4544, zv_28_4544, zv_29_4544, zv_0_11, zv_1_11, zv_0_160, true_and, and_true, Nat.reduceAdd, m6, c9]
      refine ⟨fun h => absurd h (nI_ge (by omega) (by omega)), fun _ => ⟨fun h9 => ?_, fun h9 => ?_⟩⟩
      · have c : zWd S1 = 9999 := d3.mpr (by omega)
        rw [ze_it_9 false n b pr T (g + 1) c] at e
        refine h59 _ _ _ ?_
        simp only [bX12_foretold_59, zw_0, zw_1, zs_iinc4, zs_goto, zc_none, zc_int, zc_ref, zc_null, zc_long, zb_0, za_1, za_2, za_3, za_4, za_5, za_6, za_7, za_8, za_9, za_10, za_11, za_12, za_13, za_14, true_and, and_true, Nat.reduceAdd, nI_1]
        exact ih (i + 1) S1 M2 (by omega) hi1 hn1 hS1 R2 (by rw [ze_it_9 false n b pr T g c]; exact e)
      · have hne : ¬ zWd S1 = 9999 := fun z => h9 (by have := d3.mp z; omega)
        simp only [ze_it] at e
        rw [if_neg hne] at e
        obtain ⟨P, hP⟩ := zx_ex (M2.1 0 25)
        obtain ⟨c, hc⟩ := zx_ex (M2.1 0 24)
        refine c_pass hE d (wr := false) (c := c) (P := P) (tx := M.1 1 2) (zm_s9_R h91 R2) (by rw [R2.2.1 2 (by unfold zh_in; omega), e1]) (by rw [R2.2.2 23 (by decide) (by decide)]; exact a2) hc hP (fun w hw => zm_T_R (zm_T_c (hC.2.2.1 w hw) (a4 3 (by decide)).1) R2) hA.2.1 hi1 hS1 (fun M3 b1 b2 b3 b4 => ?_)
        simp only [bX12_foretold_36, zw_0, zw_1, zs_iload4, zs_iloadn1, zs_icge, zs_aloadn0, zs_aloadNn0, zg_12_7, zs_bipush, zs_iaload, zs_sipush, zi_12_368, zh_0, zh_1, zh_2, zh_3, zh_4, zt_i, zt_l, zt_r, zt_n, zb_0, za_1, za_2, za_3, za_4, za_5, za_6, za_7, za_8, za_9, za_10, za_11, za_12, za_13, za_14, zu_0, zu_1, zu_2, zu_3, zu_4, zu_5, zu_6, zu_7, zu_8, zu_9, zu_10, zu_11, zu_12, zu_13, zu_14, zu_15, zu_16, zu_17, zu_18, zu_19, zu_20, zu_21, zu_22, zu_23, zu_24, zu_25, zu_26, zu_27, zu_28, zu_29, zu_30, zu_90, zv_0_9, zv_1_9, zv_2_9, zv_3_9, zv_4_9, zv_5_9, zv_6_9, zv_7_9, zv_8_9, zv_0_330, zv_0_4544, zv_1_4544, zv_2_4544, zv_3_4544, zv_4_4544, zv_5_4544, zv_6_4544, zv_7_4544, zv_8_4544, zv_9_4544, zv_10_4544, zv_11_4544, zv_12_4544, zv_13_4544, zv_14_4544, zv_15_4544, zv_16_4544, zv_17_4544, zv_18_4544, zv_19_4544, zv_20_4544, zv_21_4544, zv_22_4544, zv_23_4544, zv_24_4544, zv_25_4544, zv_26_4544, zv_27_4544, zv_28_4544, zv_29_4544, zv_0_11, zv_1_11, zv_0_160, true_and, and_true, Nat.reduceAdd]
        obtain ⟨g1, g2⟩ := ze_ps_i (wr := false) (pr := pr) (T := T) hA.1 hi1 d2 (by omega)
        refine h59 _ _ _ ?_
        simp only [bX12_foretold_59, zw_0, zw_1, zs_iinc4, zs_goto, zc_none, zc_int, zc_ref, zc_null, zc_long, zb_0, za_1, za_2, za_3, za_4, za_5, za_6, za_7, za_8, za_9, za_10, za_11, za_12, za_13, za_14, true_and, and_true, Nat.reduceAdd, nI_1]
        exact ih (i + 1) _ M3 (by omega) g1 (g2.trans hn1) b1 (zR_trans R2 b4) e
  exact loop f 0 S M1 (by omega) hA.2.2.1 rfl (zw_m_f hC.2.2.2.1 e1) zR_refl hSF
theorem c_pardoned {E : zm_E} (hE : zm_ok E.2.2.1 E.2.2.2.2) (d : Nat) {n tn s : Nat} (a : Int32) {b pr : Nat → Int32} {T : Nat → Option zD} {S : zW} {H : Nat → zW} {M : zm_M} (hA : zAl n b T S s H) (hC : zMs n tn b pr T S s H M) {Q : Option Value → zm_M → Prop} (q1 : zo_is (zWn S) a = false → Q (some (.int (-1))) M) (q2 : ∀ k M', k < zWn S → a = nI k → zmh M M' → zw_m M' S → Q (some (.int (ze_par true n b pr T k 60 1 S))) M') : zm_R E (d + 8) mX12_pardoned [.ref 0, .int a] M Q := by
  refine zX12_pardoned hE rfl (fun G h0 h10 h23 h64 h70 => ?_)
  show G 0 [some (.ref 0), some (.int a), none, none] [] M
  have hm10 := hA.2.2.1.1.1
  have m8 : M.1 1 8 = nI (zWn S) := hC.2.2.2.1.2.2.1
  refine h0 _ _ _ ?_
  simp only [bX12_pardoned_0, zw_0, zw_1, zs_aloadn0, zs_aloadNn0, zs_iloadn1, zi_12_362, zs_ifne, zs_iconst, zs_ireturn, zh_0, zh_1, zh_2, zh_3, zh_4, zt_i, zt_l, zt_r, zt_n, zn_int, zn_b0, zn_b1, zb_0, za_1, za_2, za_3, za_4, za_5, za_6, za_7, za_8, za_9, za_10, za_11, za_12, za_13, za_14, true_and, and_true, Nat.reduceAdd]
  refine zm_R_eq (c_isApology hE (d + 5) a M) ?_
  rw [m8, zo_in (by omega)]
  simp only [bX12_pardoned_0, zw_0, zw_1, zs_aloadn0, zs_aloadNn0, zs_iloadn1, zi_12_362, zs_ifne, zs_iconst, zs_ireturn, zh_0, zh_1, zh_2, zh_3, zh_4, zt_i, zt_l, zt_r, zt_n, zn_int, zn_b0, zn_b1, zb_0, za_1, za_2, za_3, za_4, za_5, za_6, za_7, za_8, za_9, za_10, za_11, za_12, za_13, za_14, true_and, and_true, Nat.reduceAdd, zi_b1, zi_b0]
  refine ⟨fun ha => ?_, fun h => q1 h⟩
  have ha : zo_is (zWn S) a = true := by simpa using ha
  obtain ⟨k, hk, rfl⟩ := zo_of ha (by omega)
  have q2 := fun M' => q2 k M' hk rfl
  refine h10 _ _ _ ?_
  simp only [bX12_pardoned_10, zw_0, zw_1, zs_aloadn0, zs_aloadNn0, zi_12_405, zs_iconst, zq_12_326, zs_istoren2, zs_istoren3, zc_none, zc_int, zc_ref, zc_null, zc_long, zh_0, zh_1, zh_2, zh_3, zh_4, zt_i, zt_l, zt_r, zt_n, zb_0, za_1, za_2, za_3, za_4, za_5, za_6, za_7, za_8, za_9, za_10, za_11, za_12, za_13, za_14, true_and, and_true, Nat.reduceAdd]
  refine c_setAside hE (d + 6) (fun M1 a1 a2 a3 a4 => ?_)
  simp only [bX12_pardoned_10, zw_0, zw_1, zs_aloadn0, zs_aloadNn0, zi_12_405, zs_iconst, zq_12_326, zs_istoren2, zs_istoren3, zc_none, zc_int, zc_ref, zc_null, zc_long, zh_0, zh_1, zh_2, zh_3, zh_4, zt_i, zt_l, zt_r, zt_n, zb_0, za_1, za_2, za_3, za_4, za_5, za_6, za_7, za_8, za_9, za_10, za_11, za_12, za_13, za_14, true_and, and_true, Nat.reduceAdd]
  have e1 : M1.1 1 = M.1 1 := (a4 1 (by decide)).1
  have h91 : zm_s9 n b pr M1 := by
    obtain ⟨x1, x2, x3, x4, x5⟩ := hC.1
    unfold zm_s9
    rw [e1]; exact ⟨x1, x2, x3, x4, x5⟩
  have eqp := zq_par true false n b pr T k 60 1 S S (zq_e_refl S)
  rw [eqp] at q2
  generalize hSF : ze_par false n b pr T k 60 1 S = R at *
  have fin : ∀ (S1 : zW) (M2 : zm_M) (l3 : Option Value), zq_b S S1 → zw_m M2 S1 → zR M1 M2 → G 70 [some (.ref 0), some (.int (nI k)), some (.int R), l3] [] M2 := by
    intro S1 M2 l3 hb hS1 R2
    refine h70 _ _ _ ?_
    simp only [bX12_pardoned_70, zw_0, zw_1, zs_aloadn0, zs_aloadNn0, zi_12_408, zs_iloadn2, zs_ireturn, zh_0, zh_1, zh_2, zh_3, zh_4, zt_i, zt_l, zt_r, zt_n, zn_int, zn_b0, zn_b1, zb_0, za_1, za_2, za_3, za_4, za_5, za_6, za_7, za_8, za_9, za_10, za_11, za_12, za_13, za_14, true_and, and_true, Nat.reduceAdd]
    refine c_putBack hE (d + 6) (fun M3 b1 b2 b3 b4 b5 => ?_)
    simp only [bX12_pardoned_70, zw_0, zw_1, zs_aloadn0, zs_aloadNn0, zi_12_408, zs_iloadn2, zs_ireturn, zh_0, zh_1, zh_2, zh_3, zh_4, zt_i, zt_l, zt_r, zt_n, zn_int, zn_b0, zn_b1, zb_0, za_1, za_2, za_3, za_4, za_5, za_6, za_7, za_8, za_9, za_10, za_11, za_12, za_13, za_14, true_and, and_true, Nat.reduceAdd]
    obtain ⟨z1, z2⟩ := zmh_back hA.2.2.1.1 hC.2.2.2.1 a1 a3 a4 R2 hS1 hb b1 b2 b3 hC.2.2.2.2.2 b4 b5
    exact q2 M3 z1 z2
  have loop : ∀ (g i P : Nat) (S1 : zW) (M2 : zm_M), i + g = 61 → P < 1024 → P.testBit k = false → zw_i n b S1 → zWn S1 = zWn S → zq_b S S1 → zw_m M2 S1 → M2.1 0 25 = nI P → zR M1 M2 → ze_par false n b pr T k g i S1 = R → G 23 [some (.ref 0), some (.int (nI k)), some (.int (-1)), some (.int (nI i))] [] M2 := by
    intro g
    induction g with
    | zero =>
      intro i P S1 M2 hi hP hPk hi1 hn1 hb hS1 h25 R2 e
      have e : (-1 : Int32) = R := e
      refine h23 _ _ _ ?_
      simp only [bX12_pardoned_23, zw_0, zw_1, zs_iloadn3, zs_bipush, zs_icgt, zs_iloadn2, zs_iconst, zs_icne, zs_aloadn0, zs_aloadNn0, zg_12_7, zs_iaload, zs_sipush, zs_icge, zi_12_368, zg_12_326, zs_iloadn1, zi_12_77, zs_ifeq, zs_istoren2, zc_none, zc_int, zc_ref, zc_null, zc_long, zh_0, zh_1, zh_2, zh_3, zh_4, zt_i, zt_l, zt_r, zt_n, zb_0, za_1, za_2, za_3, za_4, za_5, za_6, za_7, za_8, za_9, za_10, za_11, za_12, za_13, za_14, zu_0, zu_1, zu_2, zu_3, zu_4, zu_5, zu_6, zu_7, zu_8, zu_9, zu_10, zu_11, zu_12, zu_13, zu_14, zu_15, zu_16, zu_17, zu_18, zu_19, zu_20, zu_21, zu_22, zu_23, zu_24, zu_25, zu_26, zu_27, zu_28, zu_29, zu_30, zu_90, zv_0_9, zv_1_9, zv_2_9, zv_3_9, zv_4_9, zv_5_9, zv_6_9, zv_7_9, zv_8_9, zv_0_330, zv_0_4544, zv_1_4544, zv_2_4544, zv_3_4544, zv_4_4544, zv_5_4544, zv_6_4544, zv_7_4544, zv_8_4544, zv_9_4544, zv_10_4544, zv_11_4544, zv_12_4544, zv_13_4544, zv_14_4544, zv_15_4544, zv_16_4544, zv_17_4544, zv_18_4544, zv_19_4544, zv_20_4544, zv_21_4544, zv_22_4544, zv_23_4544, zv_24_4544, zv_25_4544, zv_26_4544, zv_27_4544, zv_28_4544, zv_29_4544, zv_0_11, zv_1_11, zv_0_160, true_and, and_true, Nat.reduceAdd]
      rw [e]
      exact ⟨fun _ => fin S1 M2 _ hb hS1 R2, fun h => absurd (nI_lt (a := 60) (by omega) (by omega)) h⟩
    | succ g ih =>
      intro i P S1 M2 hi hP hPk hi1 hn1 hb hS1 h25 R2 e
      obtain ⟨dd, d1, d2, d3⟩ := zw_d9 hi1
      have m6 : M2.1 1 6 = nI dd := by rw [← d2]; exact hS1.1
      have c9 : ((9999 : Int32) ≤ nI dd) = (9999 ≤ dd) := propext (nI_leI (a := 9999) (by decide) (by omega))
      simp only [ze_par] at e
      refine h23 _ _ _ ?_
      simp only [bX12_pardoned_23, zw_0, zw_1, zs_iloadn3, zs_bipush, zs_icgt, zs_iloadn2, zs_iconst, zs_icne, zs_aloadn0, zs_aloadNn0, zg_12_7, zs_iaload, zs_sipush, zs_icge, zi_12_368, zg_12_326, zs_iloadn1, zi_12_77, zs_ifeq, zs_istoren2, zc_none, zc_int, zc_ref, zc_null, zc_long, zh_0, zh_1, zh_2, zh_3, zh_4, zt_i, zt_l, zt_r, zt_n, zb_0, za_1, za_2, za_3, za_4, za_5, za_6, za_7, za_8, za_9, za_10, za_11, za_12, za_13, za_14, zu_0, zu_1, zu_2, zu_3, zu_4, zu_5, zu_6, zu_7, zu_8, zu_9, zu_10, zu_11, zu_12, zu_13, zu_14, zu_15, zu_16, zu_17, zu_18, zu_19, zu_20, zu_21, zu_22, zu_23, zu_24, zu_25, zu_26, zu_27, zu_28, zu_29, zu_30, zu_90, zv_0_9, zv_1_9, zv_2_9, zv_3_9, zv_4_9, zv_5_9, zv_6_9, zv_7_9, zv_8_9, zv_0_330, zv_0_4544, zv_1_4544, zv_2_4544, zv_3_4544, zv_4_4544, zv_5_4544, zv_6_4544, zv_7_4544, zv_8_4544, zv_9_4544, zv_10_4544, zv_11_4544, zv_12_4544, zv_13_4544, zv_14_4544, zv_15_4544, zv_16_4544, zv_17_4544, zv_18_4544, zv_19_4544, zv_20_4544, zv_21_4544, zv_22_4544, zv_23_4544, zv_24_4544, zv_25_4544, zv_26_4544, zv_27_4544, zv_28_4544, zv_29_4544, zv_0_11, zv_1_11, zv_0_160, true_and, and_true, Nat.reduceAdd, m6, c9]
      refine ⟨fun h => absurd h (nI_nlt (b := i) (a := 60) (by omega) (by omega)), fun _ => ⟨fun h => absurd trivial h, fun _ => ⟨fun h9 => ?_, fun h9 => ?_⟩⟩⟩
      · rw [if_pos (d3.mpr (by omega))] at e
        rw [e]
        exact fin S1 M2 _ hb hS1 R2
      · have hne : ¬ zWd S1 = 9999 := fun z => h9 (by have := d3.mp z; omega)
        rw [if_neg hne] at e
        obtain ⟨c, hc⟩ := zx_ex (M2.1 0 24)
        refine c_pass hE d (wr := false) (c := c) (P := P) (tx := M.1 1 2) (zm_s9_R h91 R2) (by rw [R2.2.1 2 (by unfold zh_in; omega), e1]) (by rw [R2.2.2 23 (by decide) (by decide)]; exact a2) hc h25 (fun w hw => zm_T_R (zm_T_c (hC.2.2.1 w hw) (a4 3 (by decide)).1) R2) hA.2.1 hi1 hS1 (fun M3 b1 b2 b3 b4 => ?_)
        obtain ⟨g1, g2⟩ := ze_ps_i (wr := false) (pr := pr) (T := T) hA.1 hi1 d2 (by omega)
        have pl : (ze_p1 false n b pr T S1).2.2 < 1024 := by
          refine Nat.lt_pow_two_of_testBit (n := 10) _ (fun j hj => ?_)
          exact ze_l1_hi false n b pr T (zWn S1) 0 S1 j (by omega)
        have pP : P ||| (ze_p1 false n b pr T S1).2.2 < 1024 := Nat.or_lt_two_pow (n := 10) hP pl
        have tb : (P ||| (ze_p1 false n b pr T S1).2.2).testBit k = (ze_p1 false n b pr T S1).2.2.testBit k := by rw [Nat.testBit_or, hPk]; rfl
        simp only [bX12_pardoned_23, zw_0, zw_1, zs_iloadn3, zs_bipush, zs_icgt, zs_iloadn2, zs_iconst, zs_icne, zs_aloadn0, zs_aloadNn0, zg_12_7, zs_iaload, zs_sipush, zs_icge, zi_12_368, zg_12_326, zs_iloadn1, zi_12_77, zs_ifeq, zs_istoren2, zc_none, zc_int, zc_ref, zc_null, zc_long, zh_0, zh_1, zh_2, zh_3, zh_4, zt_i, zt_l, zt_r, zt_n, zb_0, za_1, za_2, za_3, za_4, za_5, za_6, za_7, za_8, za_9, za_10, za_11, za_12, za_13, za_14, zu_0, zu_1, zu_2, zu_3, zu_4, zu_5, zu_6, zu_7, zu_8, zu_9, zu_10, zu_11, zu_12, zu_13, zu_14, zu_15, zu_16, zu_17, zu_18, zu_19, zu_20, zu_21, zu_22, zu_23, zu_24, zu_25, zu_26, zu_27, zu_28, zu_29, zu_30, zu_90, zv_0_9, zv_1_9, zv_2_9, zv_3_9, zv_4_9, zv_5_9, zv_6_9, zv_7_9, zv_8_9, zv_0_330, zv_0_4544, zv_1_4544, zv_2_4544, zv_3_4544, zv_4_4544, zv_5_4544, zv_6_4544, zv_7_4544, zv_8_4544, zv_9_4544, zv_10_4544, zv_11_4544, zv_12_4544, zv_13_4544, zv_14_4544, zv_15_4544, zv_16_4544, zv_17_4544, zv_18_4544, zv_19_4544, zv_20_4544, zv_21_4544, zv_22_4544, zv_23_4544, zv_24_4544, zv_25_4544, zv_26_4544, zv_27_4544, zv_28_4544, zv_29_4544, zv_0_11, zv_1_11, zv_0_160, true_and, and_true, Nat.reduceAdd, b3]
        refine zm_R_eq (c_has hE (d + 6) _ _ M3) ?_
        rw [zx_has (by omega) (by omega), tb]
        simp only [bX12_pardoned_23, zw_0, zw_1, zs_iloadn3, zs_bipush, zs_icgt, zs_iloadn2, zs_iconst, zs_icne, zs_aloadn0, zs_aloadNn0, zg_12_7, zs_iaload, zs_sipush, zs_icge, zi_12_368, zg_12_326, zs_iloadn1, zi_12_77, zs_ifeq, zs_istoren2, zc_none, zc_int, zc_ref, zc_null, zc_long, zh_0, zh_1, zh_2, zh_3, zh_4, zt_i, zt_l, zt_r, zt_n, zb_0, za_1, za_2, za_3, za_4, za_5, za_6, za_7, za_8, za_9, za_10, za_11, za_12, za_13, za_14, zu_0, zu_1, zu_2, zu_3, zu_4, zu_5, zu_6, zu_7, zu_8, zu_9, zu_10, zu_11, zu_12, zu_13, zu_14, zu_15, zu_16, zu_17, zu_18, zu_19, zu_20, zu_21, zu_22, zu_23, zu_24, zu_25, zu_26, zu_27, zu_28, zu_29, zu_30, zu_90, zv_0_9, zv_1_9, zv_2_9, zv_3_9, zv_4_9, zv_5_9, zv_6_9, zv_7_9, zv_8_9, zv_0_330, zv_0_4544, zv_1_4544, zv_2_4544, zv_3_4544, zv_4_4544, zv_5_4544, zv_6_4544, zv_7_4544, zv_8_4544, zv_9_4544, zv_10_4544, zv_11_4544, zv_12_4544, zv_13_4544, zv_14_4544, zv_15_4544, zv_16_4544, zv_17_4544, zv_18_4544, zv_19_4544, zv_20_4544, zv_21_4544, zv_22_4544, zv_23_4544, zv_24_4544, zv_25_4544, zv_26_4544, zv_27_4544, zv_28_4544, zv_29_4544, zv_0_11, zv_1_11, zv_0_160, true_and, and_true, Nat.reduceAdd, zi_b0]
        refine ⟨fun hz => ?_, fun hz => ?_⟩
        · rw [hz, if_neg (by decide)] at e
          refine h64 _ _ _ ?_
          simp only [bX12_pardoned_64, zw_0, zw_1, zs_iinc3, zs_goto, zc_none, zc_int, zc_ref, zc_null, zc_long, zb_0, za_1, za_2, za_3, za_4, za_5, za_6, za_7, za_8, za_9, za_10, za_11, za_12, za_13, za_14, true_and, and_true, Nat.reduceAdd, nI_1]
          exact ih (i + 1) _ _ M3 (by omega) pP (by rw [tb]; exact hz) g1 (g2.trans hn1) (zq_b_t hb (zq_b_ps n b pr T S1)) b1 b3 (zR_trans R2 b4) e
        · have hz : (ze_p1 false n b pr T S1).2.2.testBit k = true := by simpa using hz
          rw [if_pos hz] at e
          refine h64 _ _ _ ?_
          simp only [bX12_pardoned_64, zw_0, zw_1, zs_iinc3, zs_goto, zc_none, zc_int, zc_ref, zc_null, zc_long, zb_0, za_1, za_2, za_3, za_4, za_5, za_6, za_7, za_8, za_9, za_10, za_11, za_12, za_13, za_14, true_and, and_true, Nat.reduceAdd, nI_1]
          refine h23 _ _ _ ?_
          have ne1 : (nI i = -1) = False := eq_false (zt_ne (by omega))
          simp only [bX12_pardoned_23, zw_0, zw_1, zs_iloadn3, zs_bipush, zs_icgt, zs_iloadn2, zs_iconst, zs_icne, zs_aloadn0, zs_aloadNn0, zg_12_7, zs_iaload, zs_sipush, zs_icge, zi_12_368, zg_12_326, zs_iloadn1, zi_12_77, zs_ifeq, zs_istoren2, zc_none, zc_int, zc_ref, zc_null, zc_long, zh_0, zh_1, zh_2, zh_3, zh_4, zt_i, zt_l, zt_r, zt_n, zb_0, za_1, za_2, za_3, za_4, za_5, za_6, za_7, za_8, za_9, za_10, za_11, za_12, za_13, za_14, zu_0, zu_1, zu_2, zu_3, zu_4, zu_5, zu_6, zu_7, zu_8, zu_9, zu_10, zu_11, zu_12, zu_13, zu_14, zu_15, zu_16, zu_17, zu_18, zu_19, zu_20, zu_21, zu_22, zu_23, zu_24, zu_25, zu_26, zu_27, zu_28, zu_29, zu_30, zu_90, zv_0_9, zv_1_9, zv_2_9, zv_3_9, zv_4_9, zv_5_9, zv_6_9, zv_7_9, zv_8_9, zv_0_330, zv_0_4544, zv_1_4544, zv_2_4544, zv_3_4544, zv_4_4544, zv_5_4544, zv_6_4544, zv_7_4544, zv_8_4544, zv_9_4544, zv_10_4544, zv_11_4544, zv_12_4544, zv_13_4544, zv_14_4544, zv_15_4544, zv_16_4544, zv_17_4544, zv_18_4544, zv_19_4544, zv_20_4544, zv_21_4544, zv_22_4544, zv_23_4544, zv_24_4544, zv_25_4544, zv_26_4544, zv_27_4544, zv_28_4544, zv_29_4544, zv_0_11, zv_1_11, zv_0_160, true_and, and_true, Nat.reduceAdd, ne1]
          rw [e]
          exact ⟨fun _ => fin _ M3 _ (zq_b_t hb (zq_b_ps n b pr T S1)) b1 (zR_trans R2 b4), fun _ => ⟨fun _ => fin _ M3 _ (zq_b_t hb (zq_b_ps n b pr T S1)) b1 (zR_trans R2 b4), fun h => absurd h (by simp)⟩⟩
  have R0 : zR M1 (zm_wi M1 0 25 0) := zR_0 (Or.inr rfl)
  exact loop 60 1 0 S _ (by omega) (by omega) (by simp) hA.2.2.1 rfl ⟨rfl, rfl⟩ (zw_m_f hC.2.2.2.1 ((zm_wi_other (by decide)).trans e1)) (by rw [zm_wi_same, if_pos rfl]; rfl) R0 hSF
