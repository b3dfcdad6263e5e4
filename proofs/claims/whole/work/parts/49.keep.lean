/-! ===== keep and undo ===== -/
def zk_ps (s : Nat) (H : Nat → zW) (S : zW) : Nat → zW := if s = 30 then fun i => if i = 29 then S else H (i + 1) else fun i => if i = s then S else H i
def zk_n (s : Nat) : Nat := if s = 30 then 30 else s + 1
/-- steps kept in a row a of the reference -/
def zk_m (M : zm_M) (a s : Nat) (H : Nat → zW) : Prop := M.1 a 3 = nI s ∧ s ≤ 30 ∧ ∀ i, i < s → zw_r (fun k => M.1 a (164 + 144 * i + k)) (fun j => M.1 a (164 + 144 * i + (84 + j))) (H i)
theorem zw_r_c {f g f' g' : Nat → Int32} {S : zW} (hs : zw_sz S) (h : zw_r f g S) (e1 : ∀ k, k < 84 → f' k = f k) (e2 : ∀ k, k < 60 → g' k = g k) : zw_r f' g' S := by
  obtain ⟨h1, h2, h3, h4, h5, h6, h7⟩ := h
  obtain ⟨s1, s2⟩ := hs
  exact ⟨by rw [e1 0 (by decide)]; exact h1, by rw [e1 1 (by decide)]; exact h2, by rw [e1 2 (by decide)]; exact h3, by rw [e1 3 (by decide)]; exact h4, fun p hp => by rw [e1 _ (by omega)]; exact h5 p hp, fun x k hx hk => by rw [e1 _ (by omega)]; exact h6 x k hx hk, fun i hi => by rw [e2 _ (by omega), e2 _ (by omega)]; exact h7 i hi⟩
theorem c_keep {E : zm_E} (hE : zm_ok E.2.2.1 E.2.2.2.2) (d : Nat) {s : Nat} {M : zm_M} {S : zW} {H : Nat → zW} (hs : zw_sz S) (hH : ∀ i, i < s → zw_sz (H i)) (hS : zw_m M S) (hk : zk_m M 1 s H) {Q : Option Value → zm_M → Prop} (q : ∀ M', zw_m M' S → zk_m M' 1 (zk_n s) (zk_ps s H S) → zf [1] M M' → (∀ j, j ≠ 3 → (j < 164 ∨ 4484 ≤ j) → M'.1 1 j = M.1 1 j) → Q none M') : zm_R E (d + 1) mX12_keep [.ref 0] M Q := by
  refine zX12_keep hE rfl (fun G h0 h13 h46 h56 h73 h102 h104 h137 => ?_)
  show G 0 [some (.ref 0), none, none] [] M
  obtain ⟨k1, k2, k3⟩ := hk
  -- the row is laid behind t steps
  have lay : ∀ (t : Nat) (M1 : zm_M) (l1 : Option Value), t < 30 → zf [1] M M1 → M1.1 1 3 = nI t → (∀ j, j ≠ 3 → (j < 164 ∨ 4484 ≤ j) → M1.1 1 j = M.1 1 j) → (∀ M', zf [1] M1 M' → M'.1 1 3 = nI (t + 1) → (∀ j, j ≠ 3 → (j < 164 + 144 * t ∨ 164 + 144 * (t + 1) ≤ j) → M'.1 1 j = M1.1 1 j) → (∀ x, x < 84 → M'.1 1 (164 + 144 * t + x) = M.1 1 (6 + x)) → (∀ x, x < 60 → M'.1 1 (164 + 144 * t + (84 + x)) = M.1 1 (4484 + x)) → Q none M') → G 56 [some (.ref 0), l1, none] [] M1 := by
    intro t M1 l1 ht f1 f2 f3 fq
    have e0 : (164 : Int32) + 144 * nI t = nI (164 + 144 * t) := by rw [show (144 : Int32) = nI 144 from rfl, pk_mul]; exact nI_add 164 _
    have loop2 : ∀ (f i : Nat) (M2 : zm_M), i + f = 60 → zf [1] M1 M2 → (∀ j, (j < 164 + 144 * t ∨ 164 + 144 * (t + 1) ≤ j) → M2.1 1 j = M1.1 1 j) → (∀ x, x < 84 → M2.1 1 (164 + 144 * t + x) = M.1 1 (6 + x)) → (∀ x, x < i → M2.1 1 (164 + 144 * t + (84 + x)) = M.1 1 (4484 + x)) → G 104 [some (.ref 0), some (.int (nI (164 + 144 * t))), some (.int (nI i))] [] M2 := by
      intro f
      induction f with
      | zero =>
        intro i M2 hi g1 g2 g3 g4
        have hi : i = 60 := by omega
        subst hi
        have m3 : M2.1 1 3 = nI t := by rw [g2 3 (by omega)]; exact f2
        refine h104 _ _ _ ?_
        simp only [bX12_keep_104, zw_0, zw_1, zs_iloadn2, zs_bipush, zs_icge, zs_aloadn0, zs_aloadNn0, zg_12_7, zs_iloadn1, zs_iadd, zs_sipush, zs_iaload, zs_iastore, zs_iinc2, zs_goto, zc_none, zc_int, zc_ref, zc_null, zc_long, zb_0, za_1, za_2, za_3, za_4, za_5, za_6, za_7, za_8, za_9, za_10, za_11, za_12, za_13, za_14, zu_0, zu_1, zu_2, zu_3, zu_4, zu_5, zu_6, zu_7, zu_8, zu_9, zu_10, zu_11, zu_12, zu_13, zu_14, zu_15, zu_16, zu_17, zu_18, zu_19, zu_20, zu_21, zu_22, zu_23, zu_24, zu_25, zu_26, zu_27, zu_28, zu_29, zu_30, zu_90, zv_0_9, zv_1_9, zv_2_9, zv_3_9, zv_4_9, zv_5_9, zv_6_9, zv_7_9, zv_8_9, zv_0_330, zv_0_4544, zv_1_4544, zv_2_4544, zv_3_4544, zv_4_4544, zv_5_4544, zv_6_4544, zv_7_4544, zv_8_4544, zv_9_4544, zv_10_4544, zv_11_4544, zv_12_4544, zv_13_4544, zv_14_4544, zv_15_4544, zv_16_4544, zv_17_4544, zv_18_4544, zv_19_4544, zv_20_4544, zv_21_4544, zv_22_4544, zv_23_4544, zv_24_4544, zv_25_4544, zv_26_4544, zv_27_4544, zv_28_4544, zv_29_4544, zv_0_11, zv_1_11, zv_0_160, true_and, and_true, Nat.reduceAdd]
        refine ⟨fun _ => ?_, fun h => absurd (by decide) h⟩
        refine h137 _ _ _ ?_
        simp only [bX12_keep_137, zw_0, zw_1, zs_aloadn0, zs_aloadNn0, zg_12_7, zs_iconst, zs_dup2, zs_iaload, zs_iadd, zs_iastore, zs_return, zn_int, zn_b0, zn_b1, zb_0, za_1, za_2, za_3, za_4, za_5, za_6, za_7, za_8, za_9, za_10, za_11, za_12, za_13, za_14, zu_0, zu_1, zu_2, zu_3, zu_4, zu_5, zu_6, zu_7, zu_8, zu_9, zu_10, zu_11, zu_12, zu_13, zu_14, zu_15, zu_16, zu_17, zu_18, zu_19, zu_20, zu_21, zu_22, zu_23, zu_24, zu_25, zu_26, zu_27, zu_28, zu_29, zu_30, zu_90, zv_0_9, zv_1_9, zv_2_9, zv_3_9, zv_4_9, zv_5_9, zv_6_9, zv_7_9, zv_8_9, zv_0_330, zv_0_4544, zv_1_4544, zv_2_4544, zv_3_4544, zv_4_4544, zv_5_4544, zv_6_4544, zv_7_4544, zv_8_4544, zv_9_4544, zv_10_4544, zv_11_4544, zv_12_4544, zv_13_4544, zv_14_4544, zv_15_4544, zv_16_4544, zv_17_4544, zv_18_4544, zv_19_4544, zv_20_4544, zv_21_4544, zv_22_4544, zv_23_4544, zv_24_4544, zv_25_4544, zv_26_4544, zv_27_4544, zv_28_4544, zv_29_4544, zv_0_11, zv_1_11, zv_0_160, true_and, and_true, Nat.reduceAdd, m3, nI_1]
        refine fq _ (zf_wi g1 (by decide)) (by rw [zm_wi_same, if_pos rfl]) (fun j a b => by rw [zm_wi_same, if_neg a]; exact g2 j b) (fun x hx => by rw [zm_wi_same, if_neg (by omega)]; exact g3 x hx) (fun x hx => by rw [zm_wi_same, if_neg (by omega)]; exact g4 x hx)
      | succ f ih =>
        intro i M2 hi g1 g2 g3 g4
        have e1 : nI (164 + 144 * t) + 84 + nI i = nI (164 + 144 * t + (84 + i)) := by
          rw [show nI (164 + 144 * t) + 84 = nI (164 + 144 * t + 84) from nI_add _ 84, nI_add, Nat.add_assoc (164 + 144 * t)]
        have e2 : (4484 : Int32) + nI i = nI (4484 + i) := nI_add 4484 _
        obtain ⟨v1, c1⟩ := zx_ck (k := 164 + 144 * t) (p := 84 + i) (N := 4544) (by omega) (by decide)
        obtain ⟨v2, c2⟩ := zx_ck (k := 4484) (p := i) (N := 4544) (by omega) (by decide)
        refine h104 _ _ _ ?_
        simp only [bX12_keep_104, zw_0, zw_1, zs_iloadn2, zs_bipush, zs_icge, zs_aloadn0, zs_aloadNn0, zg_12_7, zs_iloadn1, zs_iadd, zs_sipush, zs_iaload, zs_iastore, zs_iinc2, zs_goto, zc_none, zc_int, zc_ref, zc_null, zc_long, zb_0, za_1, za_2, za_3, za_4, za_5, za_6, za_7, za_8, za_9, za_10, za_11, za_12, za_13, za_14, zu_0, zu_1, zu_2, zu_3, zu_4, zu_5, zu_6, zu_7, zu_8, zu_9, zu_10, zu_11, zu_12, zu_13, zu_14, zu_15, zu_16, zu_17, zu_18, zu_19, zu_20, zu_21, zu_22, zu_23, zu_24, zu_25, zu_26, zu_27, zu_28, zu_29, zu_30, zu_90, zv_0_9, zv_1_9, zv_2_9, zv_3_9, zv_4_9, zv_5_9, zv_6_9, zv_7_9, zv_8_9, zv_0_330, zv_0_4544, zv_1_4544, zv_2_4544, zv_3_4544, zv_4_4544, zv_5_4544, zv_6_4544, zv_7_4544, zv_8_4544, zv_9_4544, zv_10_4544, zv_11_4544, zv_12_4544, zv_13_4544, zv_14_4544, zv_15_4544, zv_16_4544, zv_17_4544, zv_18_4544, zv_19_4544, zv_20_4544, zv_21_4544, zv_22_4544, zv_23_4544, zv_24_4544, zv_25_4544, zv_26_4544, zv_27_4544, zv_28_4544, zv_29_4544, zv_0_11, zv_1_11, zv_0_160, true_and, and_true, Nat.reduceAdd, e1, e2, v1, c1, v2, c2]
        refine ⟨fun h => absurd h (nI_ge (b := 60) (by omega) (by decide)), fun _ => ?_⟩
        rw [nI_1]
        refine ih (i + 1) _ (by omega) (zf_wi g1 (by decide)) (fun j hj => by rw [zm_wi_same, if_neg (by omega)]; exact g2 j hj) (fun x hx => by rw [zm_wi_same, if_neg (by omega)]; exact g3 x hx) (fun x hx => ?_)
        rw [zm_wi_same]
        by_cases c : x = i
        · subst c
          rw [if_pos rfl, g2 _ (by omega), f3 _ (by omega) (by omega)]
        · rw [if_neg (by omega)]; exact g4 x (by omega)
    have loop1 : ∀ (f i : Nat) (M2 : zm_M), i + f = 84 → zf [1] M1 M2 → (∀ j, (j < 164 + 144 * t ∨ 164 + 144 * (t + 1) ≤ j) → M2.1 1 j = M1.1 1 j) → (∀ x, x < i → M2.1 1 (164 + 144 * t + x) = M.1 1 (6 + x)) → G 73 [some (.ref 0), some (.int (nI (164 + 144 * t))), some (.int (nI i))] [] M2 := by
      intro f
      induction f with
      | zero =>
        intro i M2 hi g1 g2 g3
        have hi : i = 84 := by omega
        subst hi
        refine h73 _ _ _ ?_
        simp only [bX12_keep_73, zw_0, zw_1, zs_iloadn2, zs_bipush, zs_icge, zs_aloadn0, zs_aloadNn0, zg_12_7, zs_iloadn1, zs_iadd, zs_iaload, zs_iastore, zs_iinc2, zs_goto, zc_none, zc_int, zc_ref, zc_null, zc_long, zb_0, za_1, za_2, za_3, za_4, za_5, za_6, za_7, za_8, za_9, za_10, za_11, za_12, za_13, za_14, zu_0, zu_1, zu_2, zu_3, zu_4, zu_5, zu_6, zu_7, zu_8, zu_9, zu_10, zu_11, zu_12, zu_13, zu_14, zu_15, zu_16, zu_17, zu_18, zu_19, zu_20, zu_21, zu_22, zu_23, zu_24, zu_25, zu_26, zu_27, zu_28, zu_29, zu_30, zu_90, zv_0_9, zv_1_9, zv_2_9, zv_3_9, zv_4_9, zv_5_9, zv_6_9, zv_7_9, zv_8_9, zv_0_330, zv_0_4544, zv_1_4544, zv_2_4544, zv_3_4544, zv_4_4544, zv_5_4544, zv_6_4544, zv_7_4544, zv_8_4544, zv_9_4544, zv_10_4544, zv_11_4544, zv_12_4544, zv_13_4544, zv_14_4544, zv_15_4544, zv_16_4544, zv_17_4544, zv_18_4544, zv_19_4544, zv_20_4544, zv_21_4544, zv_22_4544, zv_23_4544, zv_24_4544, zv_25_4544, zv_26_4544, zv_27_4544, zv_28_4544, zv_29_4544, zv_0_11, zv_1_11, zv_0_160, true_and, and_true, Nat.reduceAdd]
        refine ⟨fun _ => ?_, fun h => absurd (by decide) h⟩
        refine h102 _ _ _ ?_
        simp only [bX12_keep_102, zw_0, zw_1, zs_iconst, zs_istoren2, zc_none, zc_int, zc_ref, zc_null, zc_long, zb_0, za_1, za_2, za_3, za_4, za_5, za_6, za_7, za_8, za_9, za_10, za_11, za_12, za_13, za_14, true_and, and_true, Nat.reduceAdd]
        exact loop2 60 0 M2 (by omega) g1 g2 g3 (fun x hx => absurd hx (by omega))
      | succ f ih =>
        intro i M2 hi g1 g2 g3
        have e1 : nI (164 + 144 * t) + nI i = nI (164 + 144 * t + i) := nI_add _ _
        have e2 : (6 : Int32) + nI i = nI (6 + i) := zx_6 i
        obtain ⟨v1, c1⟩ := zx_ck (k := 164 + 144 * t) (p := i) (N := 4544) (by omega) (by decide)
        obtain ⟨v2, c2⟩ := zx_ck (k := 6) (p := i) (N := 4544) (by omega) (by decide)
        refine h73 _ _ _ ?_
        simp only [bX12_keep_73, zw_0, zw_1, zs_iloadn2, zs_bipush, zs_icge, zs_aloadn0, zs_aloadNn0, zg_12_7, zs_iloadn1, zs_iadd, zs_iaload, zs_iastore, zs_iinc2, zs_goto, zc_none, zc_int, zc_ref, zc_null, zc_long, zb_0, za_1, za_2, za_3, za_4, za_5, za_6, za_7, za_8, za_9, za_10, za_11, za_12, za_13, za_14, zu_0, zu_1, zu_2, zu_3, zu_4, zu_5, zu_6, zu_7, zu_8, zu_9, zu_10, zu_11, zu_12, zu_13, zu_14, zu_15, zu_16, zu_17, zu_18, zu_19, zu_20, zu_21, zu_22, zu_23, zu_24, zu_25, zu_26, zu_27, zu_28, zu_29, zu_30, zu_90, zv_0_9, zv_1_9, zv_2_9, zv_3_9, zv_4_9, zv_5_9, zv_6_9, zv_7_9, zv_8_9, zv_0_330, zv_0_4544, zv_1_4544, zv_2_4544, zv_3_4544, zv_4_4544, zv_5_4544, zv_6_4544, zv_7_4544, zv_8_4544, zv_9_4544, zv_10_4544, zv_11_4544, zv_12_4544, zv_13_4544, zv_14_4544, zv_15_4544, zv_16_4544, zv_17_4544, zv_18_4544, zv_19_4544, zv_20_4544, zv_21_4544, zv_22_4544, zv_23_4544, zv_24_4544, zv_25_4544, zv_26_4544, zv_27_4544, zv_28_4544, zv_29_4544, zv_0_11, zv_1_11, zv_0_160, true_and, and_true, Nat.reduceAdd, e1, e2, v1, c1, v2, c2]
        refine ⟨fun h => absurd h (nI_ge (b := 84) (by omega) (by decide)), fun _ => ?_⟩
        rw [nI_1]
        refine ih (i + 1) _ (by omega) (zf_wi g1 (by decide)) (fun j hj => by rw [zm_wi_same, if_neg (by omega)]; exact g2 j hj) (fun x hx => ?_)
        rw [zm_wi_same]
        by_cases c : x = i
        · subst c
          rw [if_pos rfl, g2 _ (by omega), f3 _ (by omega) (by omega)]
        · rw [if_neg (by omega)]; exact g3 x (by omega)
    refine h56 _ _ _ ?_
    simp only [bX12_keep_56, zw_0, zw_1, zs_sipush, zs_aloadn0, zs_aloadNn0, zg_12_7, zs_iconst, zs_iaload, zs_imul, zs_iadd, zs_istoren1, zs_istoren2, zc_none, zc_int, zc_ref, zc_null, zc_long, zb_0, za_1, za_2, za_3, za_4, za_5, za_6, za_7, za_8, za_9, za_10, za_11, za_12, za_13, za_14, zu_0, zu_1, zu_2, zu_3, zu_4, zu_5, zu_6, zu_7, zu_8, zu_9, zu_10, zu_11, zu_12, zu_13, zu_14, zu_15, zu_16, zu_17, zu_18, zu_19, zu_20, zu_21, zu_22, zu_23, zu_24, zu_25, zu_26, zu_27, zu_28, zu_29, zu_30, zu_90, zv_0_9, zv_1_9, zv_2_9, zv_3_9, zv_4_9, zv_5_9, zv_6_9, zv_7_9, zv_8_9, zv_0_330, zv_0_4544, zv_1_4544, zv_2_4544, zv_3_4544, zv_4_4544, zv_5_4544, zv_6_4544, zv_7_4544, zv_8_4544, zv_9_4544, zv_10_4544, zv_11_4544, zv_12_4544, zv_13_4544, zv_14_4544, zv_15_4544, zv_16_4544, zv_17_4544, zv_18_4544, zv_19_4544, zv_20_4544, zv_21_4544, zv_22_4544, zv_23_4544, zv_24_4544, zv_25_4544, zv_26_4544, zv_27_4544, zv_28_4544, zv_29_4544, zv_0_11, zv_1_11, zv_0_160, true_and, and_true, Nat.reduceAdd, f2, e0]
    exact loop1 84 0 M1 (by omega) zf_refl (fun _ _ => rfl) (fun x hx => absurd hx (by omega))
  have c30 : (nI s = 30) = (s = 30) := propext (nI_eq (b := 30) (by omega) (by decide))
  have newr : ∀ (M' : zm_M) (t : Nat), (∀ x, x < 84 → M'.1 1 (164 + 144 * t + x) = M.1 1 (6 + x)) → (∀ x, x < 60 → M'.1 1 (164 + 144 * t + (84 + x)) = M.1 1 (4484 + x)) → zw_r (fun k => M'.1 1 (164 + 144 * t + k)) (fun j => M'.1 1 (164 + 144 * t + (84 + j))) S := fun M' t a b => zw_r_c hs hS a b
  refine h0 _ _ _ ?_
  simp only [bX12_keep_0, zw_0, zw_1, zs_aloadn0, zs_aloadNn0, zg_12_7, zs_iconst, zs_iaload, zs_bipush, zs_icne, zs_istoren1, zc_none, zc_int, zc_ref, zc_null, zc_long, zb_0, za_1, za_2, za_3, za_4, za_5, za_6, za_7, za_8, za_9, za_10, za_11, za_12, za_13, za_14, zu_0, zu_1, zu_2, zu_3, zu_4, zu_5, zu_6, zu_7, zu_8, zu_9, zu_10, zu_11, zu_12, zu_13, zu_14, zu_15, zu_16, zu_17, zu_18, zu_19, zu_20, zu_21, zu_22, zu_23, zu_24, zu_25, zu_26, zu_27, zu_28, zu_29, zu_30, zu_90, zv_0_9, zv_1_9, zv_2_9, zv_3_9, zv_4_9, zv_5_9, zv_6_9, zv_7_9, zv_8_9, zv_0_330, zv_0_4544, zv_1_4544, zv_2_4544, zv_3_4544, zv_4_4544, zv_5_4544, zv_6_4544, zv_7_4544, zv_8_4544, zv_9_4544, zv_10_4544, zv_11_4544, zv_12_4544, zv_13_4544, zv_14_4544, zv_15_4544, zv_16_4544, zv_17_4544, zv_18_4544, zv_19_4544, zv_20_4544, zv_21_4544, zv_22_4544, zv_23_4544, zv_24_4544, zv_25_4544, zv_26_4544, zv_27_4544, zv_28_4544, zv_29_4544, zv_0_11, zv_1_11, zv_0_160, true_and, and_true, Nat.reduceAdd, k1, c30]
  refine ⟨fun hs30 => ?_, fun hs30 => ?_⟩
  · refine lay s M none (by omega) zf_refl k1 (fun _ _ _ => rfl) (fun M' g1 g2 g3 g4 g5 => ?_)
    have z1 : zk_n s = s + 1 := by unfold zk_n; rw [if_neg hs30]
    refine q M' (zw_r_c hs hS (fun k hk => g3 _ (by omega) (by omega)) (fun k hk => g3 _ (by omega) (by omega))) ⟨by rw [z1]; exact g2, by rw [z1]; omega, fun i hi => ?_⟩ g1 (fun j a b => g3 j a (by omega))
    rw [z1] at hi
    unfold zk_ps
    rw [if_neg hs30]
    by_cases c : i = s
    · subst c
      simp only [if_true]
      exact newr M' i g4 g5
    · simp only [if_neg c]
      exact zw_r_c (hH i (by omega)) (k3 i (by omega)) (fun k hk => g3 _ (by omega) (by omega)) (fun k hk => g3 _ (by omega) (by omega))
  · subst hs30
    have shift : ∀ (f i : Nat) (M1 : zm_M), i + f = 4176 → zf [1] M M1 → (∀ j, (j < 164 ∨ 4340 ≤ j) → M1.1 1 j = M.1 1 j) → (∀ j, j < 4176 → M1.1 1 (164 + j) = if j < i then M.1 1 (308 + j) else M.1 1 (164 + j)) → G 13 [some (.ref 0), some (.int (nI i)), none] [] M1 := by
      intro f
      induction f with
      | zero =>
        intro i M1 hi f1 f2 f3
        have hi : i = 4176 := by omega
        subst hi
        have m3 : M1.1 1 3 = nI 30 := by rw [f2 3 (by omega)]; exact k1
        refine h13 _ _ _ ?_
        simp only [bX12_keep_13, zw_0, zw_1, zs_iloadn1, zs_sipush, zs_icge, zs_aloadn0, zs_aloadNn0, zg_12_7, zs_iadd, zs_iaload, zs_iastore, zs_iinc1, zs_goto, zc_none, zc_int, zc_ref, zc_null, zc_long, zb_0, za_1, za_2, za_3, za_4, za_5, za_6, za_7, za_8, za_9, za_10, za_11, za_12, za_13, za_14, zu_0, zu_1, zu_2, zu_3, zu_4, zu_5, zu_6, zu_7, zu_8, zu_9, zu_10, zu_11, zu_12, zu_13, zu_14, zu_15, zu_16, zu_17, zu_18, zu_19, zu_20, zu_21, zu_22, zu_23, zu_24, zu_25, zu_26, zu_27, zu_28, zu_29, zu_30, zu_90, zv_0_9, zv_1_9, zv_2_9, zv_3_9, zv_4_9, zv_5_9, zv_6_9, zv_7_9, zv_8_9, zv_0_330, zv_0_4544, zv_1_4544, zv_2_4544, zv_3_4544, zv_4_4544, zv_5_4544, zv_6_4544, zv_7_4544, zv_8_4544, zv_9_4544, zv_10_4544, zv_11_4544, zv_12_4544, zv_13_4544, zv_14_4544, zv_15_4544, zv_16_4544, zv_17_4544, zv_18_4544, zv_19_4544, zv_20_4544, zv_21_4544, zv_22_4544, zv_23_4544, zv_24_4544, zv_25_4544, zv_26_4544, zv_27_4544, zv_28_4544, zv_29_4544, zv_0_11, zv_1_11, zv_0_160, true_and, and_true, Nat.reduceAdd]
        refine ⟨fun _ => ?_, fun h => absurd (by decide) h⟩
        refine h46 _ _ _ ?_
        simp only [bX12_keep_46, zw_0, zw_1, zs_aloadn0, zs_aloadNn0, zg_12_7, zs_iconst, zs_dup2, zs_iaload, zs_isub, zs_iastore, zb_0, za_1, za_2, za_3, za_4, za_5, za_6, za_7, za_8, za_9, za_10, za_11, za_12, za_13, za_14, zu_0, zu_1, zu_2, zu_3, zu_4, zu_5, zu_6, zu_7, zu_8, zu_9, zu_10, zu_11, zu_12, zu_13, zu_14, zu_15, zu_16, zu_17, zu_18, zu_19, zu_20, zu_21, zu_22, zu_23, zu_24, zu_25, zu_26, zu_27, zu_28, zu_29, zu_30, zu_90, zv_0_9, zv_1_9, zv_2_9, zv_3_9, zv_4_9, zv_5_9, zv_6_9, zv_7_9, zv_8_9, zv_0_330, zv_0_4544, zv_1_4544, zv_2_4544, zv_3_4544, zv_4_4544, zv_5_4544, zv_6_4544, zv_7_4544, zv_8_4544, zv_9_4544, zv_10_4544, zv_11_4544, zv_12_4544, zv_13_4544, zv_14_4544, zv_15_4544, zv_16_4544, zv_17_4544, zv_18_4544, zv_19_4544, zv_20_4544, zv_21_4544, zv_22_4544, zv_23_4544, zv_24_4544, zv_25_4544, zv_26_4544, zv_27_4544, zv_28_4544, zv_29_4544, zv_0_11, zv_1_11, zv_0_160, true_and, and_true, Nat.reduceAdd, m3]
        refine lay 29 _ _ (by omega) (zf_wi f1 (by decide)) (by rw [zm_wi_same, if_pos rfl]; rfl) (fun j a b => by rw [zm_wi_same, if_neg a]; exact f2 j (by omega)) (fun M' g1 g2 g3 g4 g5 => ?_)
        have g3' : ∀ j, j ≠ 3 → (j < 4340 ∨ 4484 ≤ j) → M'.1 1 j = M1.1 1 j := fun j a b => by rw [g3 j a (by omega), zm_wi_same, if_neg a]
        refine q M' (zw_r_c hs hS (fun k hk => by rw [g3' _ (by omega) (by omega)]; exact f2 _ (by omega)) (fun k hk => by rw [g3' _ (by omega) (by omega)]; exact f2 _ (by omega))) ⟨g2, by decide, fun i hi => ?_⟩ (zf_trans (zf_wi f1 (by decide)) g1) (fun j a b => by rw [g3' j a (by omega)]; exact f2 j (by omega))
        have hi : i < 30 := hi
        unfold zk_ps
        rw [if_pos rfl]
        by_cases c : i = 29
        · subst c
          simp only [if_true]
          exact newr M' 29 g4 g5
        · simp only [if_neg c]
          refine zw_r_c (hH (i + 1) (by omega)) (k3 (i + 1) (by omega)) (fun k hk => ?_) (fun k hk => ?_)
          · rw [g3' _ (by omega) (by omega), show 164 + 144 * i + k = 164 + (144 * i + k) by omega, f3 _ (by omega), if_pos (by omega), show 308 + (144 * i + k) = 164 + 144 * (i + 1) + k by omega]
          · rw [g3' _ (by omega) (by omega), show 164 + 144 * i + (84 + k) = 164 + (144 * i + (84 + k)) by omega, f3 _ (by omega), if_pos (by omega), show 308 + (144 * i + (84 + k)) = 164 + 144 * (i + 1) + (84 + k) by omega]
      | succ f ih =>
        intro i M1 hi f1 f2 f3
        have e1 : (164 : Int32) + nI i = nI (164 + i) := nI_add 164 _
        have e2 : (308 : Int32) + nI i = nI (308 + i) := nI_add 308 _
        obtain ⟨v1, c1⟩ := zx_ck (k := 164) (p := i) (N := 4544) (by omega) (by decide)
        obtain ⟨v2, c2⟩ := zx_ck (k := 308) (p := i) (N := 4544) (by omega) (by decide)
        refine h13 _ _ _ ?_
        simp only [bX12_keep_13, zw_0, zw_1, zs_iloadn1, zs_sipush, zs_icge, zs_aloadn0, zs_aloadNn0, zg_12_7, zs_iadd, zs_iaload, zs_iastore, zs_iinc1, zs_goto, zc_none, zc_int, zc_ref, zc_null, zc_long, zb_0, za_1, za_2, za_3, za_4, za_5, za_6, za_7, za_8, za_9, za_10, za_11, za_12, za_13, za_14, zu_0, zu_1, zu_2, zu_3, zu_4, zu_5, zu_6, zu_7, zu_8, zu_9, zu_10, zu_11, zu_12, zu_13, zu_14, zu_15, zu_16, zu_17, zu_18, zu_19, zu_20, zu_21, zu_22, zu_23, zu_24, zu_25, zu_26, zu_27, zu_28, zu_29, zu_30, zu_90, zv_0_9, zv_1_9, zv_2_9, zv_3_9, zv_4_9, zv_5_9, zv_6_9, zv_7_9, zv_8_9, zv_0_330, zv_0_4544, zv_1_4544, zv_2_4544, zv_3_4544, zv_4_4544, zv_5_4544, zv_6_4544, zv_7_4544, zv_8_4544, zv_9_4544, zv_10_4544, zv_11_4544, zv_12_4544, zv_13_4544, zv_14_4544, zv_15_4544, zv_16_4544, zv_17_4544, zv_18_4544, zv_19_4544, zv_20_4544, zv_21_4544, zv_22_4544, zv_23_4544, zv_24_4544, zv_25_4544, zv_26_4544, zv_27_4544, zv_28_4544, zv_29_4544, zv_0_11, zv_1_11, zv_0_160, true_and, and_true, Nat.reduceAdd, e1, e2, v1, c1, v2, c2]
        refine ⟨fun h => absurd h (nI_ge (b := 4176) (by omega) (by decide)), fun _ => ?_⟩
        rw [nI_1]
        refine ih (i + 1) _ (by omega) (zf_wi f1 (by decide)) (fun j hj => by rw [zm_wi_same, if_neg (by omega)]; exact f2 j hj) (fun j hj => ?_)
        rw [zm_wi_same]
        by_cases c : j = i
        · subst c
          rw [if_pos rfl, if_pos (by omega)]
          by_cases c2 : 308 + j < 4340
          · rw [show 308 + j = 164 + (144 + j) by omega, f3 _ (by omega), if_neg (by omega)]
          · rw [f2 _ (by omega)]
        · rw [if_neg (by omega), f3 j hj]
          by_cases c2 : j < i
          · rw [if_pos c2, if_pos (by omega)]
          · rw [if_neg c2, if_neg (by omega)]
    exact shift 4176 0 M (by omega) zf_refl (fun _ _ => rfl) (fun j _ => by rw [if_neg (by omega)])
theorem c_undo {E : zm_E} (hE : zm_ok E.2.2.1 E.2.2.2.2) (d : Nat) {s : Nat} {M : zm_M} {H : Nat → zW} (hH : ∀ i, i < s → zw_sz (H i)) (hk : zk_m M 1 s H) {Q : Option Value → zm_M → Prop} (q0 : s = 0 → Q (some (.int (-1))) M) (q : ∀ M' t, s = t + 1 → zw_m M' (H t) → zk_m M' 1 t H → zh [] M (zm_wi M' 1 3 (nI s)) → zf [1] M M' → (∀ j, j ≠ 3 → ¬ zh_in j → M'.1 1 j = M.1 1 j) → Q (some (.int (nI t))) M') : zm_R E (d + 1) mX12_undo [.ref 0] M Q := by
  refine zX12_undo hE rfl (fun G h0 h11 h38 h67 h69 h102 => ?_)
  show G 0 [some (.ref 0), none, none] [] M
  obtain ⟨k1, k2, k3⟩ := hk
  have c0 : (nI s = 0) = (s = 0) := propext (nI_eq (b := 0) (by omega) (by decide))
  refine h0 _ _ _ ?_
  simp only [bX12_undo_0, zw_0, zw_1, zs_aloadn0, zs_aloadNn0, zg_12_7, zs_iconst, zs_iaload, zs_ifne, zs_ireturn, zn_int, zn_b0, zn_b1, zb_0, za_1, za_2, za_3, za_4, za_5, za_6, za_7, za_8, za_9, za_10, za_11, za_12, za_13, za_14, zu_0, zu_1, zu_2, zu_3, zu_4, zu_5, zu_6, zu_7, zu_8, zu_9, zu_10, zu_11, zu_12, zu_13, zu_14, zu_15, zu_16, zu_17, zu_18, zu_19, zu_20, zu_21, zu_22, zu_23, zu_24, zu_25, zu_26, zu_27, zu_28, zu_29, zu_30, zu_90, zv_0_9, zv_1_9, zv_2_9, zv_3_9, zv_4_9, zv_5_9, zv_6_9, zv_7_9, zv_8_9, zv_0_330, zv_0_4544, zv_1_4544, zv_2_4544, zv_3_4544, zv_4_4544, zv_5_4544, zv_6_4544, zv_7_4544, zv_8_4544, zv_9_4544, zv_10_4544, zv_11_4544, zv_12_4544, zv_13_4544, zv_14_4544, zv_15_4544, zv_16_4544, zv_17_4544, zv_18_4544, zv_19_4544, zv_20_4544, zv_21_4544, zv_22_4544, zv_23_4544, zv_24_4544, zv_25_4544, zv_26_4544, zv_27_4544, zv_28_4544, zv_29_4544, zv_0_11, zv_1_11, zv_0_160, true_and, and_true, Nat.reduceAdd, k1, c0]
  refine ⟨fun hne => ?_, fun hz => q0 hz⟩
  obtain ⟨t, ht⟩ : ∃ t, s = t + 1 := ⟨s - 1, by omega⟩
  have q := fun M' => q M' t ht
  subst ht
  have e0 : (164 : Int32) + 144 * nI t = nI (164 + 144 * t) := by rw [show (144 : Int32) = nI 144 from rfl, pk_mul]; exact nI_add 164 _
  have ep : nI (t + 1) - 1 = nI t := nI_pred t
  have w3 : (zm_wi M 1 3 (nI t)).1 1 3 = nI t := by rw [zm_wi_same, if_pos rfl]
  have n3 : ∀ j, j ≠ 3 → (zm_wi M 1 3 (nI t)).1 1 j = M.1 1 j := fun j hj => by rw [zm_wi_same, if_neg hj]
  have loop2 : ∀ (f i : Nat) (M2 : zm_M), i + f = 60 → zf [1] M M2 → M2.1 1 3 = nI t → (∀ j, j ≠ 3 → ¬ zh_in j → M2.1 1 j = M.1 1 j) → (∀ x, x < 84 → M2.1 1 (6 + x) = M.1 1 (164 + 144 * t + x)) → (∀ x, x < i → M2.1 1 (4484 + x) = M.1 1 (164 + 144 * t + (84 + x))) → G 69 [some (.ref 0), some (.int (nI (164 + 144 * t))), some (.int (nI i))] [] M2 := by
    intro f
    induction f with
    | zero =>
      intro i M2 hi g1 g2 g3 g4 g5
      have hi : i = 60 := by omega
      subst hi
      refine h69 _ _ _ ?_
      simp only [bX12_undo_69, zw_0, zw_1, zs_iloadn2, zs_bipush, zs_icge, zs_aloadn0, zs_aloadNn0, zg_12_7, zs_sipush, zs_iadd, zs_iloadn1, zs_iaload, zs_iastore, zs_iinc2, zs_goto, zc_none, zc_int, zc_ref, zc_null, zc_long, zb_0, za_1, za_2, za_3, za_4, za_5, za_6, za_7, za_8, za_9, za_10, za_11, za_12, za_13, za_14, zu_0, zu_1, zu_2, zu_3, zu_4, zu_5, zu_6, zu_7, zu_8, zu_9, zu_10, zu_11, zu_12, zu_13, zu_14, zu_15, zu_16, zu_17, zu_18, zu_19, zu_20, zu_21, zu_22, zu_23, zu_24, zu_25, zu_26, zu_27, zu_28, zu_29, zu_30, zu_90, zv_0_9, zv_1_9, zv_2_9, zv_3_9, zv_4_9, zv_5_9, zv_6_9, zv_7_9, zv_8_9, zv_0_330, zv_0_4544, zv_1_4544, zv_2_4544, zv_3_4544, zv_4_4544, zv_5_4544, zv_6_4544, zv_7_4544, zv_8_4544, zv_9_4544, zv_10_4544, zv_11_4544, zv_12_4544, zv_13_4544, zv_14_4544, zv_15_4544, zv_16_4544, zv_17_4544, zv_18_4544, zv_19_4544, zv_20_4544, zv_21_4544, zv_22_4544, zv_23_4544, zv_24_4544, zv_25_4544, zv_26_4544, zv_27_4544, zv_28_4544, zv_29_4544, zv_0_11, zv_1_11, zv_0_160, true_and, and_true, Nat.reduceAdd]
      refine ⟨fun _ => ?_, fun h => absurd (by decide) h⟩
      refine h102 _ _ _ ?_
      simp only [bX12_undo_102, zw_0, zw_1, zs_aloadn0, zs_aloadNn0, zg_12_7, zs_iconst, zs_iaload, zs_ireturn, zn_int, zn_b0, zn_b1, zb_0, za_1, za_2, za_3, za_4, za_5, za_6, za_7, za_8, za_9, za_10, za_11, za_12, za_13, za_14, zu_0, zu_1, zu_2, zu_3, zu_4, zu_5, zu_6, zu_7, zu_8, zu_9, zu_10, zu_11, zu_12, zu_13, zu_14, zu_15, zu_16, zu_17, zu_18, zu_19, zu_20, zu_21, zu_22, zu_23, zu_24, zu_25, zu_26, zu_27, zu_28, zu_29, zu_30, zu_90, zv_0_9, zv_1_9, zv_2_9, zv_3_9, zv_4_9, zv_5_9, zv_6_9, zv_7_9, zv_8_9, zv_0_330, zv_0_4544, zv_1_4544, zv_2_4544, zv_3_4544, zv_4_4544, zv_5_4544, zv_6_4544, zv_7_4544, zv_8_4544, zv_9_4544, zv_10_4544, zv_11_4544, zv_12_4544, zv_13_4544, zv_14_4544, zv_15_4544, zv_16_4544, zv_17_4544, zv_18_4544, zv_19_4544, zv_20_4544, zv_21_4544, zv_22_4544, zv_23_4544, zv_24_4544, zv_25_4544, zv_26_4544, zv_27_4544, zv_28_4544, zv_29_4544, zv_0_11, zv_1_11, zv_0_160, true_and, and_true, Nat.reduceAdd, g2]
      refine q M2 (zw_r_c (hH t (by omega)) (k3 t (by omega)) g4 g5) ⟨g2, by omega, fun i hi => ?_⟩ ⟨zf_wi g1 (by decide), fun j hj => ?_⟩ g1 g3
      · exact zw_r_c (hH i (by omega)) (k3 i (by omega)) (fun k hk => g3 _ (by omega) (by unfold zh_in; omega)) (fun k hk => g3 _ (by omega) (by unfold zh_in; omega))
      · rw [zm_wi_same]
        by_cases c : j = 3
        · rw [if_pos c, c]; exact k1.symm
        · rw [if_neg c]; exact g3 j c hj
    | succ f ih =>
      intro i M2 hi g1 g2 g3 g4 g5
      have e1 : nI (164 + 144 * t) + 84 + nI i = nI (164 + 144 * t + (84 + i)) := by
        rw [show nI (164 + 144 * t) + 84 = nI (164 + 144 * t + 84) from nI_add _ 84, nI_add, Nat.add_assoc (164 + 144 * t)]
      have e2 : (4484 : Int32) + nI i = nI (4484 + i) := nI_add 4484 _
      obtain ⟨v1, c1⟩ := zx_ck (k := 164 + 144 * t) (p := 84 + i) (N := 4544) (by omega) (by decide)
      obtain ⟨v2, c2⟩ := zx_ck (k := 4484) (p := i) (N := 4544) (by omega) (by decide)
      refine h69 _ _ _ ?_
      simp only [bX12_undo_69, zw_0, zw_1, zs_iloadn2, zs_bipush, zs_icge, zs_aloadn0, zs_aloadNn0, zg_12_7, zs_sipush, zs_iadd, zs_iloadn1, zs_iaload, zs_iastore, zs_iinc2, zs_goto, zc_none, zc_int, zc_ref, zc_null, zc_long, zb_0, za_1, za_2, za_3, za_4, za_5, za_6, za_7, za_8, za_9, za_10, za_11, za_12, za_13, za_14, zu_0, zu_1, zu_2, zu_3, zu_4, zu_5, zu_6, zu_7, zu_8, zu_9, zu_10, zu_11, zu_12, zu_13, zu_14, zu_15, zu_16, zu_17, zu_18, zu_19, zu_20, zu_21, zu_22, zu_23, zu_24, zu_25, zu_26, zu_27, zu_28, zu_29, zu_30, zu_90, zv_0_9, zv_1_9, zv_2_9, zv_3_9, zv_4_9, zv_5_9, zv_6_9, zv_7_9, zv_8_9, zv_0_330, zv_0_4544, zv_1_4544, zv_2_4544, zv_3_4544, zv_4_4544, zv_5_4544, zv_6_4544, zv_7_4544, zv_8_4544, zv_9_4544, zv_10_4544, zv_11_4544, zv_12_4544, zv_13_4544, zv_14_4544, zv_15_4544, zv_16_4544, zv_17_4544, zv_18_4544, zv_19_4544, zv_20_4544, zv_21_4544, zv_22_4544, zv_23_4544, zv_24_4544, zv_25_4544, zv_26_4544, zv_27_4544, zv_28_4544, zv_29_4544, zv_0_11, zv_1_11, zv_0_160, true_and, and_true, Nat.reduceAdd, e1, e2, v1, c1, v2, c2]
      refine ⟨fun h => absurd h (nI_ge (b := 60) (by omega) (by decide)), fun _ => ?_⟩
      rw [nI_1]
      refine ih (i + 1) _ (by omega) (zf_wi g1 (by decide)) (by rw [zm_wi_same, if_neg (by omega)]; exact g2) (fun j a b => by rw [zm_wi_same, if_neg (fun z => b (Or.inr (by omega)))]; exact g3 j a b) (fun x hx => by rw [zm_wi_same, if_neg (by omega)]; exact g4 x hx) (fun x hx => ?_)
      rw [zm_wi_same]
      by_cases c : x = i
      · subst c
        rw [if_pos rfl]; exact g3 _ (by omega) (by unfold zh_in; omega)
      · rw [if_neg (by omega)]; exact g5 x (by omega)
  have loop1 : ∀ (f i : Nat) (M2 : zm_M), i + f = 84 → zf [1] M M2 → M2.1 1 3 = nI t → (∀ j, j ≠ 3 → ¬ zh_in j → M2.1 1 j = M.1 1 j) → (∀ x, x < i → M2.1 1 (6 + x) = M.1 1 (164 + 144 * t + x)) → G 38 [some (.ref 0), some (.int (nI (164 + 144 * t))), some (.int (nI i))] [] M2 := by
    intro f
    induction f with
    | zero =>
      intro i M2 hi g1 g2 g3 g4
      have hi : i = 84 := by omega
      subst hi
      refine h38 _ _ _ ?_
      simp only [bX12_undo_38, zw_0, zw_1, zs_iloadn2, zs_bipush, zs_icge, zs_aloadn0, zs_aloadNn0, zg_12_7, zs_iadd, zs_iloadn1, zs_iaload, zs_iastore, zs_iinc2, zs_goto, zc_none, zc_int, zc_ref, zc_null, zc_long, zb_0, za_1, za_2, za_3, za_4, za_5, za_6, za_7, za_8, za_9, za_10, za_11, za_12, za_13, za_14, zu_0, zu_1, zu_2, zu_3, zu_4, zu_5, zu_6, zu_7, zu_8, zu_9, zu_10, zu_11, zu_12, zu_13, zu_14, zu_15, zu_16, zu_17, zu_18, zu_19, zu_20, zu_21, zu_22, zu_23, zu_24, zu_25, zu_26, zu_27, zu_28, zu_29, zu_30, zu_90, zv_0_9, zv_1_9, zv_2_9, zv_3_9, zv_4_9, zv_5_9, zv_6_9, zv_7_9, zv_8_9, zv_0_330, zv_0_4544, zv_1_4544, zv_2_4544, zv_3_4544, zv_4_4544, zv_5_4544, zv_6_4544, zv_7_4544, zv_8_4544, zv_9_4544, zv_10_4544, zv_11_4544, zv_12_4544, zv_13_4544, zv_14_4544, zv_15_4544, zv_16_4544, zv_17_4544, zv_18_4544, zv_19_4544, zv_20_4544, zv_21_4544, zv_22_4544, zv_23_4544, zv_24_4544, zv_25_4544, zv_26_4544, zv_27_4544, zv_28_4544, zv_29_4544, zv_0_11, zv_1_11, zv_0_160, true_and, and_true, Nat.reduceAdd]
      refine ⟨fun _ => ?_, fun h => absurd (by decide) h⟩
      refine h67 _ _ _ ?_
      simp only [bX12_undo_67, zw_0, zw_1, zs_iconst, zs_istoren2, zc_none, zc_int, zc_ref, zc_null, zc_long, zb_0, za_1, za_2, za_3, za_4, za_5, za_6, za_7, za_8, za_9, za_10, za_11, za_12, za_13, za_14, true_and, and_true, Nat.reduceAdd]
      exact loop2 60 0 M2 (by omega) g1 g2 g3 g4 (fun x hx => absurd hx (by omega))
    | succ f ih =>
      intro i M2 hi g1 g2 g3 g4
      have e1 : nI (164 + 144 * t) + nI i = nI (164 + 144 * t + i) := nI_add _ _
      have e2 : (6 : Int32) + nI i = nI (6 + i) := zx_6 i
      obtain ⟨v1, c1⟩ := zx_ck (k := 164 + 144 * t) (p := i) (N := 4544) (by omega) (by decide)
      obtain ⟨v2, c2⟩ := zx_ck (k := 6) (p := i) (N := 4544) (by omega) (by decide)
      refine h38 _ _ _ ?_
      simp only [bX12_undo_38, zw_0, zw_1, zs_iloadn2, zs_bipush, zs_icge, zs_aloadn0, zs_aloadNn0, zg_12_7, zs_iadd, zs_iloadn1, zs_iaload, zs_iastore, zs_iinc2, zs_goto, zc_none, zc_int, zc_ref, zc_null, zc_long, zb_0, za_1, za_2, za_3, za_4, za_5, za_6, za_7, za_8, za_9, za_10, za_11, za_12, za_13, za_14, zu_0, zu_1, zu_2, zu_3, zu_4, zu_5, zu_6, zu_7, zu_8, zu_9, zu_10, zu_11, zu_12, zu_13, zu_14, zu_15, zu_16, zu_17, zu_18, zu_19, zu_20, zu_21, zu_22, zu_23, zu_24, zu_25, zu_26, zu_27, zu_28, zu_29, zu_30, zu_90, zv_0_9, zv_1_9, zv_2_9, zv_3_9, zv_4_9, zv_5_9, zv_6_9, zv_7_9, zv_8_9, zv_0_330, zv_0_4544, zv_1_4544, zv_2_4544, zv_3_4544, zv_4_4544, zv_5_4544, zv_6_4544, zv_7_4544, zv_8_4544, zv_9_4544, zv_10_4544, zv_11_4544, zv_12_4544, zv_13_4544, zv_14_4544, zv_15_4544, zv_16_4544, zv_17_4544, zv_18_4544, zv_19_4544, zv_20_4544, zv_21_4544, zv_22_4544, zv_23_4544, zv_24_4544, zv_25_4544, zv_26_4544, zv_27_4544, zv_28_4544, zv_29_4544, zv_0_11, zv_1_11, zv_0_160, true_and, and_true, Nat.reduceAdd, e1, e2, v1, c1, v2, c2]
      refine ⟨fun h => absurd h (nI_ge (b := 84) (by omega) (by decide)), fun _ => ?_⟩
      rw [nI_1]
      refine ih (i + 1) _ (by omega) (zf_wi g1 (by decide)) (by rw [zm_wi_same, if_neg (by omega)]; exact g2) (fun j a b => by rw [zm_wi_same, if_neg (fun z => b (Or.inl (by omega)))]; exact g3 j a b) (fun x hx => ?_)
      rw [zm_wi_same]
      by_cases c : x = i
      · subst c
        rw [if_pos rfl]; exact g3 _ (by omega) (by unfold zh_in; omega)
      · rw [if_neg (by omega)]; exact g4 x (by omega)
  refine h11 _ _ _ ?_
  simp only [bX12_undo_11, zw_0, zw_1, zs_aloadn0, zs_aloadNn0, zg_12_7, zs_iconst, zs_dup2, zs_iaload, zs_isub, zs_iastore, zs_sipush, zs_imul, zs_iadd, zs_istoren1, zs_istoren2, zc_none, zc_int, zc_ref, zc_null, zc_long, zb_0, za_1, za_2, za_3, za_4, za_5, za_6, za_7, za_8, za_9, za_10, za_11, za_12, za_13, za_14, zu_0, zu_1, zu_2, zu_3, zu_4, zu_5, zu_6, zu_7, zu_8, zu_9, zu_10, zu_11, zu_12, zu_13, zu_14, zu_15, zu_16, zu_17, zu_18, zu_19, zu_20, zu_21, zu_22, zu_23, zu_24, zu_25, zu_26, zu_27, zu_28, zu_29, zu_30, zu_90, zv_0_9, zv_1_9, zv_2_9, zv_3_9, zv_4_9, zv_5_9, zv_6_9, zv_7_9, zv_8_9, zv_0_330, zv_0_4544, zv_1_4544, zv_2_4544, zv_3_4544, zv_4_4544, zv_5_4544, zv_6_4544, zv_7_4544, zv_8_4544, zv_9_4544, zv_10_4544, zv_11_4544, zv_12_4544, zv_13_4544, zv_14_4544, zv_15_4544, zv_16_4544, zv_17_4544, zv_18_4544, zv_19_4544, zv_20_4544, zv_21_4544, zv_22_4544, zv_23_4544, zv_24_4544, zv_25_4544, zv_26_4544, zv_27_4544, zv_28_4544, zv_29_4544, zv_0_11, zv_1_11, zv_0_160, true_and, and_true, Nat.reduceAdd, k1, ep, w3, e0]
  exact loop1 84 0 _ (by omega) (zf_wi zf_refl (by decide)) w3 (fun j a _ => n3 j a) (fun x hx => absurd hx (by omega))
