/-! ===== the reference: the numbers of a clause ===== -/
def zu_A (p : Nat) (M M' : zm_M) : Prop := zf [0, 3] M M' ∧ zg 0 [7, 8, 9, 10] M M' ∧ (∀ j, ¬ (p + 1 ≤ j ∧ j ≤ p + 3) → M'.1 3 j = M.1 3 j) ∧ ∀ j, j ≠ 11 → M'.2.1 0 j = M.2.1 0 j
theorem zu_A_refl {p : Nat} {M : zm_M} : zu_A p M M := ⟨zf_refl, zg_refl, fun _ _ => rfl, fun _ _ => rfl⟩
theorem zu_A_trans {p : Nat} {M M' M'' : zm_M} (h : zu_A p M M') (h2 : zu_A p M' M'') : zu_A p M M'' := ⟨zf_trans h.1 h2.1, zg_trans h.2.1 h2.2.1, fun j hj => (h2.2.2.1 j hj).trans (h.2.2.1 j hj), fun j hj => (h2.2.2.2 j hj).trans (h.2.2.2 j hj)⟩
theorem zu_A_f {p : Nat} {M M' : zm_M} (h : zk_f M M') : zu_A p M M' := ⟨zf_sub h.1 (by simp), h.2.1, fun j _ => by rw [(h.1 3 (by decide)).1], h.2.2.1⟩
theorem zu_A_w {p i : Nat} {v : Int32} {M : zm_M} (h1 : p + 1 ≤ i) (h2 : i ≤ p + 3) : zu_A p M (zm_wi M 3 i v) := ⟨zf_wi zf_refl (by decide), fun j _ => by rw [zm_wi_other (by decide)], fun j hj => by rw [zm_wi_same, if_neg (by omega)], fun _ _ => rfl⟩
theorem zk_tm_A {tp : Nat → Nat} {n p : Nat} {M M' : zm_M} (h : zk_tm tp n M) (f : zu_A p M M') : zk_tm tp n M' := ⟨h.1, by rw [f.2.1 4 (by decide)]; exact h.2.1, fun i hi => by rw [(f.1 4 (by decide)).1]; exact h.2.2.1 i hi, h.2.2.2⟩
section
variable {E : zm_E} {tp : Nat → Nat} {n : Nat}
theorem zu_fig (hE : zm_ok E.2.2.1 E.2.2.2.2) (d : Nat) {k p q l h : Nat} {M : zm_M} (hT : zk_tm tp n M) (hA : zk_at tp n (zk_st tp n k) M) (hq : q < 2820) (hq1 : p + 1 ≤ q) (hq2 : q ≤ p + 3) (hl : l ≤ 9999) (hh : h ≤ 9999) {Q : Option Value → zm_M → Prop} (q1 : ¬ zs_T tp n k = 41 → Q (some (.int 1)) M) (q2 : zs_T tp n k = 41 → ¬ (l ≤ zs_N tp n k ∧ zs_N tp n k ≤ h) → Q (some (.int 2)) M) (q3 : zs_T tp n k = 41 → (l ≤ zs_N tp n k ∧ zs_N tp n k ≤ h) → ∀ M', zk_tm tp n M' → zk_at tp n (zk_st tp n (k + 1)) M' → zu_A p M M' → (∀ j, M'.1 3 j = if j = q then nI (zs_N tp n k) else M.1 3 j) → Q (some (.int 0)) M') : zm_R E (d + 3) mX12_figure [.ref 0, .int (nI q), .int (nI l), .int (nI h)] M Q := by
  have b : zs_N tp n k ≤ 10000 := zk_nc_in _ _ 0 (by decide)
  have e := zd_in b hl hh
  refine c_figure hE d hT hA hq hl hh (fun z => q1 z) (fun v hv z z2 => ?_) (fun v hv z z2 M1 a1 f1 => ?_)
  · have hv : v = zs_N tp n k := hv
    subst hv
    rw [e] at z2
    exact q2 z z2
  · have hv : v = zs_N tp n k := hv
    subst hv
    rw [e] at z2
    have B := zu_A_trans (zu_A_w (p := p) (v := nI (zs_N tp n k)) hq1 hq2) (zu_A_f f1)
    exact q3 z (Classical.byContradiction z2) M1 (zk_tm_A hT B) a1 B (fun j => by rw [(f1.1 3 (by decide)).1, zm_wi_same])
theorem zu_word (hE : zm_ok E.2.2.1 E.2.2.2.2) (d : Nat) {k p q l h i : Nat} {M : zm_M} (hi : i < 28) (hil : (zz_sd.getD i []).length ≤ 6) (hT : zk_tm tp n M) (hA : zk_at tp n (zk_st tp n k) M) (hsn : zk_st tp n k ≤ n) (hq : q < 2820) (hq1 : p + 1 ≤ q) (hq2 : q ≤ p + 3) (hl : l ≤ 9999) (hh : h ≤ 9999) {Q : Option Value → zm_M → Prop} (q0 : ¬ zs_T tp n k = i → Q (some (.int 1)) M) (q1 : zs_T tp n k = i → ∀ M', zk_tm tp n M' → zk_at tp n (zk_st tp n (k + 1)) M' → zu_A p M M' → ¬ zs_T tp n (k + 1) = 41 → Q (some (.int 1)) M') (q2 : zs_T tp n k = i → ∀ M', zk_tm tp n M' → zk_at tp n (zk_st tp n (k + 1)) M' → zu_A p M M' → zs_T tp n (k + 1) = 41 → ¬ (l ≤ zs_N tp n (k + 1) ∧ zs_N tp n (k + 1) ≤ h) → Q (some (.int 2)) M') (q3 : zs_T tp n k = i → zs_T tp n (k + 1) = 41 → (l ≤ zs_N tp n (k + 1) ∧ zs_N tp n (k + 1) ≤ h) → ∀ M', zk_tm tp n M' → zk_at tp n (zk_st tp n (k + 2)) M' → zu_A p M M' → (∀ j, M'.1 3 j = if j = q then nI (zs_N tp n (k + 1)) else M.1 3 j) → Q (some (.int 0)) M') : zm_R E (d + 4) mX12_worded [.ref 0, .long (lN (zk_fd (zz_sd.getD i []))), .int (nI q), .int (nI l), .int (nI h)] M Q := by
  have b : zs_N tp n (k + 1) ≤ 10000 := zk_nc_in _ _ 0 (by decide)
  have e := zd_in b hl hh
  refine c_worded hE d hi hil hT hA hsn hq hl hh (fun z => q0 z) (fun z M1 a1 f1 z2 => q1 z M1 (zk_tm_f hT f1) a1 (zu_A_f f1) z2) (fun z M1 a1 f1 v hv z1 z2 => ?_) (fun z M1 a1 f1 v hv z1 z2 M2 a2 f2 => ?_)
  · have hv : v = zs_N tp n (k + 1) := hv
    subst hv
    rw [e] at z2
    exact q2 z M1 (zk_tm_f hT f1) a1 (zu_A_f f1) z1 z2
  · have hv : v = zs_N tp n (k + 1) := hv
    subst hv
    rw [e] at z2
    have B := zu_A_trans (zu_A_f (p := p) f1) (zu_A_trans (zu_A_w (p := p) (v := nI (zs_N tp n (k + 1))) hq1 hq2) (zu_A_f f2))
    exact q3 z z1 (Classical.byContradiction z2) M2 (zk_tm_A hT B) a2 B (fun j => by rw [(f2.1 3 (by decide)).1, zm_wi_same, (f1.1 3 (by decide)).1])
theorem zs_le (tp : Nat → Nat) (n k : Nat) : zk_st tp n k ≤ n := by
  induction k with
  | zero => exact (zk_rn_in zk_S tp n n 0).2 (Nat.zero_le _)
  | succ k ih =>
    refine (zk_rn_in zk_S tp n n _).2 ?_
    rcases Nat.lt_or_ge (zk_st tp n k) n with z | z
    · exact (zk_en_in z).2
    · unfold zk_en
      rw [if_pos z]; omega
theorem zu_pair (hE : zm_ok E.2.2.1 E.2.2.2.2) (d : Nat) {k p h x : Nat} {M : zm_M} (hx : x < 28) (hxl : (zz_sd.getD x []).length ≤ 6) (hT : zk_tm tp n M) (hA : zk_at tp n (zk_st tp n k) M) (hp : p + 3 < 2820) (hh : h ≤ 9999) : zm_R E (d + 5) mX12_pair [.ref 0, .int (nI p), .long (lN (zk_fd (zz_sd.getD x []))), .int (nI h)] M (fun r M' => zk_tm tp n M' ∧ zu_A p M M' ∧ ((zc_pr (zs_T tp n) (zs_N tp n) x h k = none ∧ r = some (.int 0) ∧ zk_at tp n (zk_st tp n (k + 3)) M' ∧ M'.1 3 (p + 1) = nI (zs_N tp n k) ∧ M'.1 3 (p + 2) = nI (zs_N tp n (k + 2))) ∨ (∃ f j, zc_pr (zs_T tp n) (zs_N tp n) x h k = some (f, j) ∧ (1 ≤ f ∧ f ≤ 2) ∧ r = some (.int (nI f)) ∧ zk_at tp n (zk_st tp n j) M'))) := by
  refine zX12_pair hE rfl (fun G h0 h22 h33 => ?_)
  have st0 : zm_ent [.ref 0, .int (nI p), .long (lN (zk_fd (zz_sd.getD x []))), .int (nI h)] 6 = [some (.ref 0), some (.int (nI p)), some (.long (lN (zk_fd (zz_sd.getD x [])))), none, some (.int (nI h)), none] := rfl
  rw [st0]
  have e2 : nI p + 2 = nI (p + 2) := nI_add p 2
  have no0 : ∀ z : Int32, z = 1 ∨ z = 2 → ¬ z = 0 := fun z h => by rcases h with rfl | rfl <;> decide
  refine h0 _ _ _ ?_
  simp only [bX12_pair_0, zw_0, zw_1, zs_aloadn0, zs_aloadNn0, zs_iloadn1, zs_iconst, zs_iadd, zs_bipush, zi_12_216, zs_istore5, zs_iload5, zs_ifeq, zs_goto, zc_none, zc_int, zc_ref, zc_null, zc_long, zh_0, zh_1, zh_2, zh_3, zh_4, zt_i, zt_l, zt_r, zt_n, zb_0, za_1, za_2, za_3, za_4, za_5, za_6, za_7, za_8, za_9, za_10, za_11, za_12, za_13, za_14, true_and, and_true, Nat.reduceAdd, nI_1]
  refine zu_fig (p := p) (q := p + 1) (l := 0) (h := 9) hE (d + 1) hT hA (by omega) (by omega) (by omega) (by decide) (by decide) (fun z => ?_) (fun y z => ?_) (fun y z M1 T1 A1 B1 w1 => ?_)
  · simp only [bX12_pair_0, zw_0, zw_1, zs_aloadn0, zs_aloadNn0, zs_iloadn1, zs_iconst, zs_iadd, zs_bipush, zi_12_216, zs_istore5, zs_iload5, zs_ifeq, zs_goto, zc_none, zc_int, zc_ref, zc_null, zc_long, zh_0, zh_1, zh_2, zh_3, zh_4, zt_i, zt_l, zt_r, zt_n, zb_0, za_1, za_2, za_3, za_4, za_5, za_6, za_7, za_8, za_9, za_10, za_11, za_12, za_13, za_14, true_and, and_true, Nat.reduceAdd]
    refine ⟨fun h => absurd h (by decide), fun _ => ?_⟩
    refine h33 _ _ _ ?_
    simp only [bX12_pair_33, zw_0, zw_1, zs_ireturn, zn_int, zn_b0, zn_b1, zb_0, za_1, za_2, za_3, za_4, za_5, za_6, za_7, za_8, za_9, za_10, za_11, za_12, za_13, za_14, true_and, and_true, Nat.reduceAdd]
    exact ⟨hT, zu_A_refl, Or.inr ⟨1, k, by unfold zc_pr; rw [if_pos z], by decide, rfl, hA⟩⟩
  · simp only [bX12_pair_0, zw_0, zw_1, zs_aloadn0, zs_aloadNn0, zs_iloadn1, zs_iconst, zs_iadd, zs_bipush, zi_12_216, zs_istore5, zs_iload5, zs_ifeq, zs_goto, zc_none, zc_int, zc_ref, zc_null, zc_long, zh_0, zh_1, zh_2, zh_3, zh_4, zt_i, zt_l, zt_r, zt_n, zb_0, za_1, za_2, za_3, za_4, za_5, za_6, za_7, za_8, za_9, za_10, za_11, za_12, za_13, za_14, true_and, and_true, Nat.reduceAdd]
    refine ⟨fun h => absurd h (by decide), fun _ => ?_⟩
    refine h33 _ _ _ ?_
    simp only [bX12_pair_33, zw_0, zw_1, zs_ireturn, zn_int, zn_b0, zn_b1, zb_0, za_1, za_2, za_3, za_4, za_5, za_6, za_7, za_8, za_9, za_10, za_11, za_12, za_13, za_14, true_and, and_true, Nat.reduceAdd]
    exact ⟨hT, zu_A_refl, Or.inr ⟨2, k, by unfold zc_pr; rw [if_neg (fun z => z y), if_pos (by omega)], by decide, rfl, hA⟩⟩
  · simp only [bX12_pair_0, zw_0, zw_1, zs_aloadn0, zs_aloadNn0, zs_iloadn1, zs_iconst, zs_iadd, zs_bipush, zi_12_216, zs_istore5, zs_iload5, zs_ifeq, zs_goto, zc_none, zc_int, zc_ref, zc_null, zc_long, zh_0, zh_1, zh_2, zh_3, zh_4, zt_i, zt_l, zt_r, zt_n, zb_0, za_1, za_2, za_3, za_4, za_5, za_6, za_7, za_8, za_9, za_10, za_11, za_12, za_13, za_14, true_and, and_true, Nat.reduceAdd]
    refine ⟨fun _ => ?_, fun h => absurd trivial h⟩
    refine h22 _ _ _ ?_
    simp only [bX12_pair_22, zw_0, zw_1, zs_aloadn0, zs_aloadNn0, zs_lloadn2, zs_iloadn1, zs_iconst, zs_iadd, zs_iload4, zi_12_223, zh_0, zh_1, zh_2, zh_3, zh_4, zt_i, zt_l, zt_r, zt_n, zb_0, za_1, za_2, za_3, za_4, za_5, za_6, za_7, za_8, za_9, za_10, za_11, za_12, za_13, za_14, true_and, and_true, Nat.reduceAdd, e2]
    refine zu_word (p := p) (q := p + 2) (l := 0) (h := h) hE d hx hxl T1 A1 (zs_le _ _ _) (by omega) (by omega) (by omega) (by decide) hh (fun z2 => ?_) (fun y2 M2 T2 A2 B2 z3 => ?_) (fun y2 M2 T2 A2 B2 y3 z3 => ?_) (fun y2 y3 z3 M2 T2 A2 B2 w2 => ?_)
    · simp only [bX12_pair_22, zw_0, zw_1, zs_aloadn0, zs_aloadNn0, zs_lloadn2, zs_iloadn1, zs_iconst, zs_iadd, zs_iload4, zi_12_223, zh_0, zh_1, zh_2, zh_3, zh_4, zt_i, zt_l, zt_r, zt_n, zb_0, za_1, za_2, za_3, za_4, za_5, za_6, za_7, za_8, za_9, za_10, za_11, za_12, za_13, za_14, true_and, and_true, Nat.reduceAdd]
      refine h33 _ _ _ ?_
      simp only [bX12_pair_33, zw_0, zw_1, zs_ireturn, zn_int, zn_b0, zn_b1, zb_0, za_1, za_2, za_3, za_4, za_5, za_6, za_7, za_8, za_9, za_10, za_11, za_12, za_13, za_14, true_and, and_true, Nat.reduceAdd]
      exact ⟨T1, B1, Or.inr ⟨1, k + 1, by unfold zc_pr; rw [if_neg (fun z => z y), if_neg (by omega), if_pos z2], by decide, rfl, A1⟩⟩
    · simp only [bX12_pair_22, zw_0, zw_1, zs_aloadn0, zs_aloadNn0, zs_lloadn2, zs_iloadn1, zs_iconst, zs_iadd, zs_iload4, zi_12_223, zh_0, zh_1, zh_2, zh_3, zh_4, zt_i, zt_l, zt_r, zt_n, zb_0, za_1, za_2, za_3, za_4, za_5, za_6, za_7, za_8, za_9, za_10, za_11, za_12, za_13, za_14, true_and, and_true, Nat.reduceAdd]
      refine h33 _ _ _ ?_
      simp only [bX12_pair_33, zw_0, zw_1, zs_ireturn, zn_int, zn_b0, zn_b1, zb_0, za_1, za_2, za_3, za_4, za_5, za_6, za_7, za_8, za_9, za_10, za_11, za_12, za_13, za_14, true_and, and_true, Nat.reduceAdd]
      exact ⟨T2, zu_A_trans B1 B2, Or.inr ⟨1, k + 2, by unfold zc_pr; rw [if_neg (fun z => z y), if_neg (by omega), if_neg (fun z => z y2), if_pos z3], by decide, rfl, A2⟩⟩
    · simp only [bX12_pair_22, zw_0, zw_1, zs_aloadn0, zs_aloadNn0, zs_lloadn2, zs_iloadn1, zs_iconst, zs_iadd, zs_iload4, zi_12_223, zh_0, zh_1, zh_2, zh_3, zh_4, zt_i, zt_l, zt_r, zt_n, zb_0, za_1, za_2, za_3, za_4, za_5, za_6, za_7, za_8, za_9, za_10, za_11, za_12, za_13, za_14, true_and, and_true, Nat.reduceAdd]
      refine h33 _ _ _ ?_
      simp only [bX12_pair_33, zw_0, zw_1, zs_ireturn, zn_int, zn_b0, zn_b1, zb_0, za_1, za_2, za_3, za_4, za_5, za_6, za_7, za_8, za_9, za_10, za_11, za_12, za_13, za_14, true_and, and_true, Nat.reduceAdd]
      exact ⟨T2, zu_A_trans B1 B2, Or.inr ⟨2, k + 2, by unfold zc_pr; rw [if_neg (fun z => z y), if_neg (by omega), if_neg (fun z => z y2), if_neg (fun z => z y3), if_pos (fun w : zs_N tp n (k + 2) ≤ h => z3 ⟨Nat.zero_le _, w⟩)], by decide, rfl, A2⟩⟩
    · simp only [bX12_pair_22, zw_0, zw_1, zs_aloadn0, zs_aloadNn0, zs_lloadn2, zs_iloadn1, zs_iconst, zs_iadd, zs_iload4, zi_12_223, zh_0, zh_1, zh_2, zh_3, zh_4, zt_i, zt_l, zt_r, zt_n, zb_0, za_1, za_2, za_3, za_4, za_5, za_6, za_7, za_8, za_9, za_10, za_11, za_12, za_13, za_14, true_and, and_true, Nat.reduceAdd]
      refine h33 _ _ _ ?_
      simp only [bX12_pair_33, zw_0, zw_1, zs_ireturn, zn_int, zn_b0, zn_b1, zb_0, za_1, za_2, za_3, za_4, za_5, za_6, za_7, za_8, za_9, za_10, za_11, za_12, za_13, za_14, true_and, and_true, Nat.reduceAdd]
      have z4 : zs_N tp n (k + 2) ≤ h := z3.2
      refine ⟨T2, zu_A_trans B1 B2, Or.inl ⟨by unfold zc_pr; rw [if_neg (fun z => z y), if_neg (by omega), if_neg (fun z => z y2), if_neg (fun z => z y3), if_neg (fun z => z z4)], A2, ?_, ?_⟩⟩
      · rw [w2, if_neg (by omega), w1, if_pos rfl]
      · rw [w2, if_pos rfl]
end
