/-! ===== the reference: a day ===== -/
def zm_s9 (n : Nat) (b pr : Nat → Int32) (M : zm_M) : Prop := zt_wf n (fun i => M.1 1 (90 + i)) ∧ M.1 1 0 = nI n ∧ (∀ i, i < n → M.1 1 (90 + i) = b i) ∧ (∀ i, i < n → M.1 1 (100 + i) = pr i) ∧ (∀ i, i < n → zq_ok (pr i).toInt)
/-- what a day may change in the reference -/
def zR (M M' : zm_M) : Prop := zf [0, 1, 6, 7, 8] M M' ∧ (∀ j, ¬ zh_in j → M'.1 1 j = M.1 1 j) ∧ (∀ j, j ≠ 24 → j ≠ 25 → M'.1 0 j = M.1 0 j)
theorem zR_refl {M : zm_M} : zR M M := ⟨zf_refl, fun _ _ => rfl, fun _ _ _ => rfl⟩
theorem zR_trans {M M' M'' : zm_M} (h : zR M M') (h2 : zR M' M'') : zR M M'' := ⟨zf_trans h.1 h2.1, fun j hj => (h2.2.1 j hj).trans (h.2.1 j hj), fun j a b => (h2.2.2 j a b).trans (h.2.2 j a b)⟩
theorem zR_h {M M' : zm_M} (h : zh [] M M') : zR M M' := ⟨zf_sub h.1 (by simp), h.2, fun j _ _ => by rw [(h.1 0 (by decide)).1]⟩
theorem zR_f {M M' : zm_M} {L : List Nat} (h : zf L M M') (hL : ∀ q, q ∈ L → q = 6 ∨ q = 7 ∨ q = 8) : zR M M' := by
  have n1 : 1 ∉ L := fun z => by have := hL 1 z; omega
  have n0 : 0 ∉ L := fun z => by have := hL 0 z; omega
  exact ⟨zf_sub h (fun q hq => by have := hL q hq; simp; omega), fun j _ => by rw [(h 1 n1).1], fun j _ _ => by rw [(h 0 n0).1]⟩
theorem zR_0 {M : zm_M} {k : Nat} {v : Int32} (hk : k = 24 ∨ k = 25) : zR M (zm_wi M 0 k v) := ⟨zf_wi zf_refl (by decide), fun j _ => by rw [zm_wi_other (by decide)], fun j a b => by rw [zm_wi_same, if_neg (by omega)]⟩
theorem zm_s9_R {n : Nat} {b pr : Nat → Int32} {M M' : zm_M} (h : zm_s9 n b pr M) (hr : zR M M') : zm_s9 n b pr M' := by
  obtain ⟨a1, a2, a3, a4, a5⟩ := h
  have hn := a1.1
  have e9 : ∀ i, i < n → M'.1 1 (90 + i) = M.1 1 (90 + i) := fun i hi => hr.2.1 _ (by unfold zh_in; omega)
  exact ⟨zt_wf_c a1 (fun i hi => (e9 i hi).symm), by rw [hr.2.1 0 (by unfold zh_in; omega)]; exact a2, fun i hi => (e9 i hi).trans (a3 i hi), fun i hi => by rw [hr.2.1 _ (by unfold zh_in; omega)]; exact a4 i hi, a5⟩
theorem zm_T_R {M M' : zm_M} {tx : Int32} {w : Nat} {D : Option zD} (h : zm_T M tx w D) (hr : zR M M') : zm_T M' tx w D := zm_T_c h (hr.1 3 (by decide)).1
theorem zw_m_f {M M' : zm_M} {S : zW} (h : zw_m M S) (e : M'.1 1 = M.1 1) : zw_m M' S := by
  unfold zw_m at *
  rw [e]; exact h
theorem c_nameApology {E : zm_E} (hE : zm_ok E.2.2.1 E.2.2.2.2) (d : Nat) {n k p : Nat} {b pr : Nat → Int32} {M : zm_M} {S : zW} (h9 : zm_s9 n b pr M) (hs : zw_sz S) (hk : k < zWn S) (hp : p < n) (hS : zw_m M S) {Q : Option Value → zm_M → Prop} (q : ∀ M', (∀ i, i < 9 → M'.1 6 i = ze_nm b pr S k p i) → zf [6] M M' → Q none M') : zm_R E (d + 3) mX12_nameApology [.ref 0, .int (nI k), .int (nI p)] M Q := by
  refine zX12_nameApology hE rfl (fun G h0 => ?_)
  show G 0 [some (.ref 0), some (.int (nI k)), some (.int (nI p))] [] M
  have hk10 := hs.1
  have gt : ∀ (x : Nat) (hx : x < 7) (M1 : zm_M), M1.1 1 = M.1 1 → zm_R E (d + 2) mX12_get [.ref 0, .int (nI k), .int (nI x)] M1 (fun r M' => r = some (.int (zWa S x k)) ∧ M' = M1) := by
    intro x hx M1 e1
    have := c_gt hE (d + 1) (k := k) (by omega) x hx M1
    rw [show zp M1 x k = zWa S x k by unfold zp; rw [e1]; exact zw_m_ap hS hx hk] at this
    exact this
  refine h0 _ _ _ ?_
  simp only [bX12_nameApology_0, zw_0, zw_1, zs_aloadn0, zs_aloadNn0, zs_iloadn2, zs_iloadn1, zs_iconst, zi_12_304, zi_12_297, zg_12_32, zs_bipush, zg_12_7, zs_iaload, zs_isub, zs_iastore, zi_12_307, zs_return, zh_0, zh_1, zh_2, zh_3, zh_4, zt_i, zt_l, zt_r, zt_n, zn_int, zn_b0, zn_b1, zb_0, za_1, za_2, za_3, za_4, za_5, za_6, za_7, za_8, za_9, za_10, za_11, za_12, za_13, za_14, zu_0, zu_1, zu_2, zu_3, zu_4, zu_5, zu_6, zu_7, zu_8, zu_9, zu_10, zu_11, zu_12, zu_13, zu_14, zu_15, zu_16, zu_17, zu_18, zu_19, zu_20, zu_21, zu_22, zu_23, zu_24, zu_25, zu_26, zu_27, zu_28, zu_29, zu_30, zu_90, zv_0_9, zv_1_9, zv_2_9, zv_3_9, zv_4_9, zv_5_9, zv_6_9, zv_7_9, zv_8_9, zv_0_330, zv_0_4544, zv_1_4544, zv_2_4544, zv_3_4544, zv_4_4544, zv_5_4544, zv_6_4544, zv_7_4544, zv_8_4544, zv_9_4544, zv_10_4544, zv_11_4544, zv_12_4544, zv_13_4544, zv_14_4544, zv_15_4544, zv_16_4544, zv_17_4544, zv_18_4544, zv_19_4544, zv_20_4544, zv_21_4544, zv_22_4544, zv_23_4544, zv_24_4544, zv_25_4544, zv_26_4544, zv_27_4544, zv_28_4544, zv_29_4544, zv_0_11, zv_1_11, zv_0_160, true_and, and_true, Nat.reduceAdd]
  refine zm_R_eq (gt 3 (by decide) M rfl) ?_
  simp only [bX12_nameApology_0, zw_0, zw_1, zs_aloadn0, zs_aloadNn0, zs_iloadn2, zs_iloadn1, zs_iconst, zi_12_304, zi_12_297, zg_12_32, zs_bipush, zg_12_7, zs_iaload, zs_isub, zs_iastore, zi_12_307, zs_return, zh_0, zh_1, zh_2, zh_3, zh_4, zt_i, zt_l, zt_r, zt_n, zn_int, zn_b0, zn_b1, zb_0, za_1, za_2, za_3, za_4, za_5, za_6, za_7, za_8, za_9, za_10, za_11, za_12, za_13, za_14, zu_0, zu_1, zu_2, zu_3, zu_4, zu_5, zu_6, zu_7, zu_8, zu_9, zu_10, zu_11, zu_12, zu_13, zu_14, zu_15, zu_16, zu_17, zu_18, zu_19, zu_20, zu_21, zu_22, zu_23, zu_24, zu_25, zu_26, zu_27, zu_28, zu_29, zu_30, zu_90, zv_0_9, zv_1_9, zv_2_9, zv_3_9, zv_4_9, zv_5_9, zv_6_9, zv_7_9, zv_8_9, zv_0_330, zv_0_4544, zv_1_4544, zv_2_4544, zv_3_4544, zv_4_4544, zv_5_4544, zv_6_4544, zv_7_4544, zv_8_4544, zv_9_4544, zv_10_4544, zv_11_4544, zv_12_4544, zv_13_4544, zv_14_4544, zv_15_4544, zv_16_4544, zv_17_4544, zv_18_4544, zv_19_4544, zv_20_4544, zv_21_4544, zv_22_4544, zv_23_4544, zv_24_4544, zv_25_4544, zv_26_4544, zv_27_4544, zv_28_4544, zv_29_4544, zv_0_11, zv_1_11, zv_0_160, true_and, and_true, Nat.reduceAdd]
  refine zm_R_eq (gt 0 (by decide) M rfl) ?_
  simp only [bX12_nameApology_0, zw_0, zw_1, zs_aloadn0, zs_aloadNn0, zs_iloadn2, zs_iloadn1, zs_iconst, zi_12_304, zi_12_297, zg_12_32, zs_bipush, zg_12_7, zs_iaload, zs_isub, zs_iastore, zi_12_307, zs_return, zh_0, zh_1, zh_2, zh_3, zh_4, zt_i, zt_l, zt_r, zt_n, zn_int, zn_b0, zn_b1, zb_0, za_1, za_2, za_3, za_4, za_5, za_6, za_7, za_8, za_9, za_10, za_11, za_12, za_13, za_14, zu_0, zu_1, zu_2, zu_3, zu_4, zu_5, zu_6, zu_7, zu_8, zu_9, zu_10, zu_11, zu_12, zu_13, zu_14, zu_15, zu_16, zu_17, zu_18, zu_19, zu_20, zu_21, zu_22, zu_23, zu_24, zu_25, zu_26, zu_27, zu_28, zu_29, zu_30, zu_90, zv_0_9, zv_1_9, zv_2_9, zv_3_9, zv_4_9, zv_5_9, zv_6_9, zv_7_9, zv_8_9, zv_0_330, zv_0_4544, zv_1_4544, zv_2_4544, zv_3_4544, zv_4_4544, zv_5_4544, zv_6_4544, zv_7_4544, zv_8_4544, zv_9_4544, zv_10_4544, zv_11_4544, zv_12_4544, zv_13_4544, zv_14_4544, zv_15_4544, zv_16_4544, zv_17_4544, zv_18_4544, zv_19_4544, zv_20_4544, zv_21_4544, zv_22_4544, zv_23_4544, zv_24_4544, zv_25_4544, zv_26_4544, zv_27_4544, zv_28_4544, zv_29_4544, zv_0_11, zv_1_11, zv_0_160, true_and, and_true, Nat.reduceAdd]
  refine zm_R_eq (gt 1 (by decide) M rfl) ?_
  simp only [bX12_nameApology_0, zw_0, zw_1, zs_aloadn0, zs_aloadNn0, zs_iloadn2, zs_iloadn1, zs_iconst, zi_12_304, zi_12_297, zg_12_32, zs_bipush, zg_12_7, zs_iaload, zs_isub, zs_iastore, zi_12_307, zs_return, zh_0, zh_1, zh_2, zh_3, zh_4, zt_i, zt_l, zt_r, zt_n, zn_int, zn_b0, zn_b1, zb_0, za_1, za_2, za_3, za_4, za_5, za_6, za_7, za_8, za_9, za_10, za_11, za_12, za_13, za_14, zu_0, zu_1, zu_2, zu_3, zu_4, zu_5, zu_6, zu_7, zu_8, zu_9, zu_10, zu_11, zu_12, zu_13, zu_14, zu_15, zu_16, zu_17, zu_18, zu_19, zu_20, zu_21, zu_22, zu_23, zu_24, zu_25, zu_26, zu_27, zu_28, zu_29, zu_30, zu_90, zv_0_9, zv_1_9, zv_2_9, zv_3_9, zv_4_9, zv_5_9, zv_6_9, zv_7_9, zv_8_9, zv_0_330, zv_0_4544, zv_1_4544, zv_2_4544, zv_3_4544, zv_4_4544, zv_5_4544, zv_6_4544, zv_7_4544, zv_8_4544, zv_9_4544, zv_10_4544, zv_11_4544, zv_12_4544, zv_13_4544, zv_14_4544, zv_15_4544, zv_16_4544, zv_17_4544, zv_18_4544, zv_19_4544, zv_20_4544, zv_21_4544, zv_22_4544, zv_23_4544, zv_24_4544, zv_25_4544, zv_26_4544, zv_27_4544, zv_28_4544, zv_29_4544, zv_0_11, zv_1_11, zv_0_160, true_and, and_true, Nat.reduceAdd]
  refine c_name hE d hp _ _ _ h9.1 (fun M1 e1 f1 => ?_)
  have a1 : M1.1 1 = M.1 1 := (f1 1 (by decide)).1
  have d6 : M1.1 1 6 = zWd S := by rw [a1]; exact hS.1
  simp only [bX12_nameApology_0, zw_0, zw_1, zs_aloadn0, zs_aloadNn0, zs_iloadn2, zs_iloadn1, zs_iconst, zi_12_304, zi_12_297, zg_12_32, zs_bipush, zg_12_7, zs_iaload, zs_isub, zs_iastore, zi_12_307, zs_return, zh_0, zh_1, zh_2, zh_3, zh_4, zt_i, zt_l, zt_r, zt_n, zn_int, zn_b0, zn_b1, zb_0, za_1, za_2, za_3, za_4, za_5, za_6, za_7, za_8, za_9, za_10, za_11, za_12, za_13, za_14, zu_0, zu_1, zu_2, zu_3, zu_4, zu_5, zu_6, zu_7, zu_8, zu_9, zu_10, zu_11, zu_12, zu_13, zu_14, zu_15, zu_16, zu_17, zu_18, zu_19, zu_20, zu_21, zu_22, zu_23, zu_24, zu_25, zu_26, zu_27, zu_28, zu_29, zu_30, zu_90, zv_0_9, zv_1_9, zv_2_9, zv_3_9, zv_4_9, zv_5_9, zv_6_9, zv_7_9, zv_8_9, zv_0_330, zv_0_4544, zv_1_4544, zv_2_4544, zv_3_4544, zv_4_4544, zv_5_4544, zv_6_4544, zv_7_4544, zv_8_4544, zv_9_4544, zv_10_4544, zv_11_4544, zv_12_4544, zv_13_4544, zv_14_4544, zv_15_4544, zv_16_4544, zv_17_4544, zv_18_4544, zv_19_4544, zv_20_4544, zv_21_4544, zv_22_4544, zv_23_4544, zv_24_4544, zv_25_4544, zv_26_4544, zv_27_4544, zv_28_4544, zv_29_4544, zv_0_11, zv_1_11, zv_0_160, true_and, and_true, Nat.reduceAdd, d6]
  refine zm_R_eq (gt 5 (by decide) M1 a1) ?_
  simp only [bX12_nameApology_0, zw_0, zw_1, zs_aloadn0, zs_aloadNn0, zs_iloadn2, zs_iloadn1, zs_iconst, zi_12_304, zi_12_297, zg_12_32, zs_bipush, zg_12_7, zs_iaload, zs_isub, zs_iastore, zi_12_307, zs_return, zh_0, zh_1, zh_2, zh_3, zh_4, zt_i, zt_l, zt_r, zt_n, zn_int, zn_b0, zn_b1, zb_0, za_1, za_2, za_3, za_4, za_5, za_6, za_7, za_8, za_9, za_10, za_11, za_12, za_13, za_14, zu_0, zu_1, zu_2, zu_3, zu_4, zu_5, zu_6, zu_7, zu_8, zu_9, zu_10, zu_11, zu_12, zu_13, zu_14, zu_15, zu_16, zu_17, zu_18, zu_19, zu_20, zu_21, zu_22, zu_23, zu_24, zu_25, zu_26, zu_27, zu_28, zu_29, zu_30, zu_90, zv_0_9, zv_1_9, zv_2_9, zv_3_9, zv_4_9, zv_5_9, zv_6_9, zv_7_9, zv_8_9, zv_0_330, zv_0_4544, zv_1_4544, zv_2_4544, zv_3_4544, zv_4_4544, zv_5_4544, zv_6_4544, zv_7_4544, zv_8_4544, zv_9_4544, zv_10_4544, zv_11_4544, zv_12_4544, zv_13_4544, zv_14_4544, zv_15_4544, zv_16_4544, zv_17_4544, zv_18_4544, zv_19_4544, zv_20_4544, zv_21_4544, zv_22_4544, zv_23_4544, zv_24_4544, zv_25_4544, zv_26_4544, zv_27_4544, zv_28_4544, zv_29_4544, zv_0_11, zv_1_11, zv_0_160, true_and, and_true, Nat.reduceAdd]
  have a2 : ∀ v, (zm_wi M1 6 7 v).1 1 = M.1 1 := fun v => by rw [zm_wi_other (by decide)]; exact a1
  refine zm_R_eq (c_deskOf hE d (m := zWn S) hs.1 (nI p) (nI k) (M := zm_wi M1 6 7 (zWd S - zWa S 5 k)) (by rw [a2]; exact hS.2.2.1)) ?_
  simp only [bX12_nameApology_0, zw_0, zw_1, zs_aloadn0, zs_aloadNn0, zs_iloadn2, zs_iloadn1, zs_iconst, zi_12_304, zi_12_297, zg_12_32, zs_bipush, zg_12_7, zs_iaload, zs_isub, zs_iastore, zi_12_307, zs_return, zh_0, zh_1, zh_2, zh_3, zh_4, zt_i, zt_l, zt_r, zt_n, zn_int, zn_b0, zn_b1, zb_0, za_1, za_2, za_3, za_4, za_5, za_6, za_7, za_8, za_9, za_10, za_11, za_12, za_13, za_14, zu_0, zu_1, zu_2, zu_3, zu_4, zu_5, zu_6, zu_7, zu_8, zu_9, zu_10, zu_11, zu_12, zu_13, zu_14, zu_15, zu_16, zu_17, zu_18, zu_19, zu_20, zu_21, zu_22, zu_23, zu_24, zu_25, zu_26, zu_27, zu_28, zu_29, zu_30, zu_90, zv_0_9, zv_1_9, zv_2_9, zv_3_9, zv_4_9, zv_5_9, zv_6_9, zv_7_9, zv_8_9, zv_0_330, zv_0_4544, zv_1_4544, zv_2_4544, zv_3_4544, zv_4_4544, zv_5_4544, zv_6_4544, zv_7_4544, zv_8_4544, zv_9_4544, zv_10_4544, zv_11_4544, zv_12_4544, zv_13_4544, zv_14_4544, zv_15_4544, zv_16_4544, zv_17_4544, zv_18_4544, zv_19_4544, zv_20_4544, zv_21_4544, zv_22_4544, zv_23_4544, zv_24_4544, zv_25_4544, zv_26_4544, zv_27_4544, zv_28_4544, zv_29_4544, zv_0_11, zv_1_11, zv_0_160, true_and, and_true, Nat.reduceAdd]
  have dk : zc_n (fun j => decide (¬ nI j = nI k) && zc_desk (zp (zm_wi M1 6 7 (zWd S - zWa S 5 k)) 2) (zp (zm_wi M1 6 7 (zWd S - zWa S 5 k)) 4) (nI p) j) (zWn S) = ze_dk S k p := by
    unfold ze_dk
    refine zc_n_c _ (fun j hj => ?_)
    unfold zc_desk
    rw [show zp (zm_wi M1 6 7 (zWd S - zWa S 5 k)) 2 j = zWa S 2 j by unfold zp; rw [a2]; exact zw_m_ap hS (by decide) hj, show zp (zm_wi M1 6 7 (zWd S - zWa S 5 k)) 4 j = zWa S 4 j by unfold zp; rw [a2]; exact zw_m_ap hS (by decide) hj]
  rw [dk]
  refine q _ (fun i hi => ?_) (zf_wi (zf_wi f1 (by decide)) (by decide))
  have m6 : M.1 1 6 = zWd S := hS.1
  have e100 : M.1 1 (100 + p) = pr p := h9.2.2.2.1 p hp
  have erk : zt_rk (fun i => M.1 1 (90 + i)) p = zt_rk b p := zt_rk_c h9.1 h9.2.2.1 p hp
  rw [zm_wi_same, zm_wi_same]
  by_cases c8 : i = 8
  · subst c8; rfl
  · rw [if_neg c8]
    by_cases c7 : i = 7
    · subst c7; rfl
    · rw [if_neg c7, e1 i hi, m6, e100, erk]
      rcases (show i = 0 ∨ i = 1 ∨ i = 2 ∨ i = 3 ∨ i = 4 ∨ i = 5 ∨ i = 6 by omega) with rfl | rfl | rfl | rfl | rfl | rfl | rfl <;> rfl
theorem zx_cutmn {x : Int32} {v : Int} (h : x.toInt = v) (h0 : 0 ≤ v) : zi_cut x.toInt64 0 9999 = ze_mn v := by
  have e := zx_cut (v := x.toInt64) (hi := 9999) (by decide)
  rw [Int32.toInt_toInt64, h, show (9999 : Int32).toInt = 9999 from rfl] at e
  rw [zx_i32eq, e]
  unfold ze_mn
  rw [if_neg (by omega)]
  by_cases c : 9999 < v
  · rw [if_pos c]; rfl
  · rw [if_neg c, nI_toInt (by omega)]; omega
theorem zm_sy {n w : Nat} {b pr : Nat → Int32} {T : Nat → Option zD} {M : zm_M} {f : Nat → Int32} (h9 : zm_s9 n b pr M) (hTo : zDo w (T w)) (hf : ∀ i, i < 9 → M.1 6 i = f i) : zq_said (T w) w (fun i => (M.1 6 i).toInt) (zq_rk n (fun i => M.1 1 (90 + i))) = ze_sy n b T w f := by
  unfold ze_sy
  rw [zq_rk_e h9.1 h9.2.2.1]
  refine zq_said_c hTo (fun i hi => ?_)
  have := zn_k_7 w
  rw [hf i (by omega)]
theorem c_wrw {E : zm_E} (hE : zm_ok E.2.2.1 E.2.2.2.2) (d : Nat) {k : Nat} {wr : Bool} (what : Int32) {M : zm_M} {S : zW} (hs : zw_sz S) (hk : k < zWn S) (hwr : M.1 0 23 = zi_b wr) (hS : zw_m M S) {Q : Option Value → zm_M → Prop} (q : ∀ M', zw_m M' (ze_wr wr S k what) → zh [] M M' → Q none M') : zm_R E (d + 2) mX12_write [.ref 0, .int (nI k), .int what] M Q := by
  refine c_write hE d what hs hk hS (fun M' h1 h2 => q M' ?_ h2)
  rw [hwr] at h1
  cases wr with
  | true => rw [if_neg (by decide)] at h1; exact h1
  | false => rw [if_pos (by decide)] at h1; exact h1
set_option maxHeartbeats 4000000 in
theorem c_goUp {E : zm_E} (hE : zm_ok E.2.2.1 E.2.2.2.2) (d : Nat) {n k : Nat} {wr : Bool} {b pr : Nat → Int32} {T : Nat → Option zD} {tx : Int32} {M : zm_M} {S : zW} (h9 : zm_s9 n b pr M) (htx : M.1 1 2 = tx) (hwr : M.1 0 23 = zi_b wr) (hT : ∀ w, w ≤ 2 → zm_T M tx w (T w)) (hTo : ∀ w, w ≤ 2 → zDo w (T w)) (hi : zw_i n b S) (hk : k < zWn S) (h0' : zWa S 4 k = 0) (hS : zw_m M S) {Q : Option Value → zm_M → Prop} (q : ∀ M', zw_m M' (ze_up wr n b pr T S k).1 → M'.1 0 24 = M.1 0 24 → M'.1 0 25 = (if (ze_up wr n b pr T S k).2 then M.1 0 25 ||| nI (2 ^ k) else M.1 0 25) → zR M M' → Q none M') : zm_R E (d + 6) mX12_goUp [.ref 0, .int (nI k)] M Q := by
  refine zX12_goUp hE rfl (fun G h0 h70 h118 h119 h154 => ?_)
  show G 0 [some (.ref 0), some (.int (nI k)), none, none] [] M
  have hbw : zt_wf n b := zt_wf_c h9.1 h9.2.2.1
  have hn10 := hbw.1
  have hs := hi.1
  have hk10 := hs.1
  obtain ⟨p, ep, hp, hbp, hi1, hn1, f, s', g, t, e3', bs', ef, bf, et, bt_, eg, bg, ab⟩ := ze_u1_i (pr := pr) (T := T) hbw hi hk h0'
  obtain ⟨f0, t0, a, s, hh, g0, x0, x1, x2, x3, x4, x5, bf0, bt0, ba, bs, bh, bg0, ab1, ab2, ab3⟩ := hi.2.2.2.1 k hk
  obtain ⟨X, hX, eX⟩ := hi.2.2.1
  have gt : ∀ (x : Nat) (hx : x < 7) (M1 : zm_M) (S1 : zW), zWn S1 = zWn S → zw_m M1 S1 → zm_R E (d + 5) mX12_get [.ref 0, .int (nI k), .int (nI x)] M1 (fun r M' => r = some (.int (zWa S1 x k)) ∧ M' = M1) := by
    intro x hx M1 S1 hn hS1
    have := c_gt hE (d + 4) (k := k) (by omega) x hx M1
    rw [show zp M1 x k = zWa S1 x k from zw_m_ap hS1 hx (by omega)] at this
    exact this
  obtain ⟨va, ca⟩ := zx_ck (k := 90) (p := a) (N := 4544) (by omega) (by decide)
  have mb : M.1 1 (90 + a) = nI p := by rw [h9.2.2.1 a ba, ← hbp, x2, nI_clamp (by omega)]
  have nmo := ze_nm_ok (k := k) (p := p) (pr := pr) hbw hi hk hp h9.2.2.2.2
  have up : ze_up wr n b pr T S k = if nI p = zWa S 1 k then (if ze_pd n b pr T (ze_u1 n b pr T S k p) k p then (ze_us wr (ze_u1 n b pr T S k p) k, true) else (ze_uf wr (ze_u1 n b pr T S k p) k, false)) else (ze_u1 n b pr T S k p, false) := by
    unfold ze_up; rw [ep]
  rw [up] at q
  refine h0 _ _ _ ?_
  simp only [bX12_goUp_0, zw_0, zw_1, zs_aloadn0, zs_aloadNn0, zg_12_7, zs_bipush, zs_iloadn1, zs_iconst, zi_12_304, zs_iadd, zs_iaload, zs_istoren2, zs_iloadn2, zi_12_316, zi_12_301, zs_i2l, zs_sipush, zi_12_289, zi_12_319, zs_iceq, zs_return, zc_none, zc_int, zc_ref, zc_null, zc_long, zh_0, zh_1, zh_2, zh_3, zh_4, zt_i, zt_l, zt_r, zt_n, zn_int, zn_b0, zn_b1, zb_0, za_1, za_2, za_3, za_4, za_5, za_6, za_7, za_8, za_9, za_10, za_11, za_12, za_13, za_14, zu_0, zu_1, zu_2, zu_3, zu_4, zu_5, zu_6, zu_7, zu_8, zu_9, zu_10, zu_11, zu_12, zu_13, zu_14, zu_15, zu_16, zu_17, zu_18, zu_19, zu_20, zu_21, zu_22, zu_23, zu_24, zu_25, zu_26, zu_27, zu_28, zu_29, zu_30, zu_90, zv_0_9, zv_1_9, zv_2_9, zv_3_9, zv_4_9, zv_5_9, zv_6_9, zv_7_9, zv_8_9, zv_0_330, zv_0_4544, zv_1_4544, zv_2_4544, zv_3_4544, zv_4_4544, zv_5_4544, zv_6_4544, zv_7_4544, zv_8_4544, zv_9_4544, zv_10_4544, zv_11_4544, zv_12_4544, zv_13_4544, zv_14_4544, zv_15_4544, zv_16_4544, zv_17_4544, zv_18_4544, zv_19_4544, zv_20_4544, zv_21_4544, zv_22_4544, zv_23_4544, zv_24_4544, zv_25_4544, zv_26_4544, zv_27_4544, zv_28_4544, zv_29_4544, zv_0_11, zv_1_11, zv_0_160, true_and, and_true, Nat.reduceAdd]
  refine zm_R_eq (gt 2 (by decide) M S rfl hS) ?_
  rw [x2]
  simp only [bX12_goUp_0, zw_0, zw_1, zs_aloadn0, zs_aloadNn0, zg_12_7, zs_bipush, zs_iloadn1, zs_iconst, zi_12_304, zs_iadd, zs_iaload, zs_istoren2, zs_iloadn2, zi_12_316, zi_12_301, zs_i2l, zs_sipush, zi_12_289, zi_12_319, zs_iceq, zs_return, zc_none, zc_int, zc_ref, zc_null, zc_long, zh_0, zh_1, zh_2, zh_3, zh_4, zt_i, zt_l, zt_r, zt_n, zn_int, zn_b0, zn_b1, zb_0, za_1, za_2, za_3, za_4, za_5, za_6, za_7, za_8, za_9, za_10, za_11, za_12, za_13, za_14, zu_0, zu_1, zu_2, zu_3, zu_4, zu_5, zu_6, zu_7, zu_8, zu_9, zu_10, zu_11, zu_12, zu_13, zu_14, zu_15, zu_16, zu_17, zu_18, zu_19, zu_20, zu_21, zu_22, zu_23, zu_24, zu_25, zu_26, zu_27, zu_28, zu_29, zu_30, zu_90, zv_0_9, zv_1_9, zv_2_9, zv_3_9, zv_4_9, zv_5_9, zv_6_9, zv_7_9, zv_8_9, zv_0_330, zv_0_4544, zv_1_4544, zv_2_4544, zv_3_4544, zv_4_4544, zv_5_4544, zv_6_4544, zv_7_4544, zv_8_4544, zv_9_4544, zv_10_4544, zv_11_4544, zv_12_4544, zv_13_4544, zv_14_4544, zv_15_4544, zv_16_4544, zv_17_4544, zv_18_4544, zv_19_4544, zv_20_4544, zv_21_4544, zv_22_4544, zv_23_4544, zv_24_4544, zv_25_4544, zv_26_4544, zv_27_4544, zv_28_4544, zv_29_4544, zv_0_11, zv_1_11, zv_0_160, true_and, and_true, Nat.reduceAdd, zx_boss, va, ca, mb]
  refine c_nameApology hE (d + 2) h9 hs hk hp hS (fun M1 e1 f1 => ?_)
  have R1 : zR M M1 := zR_f f1 (by simp)
  have a1 : M1.1 1 = M.1 1 := (f1 1 (by decide)).1
  have S1 : zw_m M1 S := zw_m_f hS a1
  simp only [bX12_goUp_0, zw_0, zw_1, zs_aloadn0, zs_aloadNn0, zg_12_7, zs_bipush, zs_iloadn1, zs_iconst, zi_12_304, zs_iadd, zs_iaload, zs_istoren2, zs_iloadn2, zi_12_316, zi_12_301, zs_i2l, zs_sipush, zi_12_289, zi_12_319, zs_iceq, zs_return, zc_none, zc_int, zc_ref, zc_null, zc_long, zh_0, zh_1, zh_2, zh_3, zh_4, zt_i, zt_l, zt_r, zt_n, zn_int, zn_b0, zn_b1, zb_0, za_1, za_2, za_3, za_4, za_5, za_6, za_7, za_8, za_9, za_10, za_11, za_12, za_13, za_14, zu_0, zu_1, zu_2, zu_3, zu_4, zu_5, zu_6, zu_7, zu_8, zu_9, zu_10, zu_11, zu_12, zu_13, zu_14, zu_15, zu_16, zu_17, zu_18, zu_19, zu_20, zu_21, zu_22, zu_23, zu_24, zu_25, zu_26, zu_27, zu_28, zu_29, zu_30, zu_90, zv_0_9, zv_1_9, zv_2_9, zv_3_9, zv_4_9, zv_5_9, zv_6_9, zv_7_9, zv_8_9, zv_0_330, zv_0_4544, zv_1_4544, zv_2_4544, zv_3_4544, zv_4_4544, zv_5_4544, zv_6_4544, zv_7_4544, zv_8_4544, zv_9_4544, zv_10_4544, zv_11_4544, zv_12_4544, zv_13_4544, zv_14_4544, zv_15_4544, zv_16_4544, zv_17_4544, zv_18_4544, zv_19_4544, zv_20_4544, zv_21_4544, zv_22_4544, zv_23_4544, zv_24_4544, zv_25_4544, zv_26_4544, zv_27_4544, zv_28_4544, zv_29_4544, zv_0_11, zv_1_11, zv_0_160, true_and, and_true, Nat.reduceAdd]
  refine zm_R_eq (gt 3 (by decide) M1 S rfl S1) ?_
  have t1 : M1.1 1 2 = tx := by rw [a1]; exact htx
  rw [x3]
  simp only [bX12_goUp_0, zw_0, zw_1, zs_aloadn0, zs_aloadNn0, zg_12_7, zs_bipush, zs_iloadn1, zs_iconst, zi_12_304, zs_iadd, zs_iaload, zs_istoren2, zs_iloadn2, zi_12_316, zi_12_301, zs_i2l, zs_sipush, zi_12_289, zi_12_319, zs_iceq, zs_return, zc_none, zc_int, zc_ref, zc_null, zc_long, zh_0, zh_1, zh_2, zh_3, zh_4, zt_i, zt_l, zt_r, zt_n, zn_int, zn_b0, zn_b1, zb_0, za_1, za_2, za_3, za_4, za_5, za_6, za_7, za_8, za_9, za_10, za_11, za_12, za_13, za_14, zu_0, zu_1, zu_2, zu_3, zu_4, zu_5, zu_6, zu_7, zu_8, zu_9, zu_10, zu_11, zu_12, zu_13, zu_14, zu_15, zu_16, zu_17, zu_18, zu_19, zu_20, zu_21, zu_22, zu_23, zu_24, zu_25, zu_26, zu_27, zu_28, zu_29, zu_30, zu_90, zv_0_9, zv_1_9, zv_2_9, zv_3_9, zv_4_9, zv_5_9, zv_6_9, zv_7_9, zv_8_9, zv_0_330, zv_0_4544, zv_1_4544, zv_2_4544, zv_3_4544, zv_4_4544, zv_5_4544, zv_6_4544, zv_7_4544, zv_8_4544, zv_9_4544, zv_10_4544, zv_11_4544, zv_12_4544, zv_13_4544, zv_14_4544, zv_15_4544, zv_16_4544, zv_17_4544, zv_18_4544, zv_19_4544, zv_20_4544, zv_21_4544, zv_22_4544, zv_23_4544, zv_24_4544, zv_25_4544, zv_26_4544, zv_27_4544, zv_28_4544, zv_29_4544, zv_0_11, zv_1_11, zv_0_160, true_and, and_true, Nat.reduceAdd, t1]
  have h91 := zm_s9_R h9 R1
  refine c_addsBy hE d h91.1 h91.2.1 (fun i hi9 => by rw [e1 i hi9]; exact nmo i) (zm_T_R (hT 0 (by decide)) R1) (fun y M2 hy f2 => ?_)
  rw [zm_sy h91 (hTo 0 (by decide)) e1] at hy
  have hsy := ze_sy_in n b T 0 (ze_nm b pr S k p)
  have top0 : zq_top 0 = 999 := rfl
  rw [top0] at hsy
  have R2 : zR M M2 := zR_trans R1 (zR_f f2 (by simp <;> omega))
  have S2 : zw_m M2 S := zw_m_f S1 (f2 1 (by decide)).1
  simp only [bX12_goUp_0, zw_0, zw_1, zs_aloadn0, zs_aloadNn0, zg_12_7, zs_bipush, zs_iloadn1, zs_iconst, zi_12_304, zs_iadd, zs_iaload, zs_istoren2, zs_iloadn2, zi_12_316, zi_12_301, zs_i2l, zs_sipush, zi_12_289, zi_12_319, zs_iceq, zs_return, zc_none, zc_int, zc_ref, zc_null, zc_long, zh_0, zh_1, zh_2, zh_3, zh_4, zt_i, zt_l, zt_r, zt_n, zn_int, zn_b0, zn_b1, zb_0, za_1, za_2, za_3, za_4, za_5, za_6, za_7, za_8, za_9, za_10, za_11, za_12, za_13, za_14, zu_0, zu_1, zu_2, zu_3, zu_4, zu_5, zu_6, zu_7, zu_8, zu_9, zu_10, zu_11, zu_12, zu_13, zu_14, zu_15, zu_16, zu_17, zu_18, zu_19, zu_20, zu_21, zu_22, zu_23, zu_24, zu_25, zu_26, zu_27, zu_28, zu_29, zu_30, zu_90, zv_0_9, zv_1_9, zv_2_9, zv_3_9, zv_4_9, zv_5_9, zv_6_9, zv_7_9, zv_8_9, zv_0_330, zv_0_4544, zv_1_4544, zv_2_4544, zv_3_4544, zv_4_4544, zv_5_4544, zv_6_4544, zv_7_4544, zv_8_4544, zv_9_4544, zv_10_4544, zv_11_4544, zv_12_4544, zv_13_4544, zv_14_4544, zv_15_4544, zv_16_4544, zv_17_4544, zv_18_4544, zv_19_4544, zv_20_4544, zv_21_4544, zv_22_4544, zv_23_4544, zv_24_4544, zv_25_4544, zv_26_4544, zv_27_4544, zv_28_4544, zv_29_4544, zv_0_11, zv_1_11, zv_0_160, true_and, and_true, Nat.reduceAdd]
  refine zm_R_eq (c_cut hE (d + 4) _ 0 9999 M2) ?_
  have hcut : zi_cut (nI s + y).toInt64 0 9999 = ze_mn ((zWa S 3 k).toInt + ze_sy n b T 0 (ze_nm b pr S k p)) := by
    rw [x3]
    refine zx_cutmn (zx_addI rfl hy ?_ ?_) ?_ <;> rw [nI_toInt (by omega)] <;> omega
  rw [hcut]
  simp only [bX12_goUp_0, zw_0, zw_1, zs_aloadn0, zs_aloadNn0, zg_12_7, zs_bipush, zs_iloadn1, zs_iconst, zi_12_304, zs_iadd, zs_iaload, zs_istoren2, zs_iloadn2, zi_12_316, zi_12_301, zs_i2l, zs_sipush, zi_12_289, zi_12_319, zs_iceq, zs_return, zc_none, zc_int, zc_ref, zc_null, zc_long, zh_0, zh_1, zh_2, zh_3, zh_4, zt_i, zt_l, zt_r, zt_n, zn_int, zn_b0, zn_b1, zb_0, za_1, za_2, za_3, za_4, za_5, za_6, za_7, za_8, za_9, za_10, za_11, za_12, za_13, za_14, zu_0, zu_1, zu_2, zu_3, zu_4, zu_5, zu_6, zu_7, zu_8, zu_9, zu_10, zu_11, zu_12, zu_13, zu_14, zu_15, zu_16, zu_17, zu_18, zu_19, zu_20, zu_21, zu_22, zu_23, zu_24, zu_25, zu_26, zu_27, zu_28, zu_29, zu_30, zu_90, zv_0_9, zv_1_9, zv_2_9, zv_3_9, zv_4_9, zv_5_9, zv_6_9, zv_7_9, zv_8_9, zv_0_330, zv_0_4544, zv_1_4544, zv_2_4544, zv_3_4544, zv_4_4544, zv_5_4544, zv_6_4544, zv_7_4544, zv_8_4544, zv_9_4544, zv_10_4544, zv_11_4544, zv_12_4544, zv_13_4544, zv_14_4544, zv_15_4544, zv_16_4544, zv_17_4544, zv_18_4544, zv_19_4544, zv_20_4544, zv_21_4544, zv_22_4544, zv_23_4544, zv_24_4544, zv_25_4544, zv_26_4544, zv_27_4544, zv_28_4544, zv_29_4544, zv_0_11, zv_1_11, zv_0_160, true_and, and_true, Nat.reduceAdd]
  refine c_mput hE (d + 4) (k := k) (x := 3) (by omega) (by decide) _ hs S2 (fun M3 _ S3 f3 => ?_)
  simp only [bX12_goUp_0, zw_0, zw_1, zs_aloadn0, zs_aloadNn0, zg_12_7, zs_bipush, zs_iloadn1, zs_iconst, zi_12_304, zs_iadd, zs_iaload, zs_istoren2, zs_iloadn2, zi_12_316, zi_12_301, zs_i2l, zs_sipush, zi_12_289, zi_12_319, zs_iceq, zs_return, zc_none, zc_int, zc_ref, zc_null, zc_long, zh_0, zh_1, zh_2, zh_3, zh_4, zt_i, zt_l, zt_r, zt_n, zn_int, zn_b0, zn_b1, zb_0, za_1, za_2, za_3, za_4, za_5, za_6, za_7, za_8, za_9, za_10, za_11, za_12, za_13, za_14, zu_0, zu_1, zu_2, zu_3, zu_4, zu_5, zu_6, zu_7, zu_8, zu_9, zu_10, zu_11, zu_12, zu_13, zu_14, zu_15, zu_16, zu_17, zu_18, zu_19, zu_20, zu_21, zu_22, zu_23, zu_24, zu_25, zu_26, zu_27, zu_28, zu_29, zu_30, zu_90, zv_0_9, zv_1_9, zv_2_9, zv_3_9, zv_4_9, zv_5_9, zv_6_9, zv_7_9, zv_8_9, zv_0_330, zv_0_4544, zv_1_4544, zv_2_4544, zv_3_4544, zv_4_4544, zv_5_4544, zv_6_4544, zv_7_4544, zv_8_4544, zv_9_4544, zv_10_4544, zv_11_4544, zv_12_4544, zv_13_4544, zv_14_4544, zv_15_4544, zv_16_4544, zv_17_4544, zv_18_4544, zv_19_4544, zv_20_4544, zv_21_4544, zv_22_4544, zv_23_4544, zv_24_4544, zv_25_4544, zv_26_4544, zv_27_4544, zv_28_4544, zv_29_4544, zv_0_11, zv_1_11, zv_0_160, true_and, and_true, Nat.reduceAdd]
  refine c_mput hE (d + 4) (k := k) (x := 2) (by omega) (by decide) (nI p) (S := zw_pt S 3 k (ze_mn ((zWa S 3 k).toInt + ze_sy n b T 0 (ze_nm b pr S k p)))) hs S3 (fun M4 _ S4 f4 => ?_)
  have S4 : zw_m M4 (ze_u1 n b pr T S k p) := S4
  have R4 : zR M M4 := zR_trans R2 (zR_trans (zR_h f3) (zR_h f4))
  simp only [bX12_goUp_0, zw_0, zw_1, zs_aloadn0, zs_aloadNn0, zg_12_7, zs_bipush, zs_iloadn1, zs_iconst, zi_12_304, zs_iadd, zs_iaload, zs_istoren2, zs_iloadn2, zi_12_316, zi_12_301, zs_i2l, zs_sipush, zi_12_289, zi_12_319, zs_iceq, zs_return, zc_none, zc_int, zc_ref, zc_null, zc_long, zh_0, zh_1, zh_2, zh_3, zh_4, zt_i, zt_l, zt_r, zt_n, zn_int, zn_b0, zn_b1, zb_0, za_1, za_2, za_3, za_4, za_5, za_6, za_7, za_8, za_9, za_10, za_11, za_12, za_13, za_14, zu_0, zu_1, zu_2, zu_3, zu_4, zu_5, zu_6, zu_7, zu_8, zu_9, zu_10, zu_11, zu_12, zu_13, zu_14, zu_15, zu_16, zu_17, zu_18, zu_19, zu_20, zu_21, zu_22, zu_23, zu_24, zu_25, zu_26, zu_27, zu_28, zu_29, zu_30, zu_90, zv_0_9, zv_1_9, zv_2_9, zv_3_9, zv_4_9, zv_5_9, zv_6_9, zv_7_9, zv_8_9, zv_0_330, zv_0_4544, zv_1_4544, zv_2_4544, zv_3_4544, zv_4_4544, zv_5_4544, zv_6_4544, zv_7_4544, zv_8_4544, zv_9_4544, zv_10_4544, zv_11_4544, zv_12_4544, zv_13_4544, zv_14_4544, zv_15_4544, zv_16_4544, zv_17_4544, zv_18_4544, zv_19_4544, zv_20_4544, zv_21_4544, zv_22_4544, zv_23_4544, zv_24_4544, zv_25_4544, zv_26_4544, zv_27_4544, zv_28_4544, zv_29_4544, zv_0_11, zv_1_11, zv_0_160, true_and, and_true, Nat.reduceAdd]
  refine zm_R_eq (gt 1 (by decide) M4 (ze_u1 n b pr T S k p) rfl S4) ?_
  rw [show zWa (ze_u1 n b pr T S k p) 1 k = zWa S 1 k from rfl]
  have c24 : M4.1 0 = M.1 0 := by
    rw [(f4.1 0 (by decide)).1, (f3.1 0 (by decide)).1, (f2 0 (by decide)).1, (f1 0 (by decide)).1]
  simp only [bX12_goUp_0, zw_0, zw_1, zs_aloadn0, zs_aloadNn0, zg_12_7, zs_bipush, zs_iloadn1, zs_iconst, zi_12_304, zs_iadd, zs_iaload, zs_istoren2, zs_iloadn2, zi_12_316, zi_12_301, zs_i2l, zs_sipush, zi_12_289, zi_12_319, zs_iceq, zs_return, zc_none, zc_int, zc_ref, zc_null, zc_long, zh_0, zh_1, zh_2, zh_3, zh_4, zt_i, zt_l, zt_r, zt_n, zn_int, zn_b0, zn_b1, zb_0, za_1, za_2, za_3, za_4, za_5, za_6, za_7, za_8, za_9, za_10, za_11, za_12, za_13, za_14, zu_0, zu_1, zu_2, zu_3, zu_4, zu_5, zu_6, zu_7, zu_8, zu_9, zu_10, zu_11, zu_12, zu_13, zu_14, zu_15, zu_16, zu_17, zu_18, zu_19, zu_20, zu_21, zu_22, zu_23, zu_24, zu_25, zu_26, zu_27, zu_28, zu_29, zu_30, zu_90, zv_0_9, zv_1_9, zv_2_9, zv_3_9, zv_4_9, zv_5_9, zv_6_9, zv_7_9, zv_8_9, zv_0_330, zv_0_4544, zv_1_4544, zv_2_4544, zv_3_4544, zv_4_4544, zv_5_4544, zv_6_4544, zv_7_4544, zv_8_4544, zv_9_4544, zv_10_4544, zv_11_4544, zv_12_4544, zv_13_4544, zv_14_4544, zv_15_4544, zv_16_4544, zv_17_4544, zv_18_4544, zv_19_4544, zv_20_4544, zv_21_4544, zv_22_4544, zv_23_4544, zv_24_4544, zv_25_4544, zv_26_4544, zv_27_4544, zv_28_4544, zv_29_4544, zv_0_11, zv_1_11, zv_0_160, true_and, and_true, Nat.reduceAdd]
  refine ⟨fun heq => ?_, fun hne => ?_⟩
  · rw [if_pos heq] at q
    have hsz4 : zw_sz (ze_u1 n b pr T S k p) := hs
    have h94 := zm_s9_R h9 R4
    refine h70 _ _ _ ?_
    simp only [bX12_goUp_70, zw_0, zw_1, zs_aloadn0, zs_aloadNn0, zs_iloadn1, zs_iloadn2, zi_12_316, zg_12_7, zs_bipush, zs_iaload, zs_irem, zs_iconst, zs_iadd, zs_isub, zi_12_293, zs_icge, zs_goto, zh_0, zh_1, zh_2, zh_3, zh_4, zt_i, zt_l, zt_r, zt_n, zb_0, za_1, za_2, za_3, za_4, za_5, za_6, za_7, za_8, za_9, za_10, za_11, za_12, za_13, za_14, zu_0, zu_1, zu_2, zu_3, zu_4, zu_5, zu_6, zu_7, zu_8, zu_9, zu_10, zu_11, zu_12, zu_13, zu_14, zu_15, zu_16, zu_17, zu_18, zu_19, zu_20, zu_21, zu_22, zu_23, zu_24, zu_25, zu_26, zu_27, zu_28, zu_29, zu_30, zu_90, zv_0_9, zv_1_9, zv_2_9, zv_3_9, zv_4_9, zv_5_9, zv_6_9, zv_7_9, zv_8_9, zv_0_330, zv_0_4544, zv_1_4544, zv_2_4544, zv_3_4544, zv_4_4544, zv_5_4544, zv_6_4544, zv_7_4544, zv_8_4544, zv_9_4544, zv_10_4544, zv_11_4544, zv_12_4544, zv_13_4544, zv_14_4544, zv_15_4544, zv_16_4544, zv_17_4544, zv_18_4544, zv_19_4544, zv_20_4544, zv_21_4544, zv_22_4544, zv_23_4544, zv_24_4544, zv_25_4544, zv_26_4544, zv_27_4544, zv_28_4544, zv_29_4544, zv_0_11, zv_1_11, zv_0_160, true_and, and_true, Nat.reduceAdd]
    refine c_nameApology hE (d + 2) (S := ze_u1 n b pr T S k p) h94 hs hk hp S4 (fun M5 e5 f5 => ?_)
    have R5 : zR M M5 := zR_trans R4 (zR_f f5 (by simp))
    have a5 : M5.1 1 = M4.1 1 := (f5 1 (by decide)).1
    have S5 : zw_m M5 (ze_u1 n b pr T S k p) := zw_m_f S4 a5
    have x7 : M5.1 1 7 = nI X := by rw [← eX]; exact S5.2.1
    have xr : nI X - nI X / 10 * 10 = nI (X % 10) := pk_rem (d := 10) (by omega) (by decide) (by decide)
    have t5 : M5.1 1 2 = tx := by rw [R5.2.1 2 (by unfold zh_in; omega)]; exact htx
    obtain ⟨vp, cp⟩ := zx_ck (k := 100) (p := p) (N := 4544) (by omega) (by decide)
    have p5 : M5.1 1 (100 + p) = pr p := by rw [R5.2.1 _ (by unfold zh_in; omega)]; exact h9.2.2.2.1 p hp
    have nm5 : ∀ i, i < 9 → zq_ok (M5.1 6 i).toInt := by
      intro i hi9
      rw [e5 i hi9]
      have old := nmo i
      have q1 : ∀ j, j ≠ 1 → j < 8 → ze_nm b pr (ze_u1 n b pr T S k p) k p j = ze_nm b pr S k p j := by
        intro j j1 j2
        rcases (show j = 0 ∨ j = 2 ∨ j = 3 ∨ j = 4 ∨ j = 5 ∨ j = 6 ∨ j = 7 by omega) with rfl | rfl | rfl | rfl | rfl | rfl | rfl <;> rfl
      by_cases c1 : i = 1
      · subst c1
        show zq_ok (zWa (ze_u1 n b pr T S k p) 3 k).toInt
        rw [e3', nI_toInt (by omega)]; exact ⟨by omega, by omega⟩
      · by_cases c8 : i = 8
        · subst c8
          show zq_ok (nI (ze_dk (ze_u1 n b pr T S k p) k p)).toInt
          have h8 : ze_dk (ze_u1 n b pr T S k p) k p ≤ zWn S := zc_n_le _ _
          rw [nI_toInt (by omega)]; exact ⟨by omega, by omega⟩
        · rw [q1 i c1 (by omega)]; exact old
    have h95 := zm_s9_R h9 R5
    simp only [bX12_goUp_70, zw_0, zw_1, zs_aloadn0, zs_aloadNn0, zs_iloadn1, zs_iloadn2, zi_12_316, zg_12_7, zs_bipush, zs_iaload, zs_irem, zs_iconst, zs_iadd, zs_isub, zi_12_293, zs_icge, zs_goto, zh_0, zh_1, zh_2, zh_3, zh_4, zt_i, zt_l, zt_r, zt_n, zb_0, za_1, za_2, za_3, za_4, za_5, za_6, za_7, za_8, za_9, za_10, za_11, za_12, za_13, za_14, zu_0, zu_1, zu_2, zu_3, zu_4, zu_5, zu_6, zu_7, zu_8, zu_9, zu_10, zu_11, zu_12, zu_13, zu_14, zu_15, zu_16, zu_17, zu_18, zu_19, zu_20, zu_21, zu_22, zu_23, zu_24, zu_25, zu_26, zu_27, zu_28, zu_29, zu_30, zu_90, zv_0_9, zv_1_9, zv_2_9, zv_3_9, zv_4_9, zv_5_9, zv_6_9, zv_7_9, zv_8_9, zv_0_330, zv_0_4544, zv_1_4544, zv_2_4544, zv_3_4544, zv_4_4544, zv_5_4544, zv_6_4544, zv_7_4544, zv_8_4544, zv_9_4544, zv_10_4544, zv_11_4544, zv_12_4544, zv_13_4544, zv_14_4544, zv_15_4544, zv_16_4544, zv_17_4544, zv_18_4544, zv_19_4544, zv_20_4544, zv_21_4544, zv_22_4544, zv_23_4544, zv_24_4544, zv_25_4544, zv_26_4544, zv_27_4544, zv_28_4544, zv_29_4544, zv_0_11, zv_1_11, zv_0_160, true_and, and_true, Nat.reduceAdd, x7, xr, t5, zx_100, vp, cp, p5]
    refine ⟨by decide, ?_⟩
    have hwo : (10 - pr p).toInt = zq_un 1 (fun i => (M5.1 6 i).toInt) := by
      have b3 := h9.2.2.2.2 p hp
      unfold zq_ok at b3
      unfold zq_un
      rw [if_neg (by decide), if_pos rfl]
      show (10 - pr p).toInt = 10 - (M5.1 6 3).toInt
      rw [show M5.1 6 3 = pr p from e5 3 (by decide)]
      exact zx_subI (x := 10) (y := (pr p).toInt) rfl rfl (by omega) (by omega)
    refine c_says hE (d + 1) (w := 1) (by decide) h95.1 h95.2.1 nm5 (zm_T_R (hT 1 (by decide)) R5) hwo rfl (fun z M6 hz f6 => ?_)
    rw [zm_sy h95 (hTo 1 (by decide)) e5] at hz
    have R6 : zR M M6 := zR_trans R5 (zR_f f6 (by simp <;> omega))
    have S6 : zw_m M6 (ze_u1 n b pr T S k p) := zw_m_f S5 (f6 1 (by decide)).1
    have c6 : M6.1 0 = M.1 0 := by rw [(f6 0 (by decide)).1, (f5 0 (by decide)).1]; exact c24
    have xx : zWx (ze_u1 n b pr T S k p) = nI X := eX
    have hcmp : (z ≤ nI (X % 10)) = (ze_sy n b T 1 (ze_nm b pr (ze_u1 n b pr T S k p) k p) ≤ ((X % 10 : Nat) : Int)) := by rw [zx_i32le, hz, nI_toInt (by omega)]
    have hpd : ze_pd n b pr T (ze_u1 n b pr T S k p) k p = decide (((X % 10 : Nat) : Int) < ze_sy n b T 1 (ze_nm b pr (ze_u1 n b pr T S k p) k p)) := by
      unfold ze_pd; rw [xx, nI_toInt (by omega)]; congr 1
    have j119 : ∀ pd : Bool, ze_pd n b pr T (ze_u1 n b pr T S k p) k p = pd → G 119 [some (.ref 0), some (.int (nI k)), some (.int (nI p)), none] [.int (zi_b pd)] M6 := by
      intro pd hpd2
      rw [hpd2] at q
      refine h119 _ _ _ ?_
      simp only [bX12_goUp_119, zw_0, zw_1, zs_istoren3, zs_aloadn0, zs_aloadNn0, zi_12_323, zs_iloadn3, zs_ifeq, zs_iloadn1, zs_iconst, zi_12_319, zs_dupi, zs_dupr, zs_dupn, zg_12_326, zs_ishl, zs_ior, zq_12_326, zi_12_329, zs_return, zc_none, zc_int, zc_ref, zc_null, zc_long, zh_0, zh_1, zh_2, zh_3, zh_4, zt_i, zt_l, zt_r, zt_n, zn_int, zn_b0, zn_b1, zb_0, za_1, za_2, za_3, za_4, za_5, za_6, za_7, za_8, za_9, za_10, za_11, za_12, za_13, za_14, true_and, and_true, Nat.reduceAdd]
      refine c_anew hE (d + 4) hX (S := ze_u1 n b pr T S k p) hs S6 xx (fun M7 S7 f7 => ?_)
      have R7 : zR M M7 := zR_trans R6 (zR_h f7)
      have c7 : M7.1 0 = M.1 0 := by rw [(f7.1 0 (by decide)).1]; exact c6
      simp only [bX12_goUp_119, zw_0, zw_1, zs_istoren3, zs_aloadn0, zs_aloadNn0, zi_12_323, zs_iloadn3, zs_ifeq, zs_iloadn1, zs_iconst, zi_12_319, zs_dupi, zs_dupr, zs_dupn, zg_12_326, zs_ishl, zs_ior, zq_12_326, zi_12_329, zs_return, zc_none, zc_int, zc_ref, zc_null, zc_long, zh_0, zh_1, zh_2, zh_3, zh_4, zt_i, zt_l, zt_r, zt_n, zn_int, zn_b0, zn_b1, zb_0, za_1, za_2, za_3, za_4, za_5, za_6, za_7, za_8, za_9, za_10, za_11, za_12, za_13, za_14, true_and, and_true, Nat.reduceAdd, zi_b0]
      refine ⟨fun hz0 => ?_, fun hz1 => ?_⟩
      · subst hz0
        refine h154 _ _ _ ?_
        simp only [bX12_goUp_154, zw_0, zw_1, zs_aloadn0, zs_aloadNn0, zs_iloadn1, zs_iconst, zi_12_304, zs_imul, zs_i2l, zs_sipush, zi_12_289, zi_12_319, zi_12_329, zs_return, zh_0, zh_1, zh_2, zh_3, zh_4, zt_i, zt_l, zt_r, zt_n, zn_int, zn_b0, zn_b1, zb_0, za_1, za_2, za_3, za_4, za_5, za_6, za_7, za_8, za_9, za_10, za_11, za_12, za_13, za_14, true_and, and_true, Nat.reduceAdd]
        refine zm_R_eq (gt 3 (by decide) M7 (zw_drw (ze_u1 n b pr T S k p)) rfl S7) ?_
        rw [show zWa (zw_drw (ze_u1 n b pr T S k p)) 3 k = nI s' from e3']
        simp only [bX12_goUp_154, zw_0, zw_1, zs_aloadn0, zs_aloadNn0, zs_iloadn1, zs_iconst, zi_12_304, zs_imul, zs_i2l, zs_sipush, zi_12_289, zi_12_319, zi_12_329, zs_return, zh_0, zh_1, zh_2, zh_3, zh_4, zt_i, zt_l, zt_r, zt_n, zn_int, zn_b0, zn_b1, zb_0, za_1, za_2, za_3, za_4, za_5, za_6, za_7, za_8, za_9, za_10, za_11, za_12, za_13, za_14, true_and, and_true, Nat.reduceAdd]
        refine zm_R_eq (c_cut hE (d + 4) _ 0 9999 M7) ?_
        have hcut2 : zi_cut (2 * nI s').toInt64 0 9999 = ze_mn ((zWa (ze_u1 n b pr T S k p) 3 k).toInt * 2) := by
          rw [e3', nI_toInt (by omega)]
          refine zx_cutmn ?_ (by omega)
          rw [show (2 : Int32) * nI s' = nI (2 * s') from pk_mul 2 _, nI_toInt (by omega)]; omega
        rw [hcut2]
        simp only [bX12_goUp_154, zw_0, zw_1, zs_aloadn0, zs_aloadNn0, zs_iloadn1, zs_iconst, zi_12_304, zs_imul, zs_i2l, zs_sipush, zi_12_289, zi_12_319, zi_12_329, zs_return, zh_0, zh_1, zh_2, zh_3, zh_4, zt_i, zt_l, zt_r, zt_n, zn_int, zn_b0, zn_b1, zb_0, za_1, za_2, za_3, za_4, za_5, za_6, za_7, za_8, za_9, za_10, za_11, za_12, za_13, za_14, true_and, and_true, Nat.reduceAdd]
        refine c_mput hE (d + 4) (k := k) (x := 3) (by omega) (by decide) _ (S := zw_drw (ze_u1 n b pr T S k p)) hs S7 (fun M8 _ S8 f8 => ?_)
        simp only [bX12_goUp_154, zw_0, zw_1, zs_aloadn0, zs_aloadNn0, zs_iloadn1, zs_iconst, zi_12_304, zs_imul, zs_i2l, zs_sipush, zi_12_289, zi_12_319, zi_12_329, zs_return, zh_0, zh_1, zh_2, zh_3, zh_4, zt_i, zt_l, zt_r, zt_n, zn_int, zn_b0, zn_b1, zb_0, za_1, za_2, za_3, za_4, za_5, za_6, za_7, za_8, za_9, za_10, za_11, za_12, za_13, za_14, true_and, and_true, Nat.reduceAdd]
        refine zm_R_eq (gt 0 (by decide) M8 (zw_pt (zw_drw (ze_u1 n b pr T S k p)) 3 k (ze_mn ((zWa (ze_u1 n b pr T S k p) 3 k).toInt * 2))) rfl S8) ?_
        simp only [bX12_goUp_154, zw_0, zw_1, zs_aloadn0, zs_aloadNn0, zs_iloadn1, zs_iconst, zi_12_304, zs_imul, zs_i2l, zs_sipush, zi_12_289, zi_12_319, zi_12_329, zs_return, zh_0, zh_1, zh_2, zh_3, zh_4, zt_i, zt_l, zt_r, zt_n, zn_int, zn_b0, zn_b1, zb_0, za_1, za_2, za_3, za_4, za_5, za_6, za_7, za_8, za_9, za_10, za_11, za_12, za_13, za_14, true_and, and_true, Nat.reduceAdd]
        refine c_mput hE (d + 4) (k := k) (x := 2) (by omega) (by decide) _ (S := zw_pt (zw_drw (ze_u1 n b pr T S k p)) 3 k (ze_mn ((zWa (ze_u1 n b pr T S k p) 3 k).toInt * 2))) hs S8 (fun M9 _ S9 f9 => ?_)
        have R9 : zR M M9 := zR_trans R7 (zR_trans (zR_h f8) (zR_h f9))
        simp only [bX12_goUp_154, zw_0, zw_1, zs_aloadn0, zs_aloadNn0, zs_iloadn1, zs_iconst, zi_12_304, zs_imul, zs_i2l, zs_sipush, zi_12_289, zi_12_319, zi_12_329, zs_return, zh_0, zh_1, zh_2, zh_3, zh_4, zt_i, zt_l, zt_r, zt_n, zn_int, zn_b0, zn_b1, zb_0, za_1, za_2, za_3, za_4, za_5, za_6, za_7, za_8, za_9, za_10, za_11, za_12, za_13, za_14, true_and, and_true, Nat.reduceAdd]
        refine c_wrw hE (d + 3) 1 (wr := wr) (S := zw_pt (zw_pt (zw_drw (ze_u1 n b pr T S k p)) 3 k (ze_mn ((zWa (ze_u1 n b pr T S k p) 3 k).toInt * 2))) 2 k (zWa (ze_u1 n b pr T S k p) 0 k)) hs hk (by rw [R9.2.2 23 (by decide) (by decide)]; exact hwr) S9 (fun Ma Sa fa => ?_)
        simp only [bX12_goUp_154, zw_0, zw_1, zs_aloadn0, zs_aloadNn0, zs_iloadn1, zs_iconst, zi_12_304, zs_imul, zs_i2l, zs_sipush, zi_12_289, zi_12_319, zi_12_329, zs_return, zh_0, zh_1, zh_2, zh_3, zh_4, zt_i, zt_l, zt_r, zt_n, zn_int, zn_b0, zn_b1, zb_0, za_1, za_2, za_3, za_4, za_5, za_6, za_7, za_8, za_9, za_10, za_11, za_12, za_13, za_14, true_and, and_true, Nat.reduceAdd]
        have ca0 : Ma.1 0 = M.1 0 := by rw [(fa.1 0 (by decide)).1, (f9.1 0 (by decide)).1, (f8.1 0 (by decide)).1]; exact c7
        exact q Ma Sa (by rw [ca0]) (by rw [ca0]; rfl) (zR_trans R9 (zR_h fa))
      · have hz1 : pd = true := by simpa using hz1
        subst hz1
        refine c_mput hE (d + 4) (k := k) (x := 4) (by omega) (by decide) 1 (S := zw_drw (ze_u1 n b pr T S k p)) hs S7 (fun M8 _ S8 f8 => ?_)
        have R8 : zR M M8 := zR_trans R7 (zR_h f8)
        have c8 : M8.1 0 = M.1 0 := by rw [(f8.1 0 (by decide)).1]; exact c7
        have sh := zx_1s k (by omega)
        simp only [bX12_goUp_119, zw_0, zw_1, zs_istoren3, zs_aloadn0, zs_aloadNn0, zi_12_323, zs_iloadn3, zs_ifeq, zs_iloadn1, zs_iconst, zi_12_319, zs_dupi, zs_dupr, zs_dupn, zg_12_326, zs_ishl, zs_ior, zq_12_326, zi_12_329, zs_return, zc_none, zc_int, zc_ref, zc_null, zc_long, zh_0, zh_1, zh_2, zh_3, zh_4, zt_i, zt_l, zt_r, zt_n, zn_int, zn_b0, zn_b1, zb_0, za_1, za_2, za_3, za_4, za_5, za_6, za_7, za_8, za_9, za_10, za_11, za_12, za_13, za_14, true_and, and_true, Nat.reduceAdd, c8, sh]
        have S9 : zw_m (zm_wi M8 0 25 (M.1 0 25 ||| nI (2 ^ k))) (zw_pt (zw_drw (ze_u1 n b pr T S k p)) 4 k 1) := zw_m_f S8 (zm_wi_other (by decide))
        have R9 : zR M (zm_wi M8 0 25 (M.1 0 25 ||| nI (2 ^ k))) := zR_trans R8 (zR_0 (Or.inr rfl))
        refine c_wrw hE (d + 3) 0 (wr := wr) (S := zw_pt (zw_drw (ze_u1 n b pr T S k p)) 4 k 1) hs hk (by rw [R9.2.2 23 (by decide) (by decide)]; exact hwr) S9 (fun Ma Sa fa => ?_)
        simp only [bX12_goUp_119, zw_0, zw_1, zs_istoren3, zs_aloadn0, zs_aloadNn0, zi_12_323, zs_iloadn3, zs_ifeq, zs_iloadn1, zs_iconst, zi_12_319, zs_dupi, zs_dupr, zs_dupn, zg_12_326, zs_ishl, zs_ior, zq_12_326, zi_12_329, zs_return, zc_none, zc_int, zc_ref, zc_null, zc_long, zh_0, zh_1, zh_2, zh_3, zh_4, zt_i, zt_l, zt_r, zt_n, zn_int, zn_b0, zn_b1, zb_0, za_1, za_2, za_3, za_4, za_5, za_6, za_7, za_8, za_9, za_10, za_11, za_12, za_13, za_14, true_and, and_true, Nat.reduceAdd]
        have ca0 : Ma.1 0 = (zm_wi M8 0 25 (M.1 0 25 ||| nI (2 ^ k))).1 0 := (fa.1 0 (by decide)).1
        exact q Ma Sa (by rw [ca0, zm_wi_same, if_neg (by decide), c8]) (by rw [ca0, zm_wi_same, if_pos rfl]; rfl) (zR_trans R9 (zR_h fa))
    simp only [bX12_goUp_70, zw_0, zw_1, zs_aloadn0, zs_aloadNn0, zs_iloadn1, zs_iloadn2, zi_12_316, zg_12_7, zs_bipush, zs_iaload, zs_irem, zs_iconst, zs_iadd, zs_isub, zi_12_293, zs_icge, zs_goto, zh_0, zh_1, zh_2, zh_3, zh_4, zt_i, zt_l, zt_r, zt_n, zb_0, za_1, za_2, za_3, za_4, za_5, za_6, za_7, za_8, za_9, za_10, za_11, za_12, za_13, za_14, zu_0, zu_1, zu_2, zu_3, zu_4, zu_5, zu_6, zu_7, zu_8, zu_9, zu_10, zu_11, zu_12, zu_13, zu_14, zu_15, zu_16, zu_17, zu_18, zu_19, zu_20, zu_21, zu_22, zu_23, zu_24, zu_25, zu_26, zu_27, zu_28, zu_29, zu_30, zu_90, zv_0_9, zv_1_9, zv_2_9, zv_3_9, zv_4_9, zv_5_9, zv_6_9, zv_7_9, zv_8_9, zv_0_330, zv_0_4544, zv_1_4544, zv_2_4544, zv_3_4544, zv_4_4544, zv_5_4544, zv_6_4544, zv_7_4544, zv_8_4544, zv_9_4544, zv_10_4544, zv_11_4544, zv_12_4544, zv_13_4544, zv_14_4544, zv_15_4544, zv_16_4544, zv_17_4544, zv_18_4544, zv_19_4544, zv_20_4544, zv_21_4544, zv_22_4544, zv_23_4544, zv_24_4544, zv_25_4544, zv_26_4544, zv_27_4544, zv_28_4544, zv_29_4544, zv_0_11, zv_1_11, zv_0_160, true_and, and_true, Nat.reduceAdd, hcmp]
    refine ⟨fun hge => ?_, fun hlt => j119 true (by rw [hpd, decide_eq_true (by omega)])⟩
    refine h118 _ _ _ ?_
    simp only [bX12_goUp_118, zw_0, zw_1, zs_iconst, zb_0, za_1, za_2, za_3, za_4, za_5, za_6, za_7, za_8, za_9, za_10, za_11, za_12, za_13, za_14, true_and, and_true, Nat.reduceAdd]
    exact j119 false (by rw [hpd, decide_eq_false (by omega)])
  · rw [if_neg hne] at q
    exact q M4 S4 (by rw [c24]) (by rw [c24]; rfl) R4
