/-! ===== days that pass: the reference ===== -/
theorem zx_ex (x : Int32) : ∃ c, x = nI c := ⟨x.toBitVec.toNat, Int32.toBitVec_inj.mp (by unfold nI; simp)⟩
def zmg (M M' : zm_M) : Prop := zf [0, 1, 6, 7, 8] M M' ∧ (∀ j, ¬ zP_m j → M'.1 1 j = M.1 1 j) ∧ (∀ j, j ≠ 24 → j ≠ 25 → M'.1 0 j = M.1 0 j)
theorem zmg_refl {M : zm_M} : zmg M M := ⟨zf_refl, fun _ _ => rfl, fun _ _ _ => rfl⟩
theorem zmg_trans {M M' M'' : zm_M} (h : zmg M M') (h2 : zmg M' M'') : zmg M M'' := ⟨zf_trans h.1 h2.1, fun j hj => (h2.2.1 j hj).trans (h.2.1 j hj), fun j a b => (h2.2.2 j a b).trans (h.2.2 j a b)⟩
theorem zmg_R {M M' : zm_M} (h : zR M M') : zmg M M' := ⟨h.1, fun j hj => h.2.1 j (fun z => hj (by unfold zh_in at z; unfold zP_m; omega)), h.2.2⟩
theorem zmg_m {M M' : zm_M} (h : zmf M M') : zmg M M' := ⟨zf_sub h.1 (by simp), h.2, fun j _ _ => by rw [(h.1 0 (by decide)).1]⟩
def zMs (n tn : Nat) (b pr : Nat → Int32) (T : Nat → Option zD) (S : zW) (s : Nat) (H : Nat → zW) (M : zm_M) : Prop := zm_s9 n b pr M ∧ M.1 1 1 = nI tn ∧ (∀ w, w ≤ 2 → zm_T M (M.1 1 2) w (T w)) ∧ zw_m M S ∧ zk_m M 1 s H ∧ M.1 0 23 = 1
theorem zm_s9_g {n : Nat} {b pr : Nat → Int32} {M M' : zm_M} (h : zm_s9 n b pr M) (hr : zmg M M') : zm_s9 n b pr M' := by
  obtain ⟨a1, a2, a3, a4, a5⟩ := h
  have hn := a1.1
  have e9 : ∀ i, i < n → M'.1 1 (90 + i) = M.1 1 (90 + i) := fun i hi => hr.2.1 _ (by unfold zP_m; omega)
  exact ⟨zt_wf_c a1 (fun i hi => (e9 i hi).symm), by rw [hr.2.1 0 (by unfold zP_m; omega)]; exact a2, fun i hi => (e9 i hi).trans (a3 i hi), fun i hi => by rw [hr.2.1 _ (by unfold zP_m; omega)]; exact a4 i hi, a5⟩
theorem zMs_g {n tn s s' : Nat} {b pr : Nat → Int32} {T : Nat → Option zD} {S S' : zW} {H H' : Nat → zW} {M M' : zm_M} (h : zMs n tn b pr T S s H M) (hr : zmg M M') (hS : zw_m M' S') (hk : zk_m M' 1 s' H') : zMs n tn b pr T S' s' H' M' := by
  obtain ⟨a1, a2, a3, a4, a5, a6⟩ := h
  exact ⟨zm_s9_g a1 hr, by rw [hr.2.1 1 (by unfold zP_m; omega)]; exact a2, fun w hw => by rw [hr.2.1 2 (by unfold zP_m; omega)]; exact zm_T_c (a3 w hw) (hr.1 3 (by decide)).1, hS, hk, by rw [hr.2.2 23 (by decide) (by decide)]; exact a6⟩
theorem zk_m_R {M M' : zm_M} {s : Nat} {H : Nat → zW} (hH : ∀ i, i < s → zw_sz (H i)) (h : zk_m M 1 s H) (e : zR M M') : zk_m M' 1 s H := by
  obtain ⟨k1, k2, k3⟩ := h
  refine ⟨by rw [e.2.1 3 (by unfold zh_in; omega)]; exact k1, k2, fun i hi => zw_r_c (hH i hi) (k3 i hi) (fun k hk => e.2.1 _ (by unfold zh_in; omega)) (fun k hk => e.2.1 _ (by unfold zh_in; omega))⟩
theorem c_arePassed {E : zm_E} (hE : zm_ok E.2.2.1 E.2.2.2.2) (d : Nat) {n tn s f dd : Nat} (hf60 : f ≤ 60) {b pr : Nat → Int32} {T : Nat → Option zD} {S : zW} {H : Nat → zW} {M : zm_M} (hA : zAl n b T S s H) (hdd : dd ≤ 9999) (hd : zWd S = nI dd) (hC : zMs n tn b pr T S s H M) {Q : Option Value → zm_M → Prop} (q : ∀ M', zMs n tn b pr T (ze_days n b pr T f S s H).1 (ze_days n b pr T f S s H).2.1 (ze_days n b pr T f S s H).2.2.1 M' → M'.1 0 24 = nI (ze_days n b pr T f S s H).2.2.2 → zmg M M' → Q (some (.int (zi_b (decide (dd + f ≤ 9999))))) M') : zm_R E (d + 8) mX12_arePassed [.ref 0, .int (nI f)] M Q := by
  refine zX12_arePassed hE rfl (fun G h0 h7 h27 h41 => ?_)
  show G 0 [some (.ref 0), some (.int (nI f)), none] [] M
  have loop : ∀ (g i c d1 : Nat) (S1 : zW) (s1 : Nat) (H1 : Nat → zW) (M1 : zm_M), i + g = f → d1 = dd + i → d1 ≤ 9999 → zWd S1 = nI d1 → zAl n b T S1 s1 H1 → zMs n tn b pr T S1 s1 H1 M1 → M1.1 0 24 = nI c → zmg M M1 → (ze_days n b pr T g S1 s1 H1).1 = (ze_days n b pr T f S s H).1 → (ze_days n b pr T g S1 s1 H1).2.1 = (ze_days n b pr T f S s H).2.1 → (ze_days n b pr T g S1 s1 H1).2.2.1 = (ze_days n b pr T f S s H).2.2.1 → c + (ze_days n b pr T g S1 s1 H1).2.2.2 = (ze_days n b pr T f S s H).2.2.2 → G 7 [some (.ref 0), some (.int (nI f)), some (.int (nI i))] [] M1 := by
    intro g
    induction g with
    | zero =>
      intro i c d1 S1 s1 H1 M1 hi hd1 hd9 hdS hA1 hC1 hc g1 e1 e2 e3 e4
      refine h7 _ _ _ ?_
      simp only [bX12_arePassed_7, zw_0, zw_1, zs_iloadn2, zs_iloadn1, zs_icge, zs_aloadn0, zs_aloadNn0, zg_12_7, zs_bipush, zs_iaload, zs_sipush, zs_icne, zs_iconst, zs_ireturn, zn_int, zn_b0, zn_b1, zb_0, za_1, za_2, za_3, za_4, za_5, za_6, za_7, za_8, za_9, za_10, za_11, za_12, za_13, za_14, zu_0, zu_1, zu_2, zu_3, zu_4, zu_5, zu_6, zu_7, zu_8, zu_9, zu_10, zu_11, zu_12, zu_13, zu_14, zu_15, zu_16, zu_17, zu_18, zu_19, zu_20, zu_21, zu_22, zu_23, zu_24, zu_25, zu_26, zu_27, zu_28, zu_29, zu_30, zu_90, zv_0_9, zv_1_9, zv_2_9, zv_3_9, zv_4_9, zv_5_9, zv_6_9, zv_7_9, zv_8_9, zv_0_330, zv_0_4544, zv_1_4544, zv_2_4544, zv_3_4544, zv_4_4544, zv_5_4544, zv_6_4544, zv_7_4544, zv_8_4544, zv_9_4544, zv_10_4544, zv_11_4544, zv_12_4544, zv_13_4544, zv_14_4544, zv_15_4544, zv_16_4544, zv_17_4544, zv_18_4544, zv_19_4544, zv_20_4544, zv_21_4544, zv_22_4544, zv_23_4544, zv_24_4544, zv_25_4544, zv_26_4544, zv_27_4544, zv_28_4544, zv_29_4544, zv_0_11, zv_1_11, zv_0_160, true_and, and_true, Nat.reduceAdd]
      refine ⟨fun _ => ?_, fun h => absurd (nI_le (by omega) (by omega)) h⟩
      refine h41 _ _ _ ?_
      simp only [bX12_arePassed_41, zw_0, zw_1, zs_iconst, zs_ireturn, zn_int, zn_b0, zn_b1, zb_0, za_1, za_2, za_3, za_4, za_5, za_6, za_7, za_8, za_9, za_10, za_11, za_12, za_13, za_14, true_and, and_true, Nat.reduceAdd]
      have := q M1 (by rw [← e1, ← e2, ← e3]; exact hC1) (by rw [← e4]; exact hc) g1
      rw [decide_eq_true (by omega)] at this
      exact this
    | succ g ih =>
      intro i c d1 S1 s1 H1 M1 hi hd1 hd9 hdS hA1 hC1 hc g1 e1 e2 e3 e4
      have m6 : M1.1 1 6 = nI d1 := by rw [← hdS]; exact hC1.2.2.2.1.1
      have c9 : (nI d1 = 9999) = (d1 = 9999) := propext (nI_eq (b := 9999) (by omega) (by decide))
      simp only [ze_days, hdS, c9] at e1 e2 e3 e4
      refine h7 _ _ _ ?_
      simp only [bX12_arePassed_7, zw_0, zw_1, zs_iloadn2, zs_iloadn1, zs_icge, zs_aloadn0, zs_aloadNn0, zg_12_7, zs_bipush, zs_iaload, zs_sipush, zs_icne, zs_iconst, zs_ireturn, zn_int, zn_b0, zn_b1, zb_0, za_1, za_2, za_3, za_4, za_5, za_6, za_7, za_8, za_9, za_10, za_11, za_12, za_13, za_14, zu_0, zu_1, zu_2, zu_3, zu_4, zu_5, zu_6, zu_7, zu_8, zu_9, zu_10, zu_11, zu_12, zu_13, zu_14, zu_15, zu_16, zu_17, zu_18, zu_19, zu_20, zu_21, zu_22, zu_23, zu_24, zu_25, zu_26, zu_27, zu_28, zu_29, zu_30, zu_90, zv_0_9, zv_1_9, zv_2_9, zv_3_9, zv_4_9, zv_5_9, zv_6_9, zv_7_9, zv_8_9, zv_0_330, zv_0_4544, zv_1_4544, zv_2_4544, zv_3_4544, zv_4_4544, zv_5_4544, zv_6_4544, zv_7_4544, zv_8_4544, zv_9_4544, zv_10_4544, zv_11_4544, zv_12_4544, zv_13_4544, zv_14_4544, zv_15_4544, zv_16_4544, zv_17_4544, zv_18_4544, zv_19_4544, zv_20_4544, zv_21_4544, zv_22_4544, zv_23_4544, zv_24_4544, zv_25_4544, zv_26_4544, zv_27_4544, zv_28_4544, zv_29_4544, zv_0_11, zv_1_11, zv_0_160, true_and, and_true, Nat.reduceAdd, m6, c9]
      refine ⟨fun h => absurd h (nI_ge (by omega) (by omega)), fun _ => ⟨fun h9 => ?_, fun h9 => ?_⟩⟩
      · simp only [h9, if_false] at e1 e2 e3 e4
        have h9' : ¬ zWd S1 = 9999 := by rw [hdS]; exact fun z => h9 ((nI_eq (b := 9999) (by omega) (by decide)).mp z)
        refine h27 _ _ _ ?_
        simp only [bX12_arePassed_27, zw_0, zw_1, zs_aloadn0, zs_aloadNn0, zi_12_356, zi_12_368, zs_iinc2, zs_goto, zc_none, zc_int, zc_ref, zc_null, zc_long, zh_0, zh_1, zh_2, zh_3, zh_4, zt_i, zt_l, zt_r, zt_n, zb_0, za_1, za_2, za_3, za_4, za_5, za_6, za_7, za_8, za_9, za_10, za_11, za_12, za_13, za_14, true_and, and_true, Nat.reduceAdd]
        refine c_keep hE (d + 6) hA1.2.2.1.1 (fun i hi => (hA1.2.2.2 i hi).1) hC1.2.2.2.1 hC1.2.2.2.2.1 (fun M2 a1 a2 a3 a4 => ?_)
        have g2 : zmg M1 M2 := zmg_m (zmf_k a3 a4)
        have C2 := zMs_g hC1 g2 a1 a2
        obtain ⟨P, hP⟩ := zx_ex (M2.1 0 25)
        simp only [bX12_arePassed_27, zw_0, zw_1, zs_aloadn0, zs_aloadNn0, zi_12_356, zi_12_368, zs_iinc2, zs_goto, zc_none, zc_int, zc_ref, zc_null, zc_long, zh_0, zh_1, zh_2, zh_3, zh_4, zt_i, zt_l, zt_r, zt_n, zb_0, za_1, za_2, za_3, za_4, za_5, za_6, za_7, za_8, za_9, za_10, za_11, za_12, za_13, za_14, true_and, and_true, Nat.reduceAdd]
        refine c_pass hE d (wr := true) (c := c) (P := P) (tx := M2.1 1 2) C2.1 rfl C2.2.2.2.2.2 (by rw [(a3 0 (by decide)).1]; exact hc) hP C2.2.2.1 hA1.2.1 hA1.2.2.1 a1 (fun M3 b1 b2 b3 b4 => ?_)
        have C3 := zMs_g C2 (zmg_R b4) b1 (zk_m_R (fun i hi => (zk_i hA1.2.2.1 hA1.2.2.2 i hi).1) a2 b4)
        simp only [bX12_arePassed_27, zw_0, zw_1, zs_aloadn0, zs_aloadNn0, zi_12_356, zi_12_368, zs_iinc2, zs_goto, zc_none, zc_int, zc_ref, zc_null, zc_long, zh_0, zh_1, zh_2, zh_3, zh_4, zt_i, zt_l, zt_r, zt_n, zb_0, za_1, za_2, za_3, za_4, za_5, za_6, za_7, za_8, za_9, za_10, za_11, za_12, za_13, za_14, true_and, and_true, Nat.reduceAdd, nI_1]
        exact ih (i + 1) _ (d1 + 1) _ _ _ M3 (by omega) (by omega) (by omega) (by rw [ze_ps_d, hdS, nI_1]) (zAl_st hA1 h9') C3 b2 (zmg_trans g1 (zmg_trans g2 (zmg_R b4))) e1 e2 e3 (by rw [Nat.add_assoc]; exact e4)
      · simp only [h9, if_true] at e1 e2 e3 e4
        have := q M1 (by rw [← e1, ← e2, ← e3]; exact hC1) (by rw [← e4]; exact hc) g1
        rw [decide_eq_false (by omega)] at this
        exact this
  refine h0 _ _ _ ?_
  simp only [bX12_arePassed_0, zw_0, zw_1, zs_aloadn0, zs_aloadNn0, zs_iconst, zq_12_332, zs_istoren2, zc_none, zc_int, zc_ref, zc_null, zc_long, zb_0, za_1, za_2, za_3, za_4, za_5, za_6, za_7, za_8, za_9, za_10, za_11, za_12, za_13, za_14, true_and, and_true, Nat.reduceAdd]
  have R0 : zmg M (zm_wi M 0 24 0) := zmg_R (zR_0 (Or.inl rfl))
  have C0 := zMs_g hC R0 (zw_m_f hC.2.2.2.1 (zm_wi_other (by decide))) (zk_m_R (fun i hi => (hA.2.2.2 i hi).1) hC.2.2.2.2.1 (zR_0 (Or.inl rfl)))
  exact loop f 0 0 dd S s H _ (by omega) (by omega) hdd hd hA C0 (by rw [zm_wi_same, if_pos rfl]; rfl) R0 rfl rfl rfl (by omega)
theorem c_day {E : zm_E} (hE : zm_ok E.2.2.1 E.2.2.2.2) (d : Nat) {n tn s dd : Nat} (v : Int32) {b pr : Nat → Int32} {T : Nat → Option zD} {S : zW} {H : Nat → zW} {M : zm_M} (hA : zAl n b T S s H) (hdd : dd ≤ 9999) (hd : zWd S = nI dd) (hC : zMs n tn b pr T S s H M) {Q : Option Value → zm_M → Prop} (q1 : (zi_in v 1 60 = 0 ∨ ∃ f, f ≤ 60 ∧ v = nI f ∧ 9999 < dd + f) → Q (some (.int (-1))) M) (q2 : ∀ f M', 1 ≤ f → f ≤ 60 → v = nI f → dd + f ≤ 9999 → zMs n tn b pr T (ze_days n b pr T f S s H).1 (ze_days n b pr T f S s H).2.1 (ze_days n b pr T f S s H).2.2.1 M' → zmg M M' → Q (some (.int (nI (ze_days n b pr T f S s H).2.2.2))) M') : zm_R E (d + 9) mX12_day [.ref 0, .int v] M Q := by
  refine zX12_day hE rfl (fun G h0 h40 h41 => ?_)
  show G 0 [some (.ref 0), some (.int v)] [] M
  have bad : (zi_in v 1 60 = 0 ∨ ∃ f, f ≤ 60 ∧ v = nI f ∧ 9999 < dd + f) → G 40 [some (.ref 0), some (.int v)] [] M := by
    intro h
    refine h40 _ _ _ ?_
    simp only [bX12_day_40, zw_0, zw_1, zs_iconst, zb_0, za_1, za_2, za_3, za_4, za_5, za_6, za_7, za_8, za_9, za_10, za_11, za_12, za_13, za_14, true_and, and_true, Nat.reduceAdd]
    refine h41 _ _ _ ?_
    simp only [bX12_day_41, zw_0, zw_1, zs_ireturn, zn_int, zn_b0, zn_b1, zb_0, za_1, za_2, za_3, za_4, za_5, za_6, za_7, za_8, za_9, za_10, za_11, za_12, za_13, za_14, true_and, and_true, Nat.reduceAdd]
    exact q1 h
  have m6 : M.1 1 6 = nI dd := by rw [← hd]; exact hC.2.2.2.1.1
  refine h0 _ _ _ ?_
  simp only [bX12_day_0, zw_0, zw_1, zs_iloadn1, zs_iconst, zs_bipush, zi_12_69, zs_ifeq, zs_aloadn0, zs_aloadNn0, zg_12_7, zs_iaload, zs_iadd, zs_sipush, zs_icgt, zi_12_371, zg_12_332, zs_goto, zh_0, zh_1, zh_2, zh_3, zh_4, zt_i, zt_l, zt_r, zt_n, zb_0, za_1, za_2, za_3, za_4, za_5, za_6, za_7, za_8, za_9, za_10, za_11, za_12, za_13, za_14, zu_0, zu_1, zu_2, zu_3, zu_4, zu_5, zu_6, zu_7, zu_8, zu_9, zu_10, zu_11, zu_12, zu_13, zu_14, zu_15, zu_16, zu_17, zu_18, zu_19, zu_20, zu_21, zu_22, zu_23, zu_24, zu_25, zu_26, zu_27, zu_28, zu_29, zu_30, zu_90, zv_0_9, zv_1_9, zv_2_9, zv_3_9, zv_4_9, zv_5_9, zv_6_9, zv_7_9, zv_8_9, zv_0_330, zv_0_4544, zv_1_4544, zv_2_4544, zv_3_4544, zv_4_4544, zv_5_4544, zv_6_4544, zv_7_4544, zv_8_4544, zv_9_4544, zv_10_4544, zv_11_4544, zv_12_4544, zv_13_4544, zv_14_4544, zv_15_4544, zv_16_4544, zv_17_4544, zv_18_4544, zv_19_4544, zv_20_4544, zv_21_4544, zv_22_4544, zv_23_4544, zv_24_4544, zv_25_4544, zv_26_4544, zv_27_4544, zv_28_4544, zv_29_4544, zv_0_11, zv_1_11, zv_0_160, true_and, and_true, Nat.reduceAdd]
  refine zm_R_eq (c_isIn hE (d + 7) v 1 60 M) ?_
  simp only [bX12_day_0, zw_0, zw_1, zs_iloadn1, zs_iconst, zs_bipush, zi_12_69, zs_ifeq, zs_aloadn0, zs_aloadNn0, zg_12_7, zs_iaload, zs_iadd, zs_sipush, zs_icgt, zi_12_371, zg_12_332, zs_goto, zh_0, zh_1, zh_2, zh_3, zh_4, zt_i, zt_l, zt_r, zt_n, zb_0, za_1, za_2, za_3, za_4, za_5, za_6, za_7, za_8, za_9, za_10, za_11, za_12, za_13, za_14, zu_0, zu_1, zu_2, zu_3, zu_4, zu_5, zu_6, zu_7, zu_8, zu_9, zu_10, zu_11, zu_12, zu_13, zu_14, zu_15, zu_16, zu_17, zu_18, zu_19, zu_20, zu_21, zu_22, zu_23, zu_24, zu_25, zu_26, zu_27, zu_28, zu_29, zu_30, zu_90, zv_0_9, zv_1_9, zv_2_9, zv_3_9, zv_4_9, zv_5_9, zv_6_9, zv_7_9, zv_8_9, zv_0_330, zv_0_4544, zv_1_4544, zv_2_4544, zv_3_4544, zv_4_4544, zv_5_4544, zv_6_4544, zv_7_4544, zv_8_4544, zv_9_4544, zv_10_4544, zv_11_4544, zv_12_4544, zv_13_4544, zv_14_4544, zv_15_4544, zv_16_4544, zv_17_4544, zv_18_4544, zv_19_4544, zv_20_4544, zv_21_4544, zv_22_4544, zv_23_4544, zv_24_4544, zv_25_4544, zv_26_4544, zv_27_4544, zv_28_4544, zv_29_4544, zv_0_11, zv_1_11, zv_0_160, true_and, and_true, Nat.reduceAdd, m6]
  refine ⟨fun h => bad (Or.inl h), fun h => ?_⟩
  obtain ⟨f, hf1, hf2, rfl⟩ : ∃ f, 1 ≤ f ∧ f ≤ 60 ∧ v = nI f := zi_1of (by decide) h
  have c9 : ((9999 : Int32) < nI dd + nI f) = (9999 < dd + f) := by rw [nI_add]; exact propext (nI_ltI (a := 9999) (by decide) (by omega))
  rw [c9]
  refine ⟨fun h9 => bad (Or.inr ⟨f, hf2, rfl, h9⟩), fun h9 => ?_⟩
  refine c_arePassed hE d hf2 hA hdd hd hC (fun M1 a1 a2 a3 => ?_)
  rw [decide_eq_true (by omega)]
  simp only [bX12_day_0, zw_0, zw_1, zs_iloadn1, zs_iconst, zs_bipush, zi_12_69, zs_ifeq, zs_aloadn0, zs_aloadNn0, zg_12_7, zs_iaload, zs_iadd, zs_sipush, zs_icgt, zi_12_371, zg_12_332, zs_goto, zh_0, zh_1, zh_2, zh_3, zh_4, zt_i, zt_l, zt_r, zt_n, zb_0, za_1, za_2, za_3, za_4, za_5, za_6, za_7, za_8, za_9, za_10, za_11, za_12, za_13, za_14, zu_0, zu_1, zu_2, zu_3, zu_4, zu_5, zu_6, zu_7, zu_8, zu_9, zu_10, zu_11, zu_12, zu_13, zu_14, zu_15, zu_16, zu_17, zu_18, zu_19, zu_20, zu_21, zu_22, zu_23, zu_24, zu_25, zu_26, zu_27, zu_28, zu_29, zu_30, zu_90, zv_0_9, zv_1_9, zv_2_9, zv_3_9, zv_4_9, zv_5_9, zv_6_9, zv_7_9, zv_8_9, zv_0_330, zv_0_4544, zv_1_4544, zv_2_4544, zv_3_4544, zv_4_4544, zv_5_4544, zv_6_4544, zv_7_4544, zv_8_4544, zv_9_4544, zv_10_4544, zv_11_4544, zv_12_4544, zv_13_4544, zv_14_4544, zv_15_4544, zv_16_4544, zv_17_4544, zv_18_4544, zv_19_4544, zv_20_4544, zv_21_4544, zv_22_4544, zv_23_4544, zv_24_4544, zv_25_4544, zv_26_4544, zv_27_4544, zv_28_4544, zv_29_4544, zv_0_11, zv_1_11, zv_0_160, true_and, and_true, Nat.reduceAdd, zi_b0, a2]
  refine ⟨fun h => absurd h (by decide), fun _ => ?_⟩
  refine h41 _ _ _ ?_
  simp only [bX12_day_41, zw_0, zw_1, zs_ireturn, zn_int, zn_b0, zn_b1, zb_0, za_1, za_2, za_3, za_4, za_5, za_6, za_7, za_8, za_9, za_10, za_11, za_12, za_13, za_14, true_and, and_true, Nat.reduceAdd]
  exact q2 f M1 hf1 hf2 rfl (by omega) a1 a3
