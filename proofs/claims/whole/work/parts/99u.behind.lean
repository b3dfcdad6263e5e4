/-! ===== the reference: behind one; a sum ===== -/
theorem zs_se_1 : ∀ (ws : List Nat) (o : Nat) (cs : List (Nat × Nat)) (x : Nat), zs_on ws = x → ¬ x = 0 → ∃ us, (zs_se 1 ws o cs).1 = x :: us := by
  intro ws
  induction ws with
  | nil => intro o cs x h h0; exact absurd h.symm h0
  | cons c ws ih =>
    intro o cs x h h0
    simp only [zs_on] at h
    simp only [zs_se]
    by_cases z : 40 ≤ c
    · rw [if_pos z] at h
      have r0 : zk_rk c = 0 := by unfold zk_rk; rw [if_pos z]
      rw [if_neg (by omega), h]
      exact ⟨ws, rfl⟩
    · rw [if_neg z] at h
      have r1 : 1 ≤ zk_rk c := by unfold zk_rk; rw [if_neg z]; (repeat' split) <;> omega
      rw [if_pos r1]
      exact ih _ _ x h h0
theorem zs_cm_se : ∀ (ws : List Nat) (o : Nat) (cs : List (Nat × Nat)), zh_cm ws = false → zs_tr (zs_se 5 ws o cs).1 < 4 := by
  intro ws
  induction ws with
  | nil => intro o cs _; show 0 < 4; decide
  | cons c ws ih =>
    intro o cs h
    simp only [zh_cm] at h
    simp only [zs_se]
    by_cases z : 4 < zk_rk c
    · rw [if_pos z] at h
      rw [if_pos (by omega)]
      exact ih _ _ h
    · rw [if_neg z] at h
      rw [if_neg (by omega)]
      have := of_decide_eq_false h
      show zk_rk c < 4
      omega
theorem zs_bet_in {T : Nat → Nat} {k : Nat} {ws : List Nat} (h : ¬ zs_bet T k ws = 0) : ¬ T k = 43 ∧ ((6 ≤ zs_bet T k ws ∧ zs_bet T k ws ≤ 9) ∨ ((10 ≤ zs_bet T k ws ∧ zs_bet T k ws ≤ 15) ∧ zh_cm ws = false) ∨ zs_bet T k ws = 21 ∨ zs_bet T k ws = 22) := by
  unfold zs_bet at h ⊢
  by_cases a1 : T k = 34
  · rw [if_pos a1]; omega
  rw [if_neg a1] at h ⊢
  by_cases a2 : T k = 35
  · rw [if_pos a2]; omega
  rw [if_neg a2] at h ⊢
  by_cases a3 : T k = 36
  · rw [if_pos a3]; omega
  rw [if_neg a3] at h ⊢
  by_cases a4 : T k = 37
  · rw [if_pos a4]; omega
  rw [if_neg a4] at h ⊢
  by_cases a5 : ¬ zs_on ws = 42
  · rw [if_pos a5] at h; exact absurd rfl h
  rw [if_neg a5] at h ⊢
  by_cases a6 : zh_cm ws = false
  · rw [if_pos a6] at h ⊢
    by_cases a7 : 28 ≤ T k ∧ T k ≤ 33
    · rw [if_pos a7]
      exact ⟨by omega, Or.inr (Or.inl ⟨by omega, a6⟩)⟩
    · rw [if_neg a7] at h; exact absurd rfl h
  rw [if_neg a6] at h ⊢
  by_cases a8 : T k = 26
  · rw [if_pos a8]; omega
  rw [if_neg a8] at h ⊢
  by_cases a9 : T k = 25
  · rw [if_pos a9]; omega
  · rw [if_neg a9] at h; exact absurd rfl h
theorem zs_par_in {T : Nat → Nat} {k : Nat} {ws : List Nat} (h : ¬ zs_par T k ws = 100) : ¬ T k = 43 ∧ 40 ≤ zs_on ws ∧ zs_on ws < 100 ∧ (zs_par T k ws = 0 ∨ zs_par T k ws = 43 ∨ zs_par T k ws = 44) := by
  unfold zs_par at h ⊢
  by_cases a1 : zs_on ws = 40
  · rw [if_pos a1] at h ⊢
    by_cases c : T k = 39
    · rw [if_pos c]; omega
    · rw [if_neg c] at h; exact absurd rfl h
  rw [if_neg a1] at h ⊢
  by_cases a2 : zs_on ws = 42
  · rw [if_pos a2] at h ⊢
    by_cases c : T k = 22 ∧ zh_cm ws = true
    · rw [if_pos c]; omega
    · rw [if_neg c] at h; exact absurd rfl h
  rw [if_neg a2] at h ⊢
  by_cases a3 : zs_on ws = 43
  · rw [if_pos a3] at h ⊢
    by_cases c : T k = 23
    · rw [if_pos c]; omega
    · rw [if_neg c] at h; exact absurd rfl h
  rw [if_neg a3] at h ⊢
  by_cases a4 : zs_on ws = 44
  · rw [if_pos a4] at h ⊢
    by_cases c : T k = 24
    · rw [if_pos c]; omega
    · rw [if_neg c] at h; exact absurd rfl h
  rw [if_neg a4] at h; exact absurd rfl h
theorem zs_eo_n0 {T : Nat → Nat} {k o f j : Nat} {ws : List Nat} {cs : List (Nat × Nat)} (hx : zs_eo T k ws o cs = .inr (f, j)) : f = 1 := by
  unfold zs_eo zs_end at hx
  split at hx
  · cases hx
  · split at hx
    · split at hx
      · cases hx
      · cases hx; rfl
    · cases hx
theorem zs_rk_bet {c : Nat} (h : (6 ≤ c ∧ c ≤ 9) ∨ (10 ≤ c ∧ c ≤ 15) ∨ c = 21 ∨ c = 22) : (1 ≤ zk_rk c ∧ zk_rk c ≤ 6) ∧ ¬ (zk_rk c = 7 ∨ c = 20 ∨ 40 ≤ c) ∧ (zk_rk c = 4 → 10 ≤ c ∧ c ≤ 15) := by
  unfold zk_rk
  rw [if_neg (by omega)]
  by_cases a : c = 22
  · rw [if_pos a]; omega
  rw [if_neg a]
  by_cases a2 : c = 21
  · rw [if_pos a2]; omega
  rw [if_neg a2, if_neg (by omega)]
  by_cases a3 : 10 ≤ c
  · rw [if_pos a3]; omega
  rw [if_neg a3, if_neg (by omega)]
  split <;> omega
theorem c_behindOne {E : zm_E} (hE : zm_ok E.2.2.1 E.2.2.2.2) (d : Nat) {tp : Nat → Nat} {n m b c0 cl k o : Nat} {ws : List Nat} {cs : List (Nat × Nat)} {M : zm_M} (hm : zk_st tp n m = n) (hb : b ≤ 2115) (hV : zs_V m c0 k ws o cs) (hS : zh_S tp n b c0 cl k ws o true cs M) : zm_R E (d + 5) mX12_behindOne [.ref 0] M (fun r M' => zh_X tp n m b c0 cl (zs_beh (zs_T tp n) k ws o cs) M r M') := by
  refine zX12_behindOne hE rfl (fun G h0 h22 h26 h60 h77 h122 h127 => ?_)
  show G 0 [some (.ref 0), none, none, none] [] M
  have ht := hS.1.1.2.2.2
  have hA := hS.1.2
  have km := hV.2.2.2.2.1
  have iv := hV.1
  have fin : ∀ (l1 l2 l3 : Option Value) (us : List Nat) (o' : Nat) (wh : Bool) (cs' : List (Nat × Nat)) (M1 : zm_M), zs_V m c0 (k + 1) us o' cs' → zh_S tp n b c0 cl (k + 1) us o' wh cs' M1 → zh_F b c0 M M1 → zs_beh (zs_T tp n) k ws o cs = zs_eo (zs_T tp n) (k + 1) us o' cs' → G 122 [some (.ref 0), l1, l2, l3] [] M1 := by
    intro l1 l2 l3 us o' wh cs' M1 V1 S1 F1 z2
    refine h122 _ _ _ ?_
    simp only [bX12_behindOne_122, zw_0, zw_1, zs_aloadn0, zs_aloadNn0, zi_12_174, zs_ireturn, zh_0, zh_1, zh_2, zh_3, zh_4, zt_i, zt_l, zt_r, zt_n, zn_int, zn_b0, zn_b1, zb_0, za_1, za_2, za_3, za_4, za_5, za_6, za_7, za_8, za_9, za_10, za_11, za_12, za_13, za_14, true_and, and_true, Nat.reduceAdd]
    refine zm_R_mono (c_endOne hE (d + 1) hm hb V1 S1) (fun r M3 h3 => ?_)
    obtain ⟨F3, h3⟩ := h3
    cases hx : zs_eo (zs_T tp n) (k + 1) us o' cs' with
    | inl y =>
      obtain ⟨k', ws', o', wh', cs'⟩ := y
      rw [hx] at h3 z2
      obtain ⟨rfl, h4⟩ := h3
      simp only [bX12_behindOne_122, zw_0, zw_1, zs_aloadn0, zs_aloadNn0, zi_12_174, zs_ireturn, zh_0, zh_1, zh_2, zh_3, zh_4, zt_i, zt_l, zt_r, zt_n, zn_int, zn_b0, zn_b1, zb_0, za_1, za_2, za_3, za_4, za_5, za_6, za_7, za_8, za_9, za_10, za_11, za_12, za_13, za_14, true_and, and_true, Nat.reduceAdd]
      rw [z2]
      exact ⟨zh_F_trans F1 F3, rfl, h4⟩
    | inr y =>
      obtain ⟨f', k'⟩ := y
      have f1 := zs_eo_n0 hx
      rw [hx] at h3 z2
      obtain ⟨rfl, h4, h5, h6⟩ := h3
      simp only [bX12_behindOne_122, zw_0, zw_1, zs_aloadn0, zs_aloadNn0, zi_12_174, zs_ireturn, zh_0, zh_1, zh_2, zh_3, zh_4, zt_i, zt_l, zt_r, zt_n, zn_int, zn_b0, zn_b1, zb_0, za_1, za_2, za_3, za_4, za_5, za_6, za_7, za_8, za_9, za_10, za_11, za_12, za_13, za_14, true_and, and_true, Nat.reduceAdd]
      rw [z2]
      exact ⟨zh_F_trans F1 F3, rfl, h4, h5, fun z => absurd z (by omega)⟩
  refine h0 _ _ _ ?_
  simp only [bX12_behindOne_0, zw_0, zw_1, zs_aloadn0, zs_aloadNn0, zi_12_204, zs_istoren1, zs_iloadn1, zs_iflt, zi_12_148, zs_iconst, zs_icne, zs_goto, zc_none, zc_int, zc_ref, zc_null, zc_long, zh_0, zh_1, zh_2, zh_3, zh_4, zt_i, zt_l, zt_r, zt_n, zb_0, za_1, za_2, za_3, za_4, za_5, za_6, za_7, za_8, za_9, za_10, za_11, za_12, za_13, za_14, true_and, and_true, Nat.reduceAdd]
  refine zm_R_eq (c_betweenOf hE (d + 1) iv hS.2.1 ht hA) ?_
  by_cases hbt : zs_bet (zs_T tp n) k ws = 0
  · rw [if_pos hbt]
    simp only [bX12_behindOne_0, zw_0, zw_1, zs_aloadn0, zs_aloadNn0, zi_12_204, zs_istoren1, zs_iloadn1, zs_iflt, zi_12_148, zs_iconst, zs_icne, zs_goto, zc_none, zc_int, zc_ref, zc_null, zc_long, zh_0, zh_1, zh_2, zh_3, zh_4, zt_i, zt_l, zt_r, zt_n, zb_0, za_1, za_2, za_3, za_4, za_5, za_6, za_7, za_8, za_9, za_10, za_11, za_12, za_13, za_14, true_and, and_true, Nat.reduceAdd]
    refine ⟨fun _ => ?_, fun h => absurd (by decide) h⟩
    refine h60 _ _ _ ?_
    simp only [bX12_behindOne_60, zw_0, zw_1, zs_aloadn0, zs_aloadNn0, zi_12_162, zs_istoren2, zs_iloadn2, zi_12_207, zs_istoren3, zs_iloadn3, zs_ifge, zs_iconst, zs_ireturn, zc_none, zc_int, zc_ref, zc_null, zc_long, zh_0, zh_1, zh_2, zh_3, zh_4, zt_i, zt_l, zt_r, zt_n, zn_int, zn_b0, zn_b1, zb_0, za_1, za_2, za_3, za_4, za_5, za_6, za_7, za_8, za_9, za_10, za_11, za_12, za_13, za_14, true_and, and_true, Nat.reduceAdd]
    refine zm_R_eq (c_openNow hE (d + 2) hS.2.1) ?_
    simp only [bX12_behindOne_60, zw_0, zw_1, zs_aloadn0, zs_aloadNn0, zi_12_162, zs_istoren2, zs_iloadn2, zi_12_207, zs_istoren3, zs_iloadn3, zs_ifge, zs_iconst, zs_ireturn, zc_none, zc_int, zc_ref, zc_null, zc_long, zh_0, zh_1, zh_2, zh_3, zh_4, zt_i, zt_l, zt_r, zt_n, zn_int, zn_b0, zn_b1, zb_0, za_1, za_2, za_3, za_4, za_5, za_6, za_7, za_8, za_9, za_10, za_11, za_12, za_13, za_14, true_and, and_true, Nat.reduceAdd]
    refine zm_R_eq (c_partOf hE (d + 0) iv hS.2.1 ht hA) ?_
    by_cases hp : zs_par (zs_T tp n) k ws = 100
    · rw [if_pos hp]
      simp only [bX12_behindOne_60, zw_0, zw_1, zs_aloadn0, zs_aloadNn0, zi_12_162, zs_istoren2, zs_iloadn2, zi_12_207, zs_istoren3, zs_iloadn3, zs_ifge, zs_iconst, zs_ireturn, zc_none, zc_int, zc_ref, zc_null, zc_long, zh_0, zh_1, zh_2, zh_3, zh_4, zt_i, zt_l, zt_r, zt_n, zn_int, zn_b0, zn_b1, zb_0, za_1, za_2, za_3, za_4, za_5, za_6, za_7, za_8, za_9, za_10, za_11, za_12, za_13, za_14, true_and, and_true, Nat.reduceAdd]
      refine ⟨fun h => absurd h (by decide), fun _ => ?_⟩
      unfold zs_beh
      rw [if_neg (fun z => z hbt), if_pos hp]
      exact ⟨zh_F_refl, rfl, hS.1.1, hA, fun _ => rfl⟩
    · obtain ⟨p1, p2, p3, p4⟩ := zs_par_in hp
      have on1 := zh_on_s ws iv
      rw [if_neg (by omega)] at on1
      have beh : zs_beh (zs_T tp n) k ws o cs = zs_cl (zs_T tp n) k (zs_on ws) (zs_par (zs_T tp n) k ws) (zs_se 1 ws o cs) := by
        unfold zs_beh
        rw [if_neg (fun z => z hbt), if_neg hp]
      rw [if_neg hp, on1.1]
      simp only [bX12_behindOne_60, zw_0, zw_1, zs_aloadn0, zs_aloadNn0, zi_12_162, zs_istoren2, zs_iloadn2, zi_12_207, zs_istoren3, zs_iloadn3, zs_ifge, zs_iconst, zs_ireturn, zc_none, zc_int, zc_ref, zc_null, zc_long, zh_0, zh_1, zh_2, zh_3, zh_4, zt_i, zt_l, zt_r, zt_n, zn_int, zn_b0, zn_b1, zb_0, za_1, za_2, za_3, za_4, za_5, za_6, za_7, za_8, za_9, za_10, za_11, za_12, za_13, za_14, true_and, and_true, Nat.reduceAdd]
      refine ⟨fun _ => ?_, fun h => absurd (zr_pos (by omega)) h⟩
      refine h77 _ _ _ ?_
      simp only [bX12_behindOne_77, zw_0, zw_1, zs_aloadn0, zs_aloadNn0, zs_iconst, zi_12_192, zi_12_165, zs_iloadn3, zs_ifne, zs_dupi, zs_dupr, zs_dupn, zg_12_155, zs_isub, zq_12_155, zg_12_145, zq_12_145, zs_iloadn2, zs_bipush, zs_icne, zi_12_151, zh_0, zh_1, zh_2, zh_3, zh_4, zt_i, zt_l, zt_r, zt_n, zb_0, za_1, za_2, za_3, za_4, za_5, za_6, za_7, za_8, za_9, za_10, za_11, za_12, za_13, za_14, true_and, and_true, Nat.reduceAdd]
      refine zm_R_mono (c_settle hE (d + 2) (r := 1) (by decide) (by decide) hb ws o cs M hV hS) (fun r M1 h1 => ?_)
      obtain ⟨us, hus⟩ := zs_se_1 ws o cs (zs_on ws) rfl (by omega)
      generalize zs_se 1 ws o cs = z at h1 hus beh
      obtain ⟨us1, o1, cs1⟩ := z
      simp only at hus
      subst hus
      obtain ⟨rfl, S1, V1, F1⟩ := h1
      simp only at S1 V1
      simp only [bX12_behindOne_77, zw_0, zw_1, zs_aloadn0, zs_aloadNn0, zs_iconst, zi_12_192, zi_12_165, zs_iloadn3, zs_ifne, zs_dupi, zs_dupr, zs_dupn, zg_12_155, zs_isub, zq_12_155, zg_12_145, zq_12_145, zs_iloadn2, zs_bipush, zs_icne, zi_12_151, zh_0, zh_1, zh_2, zh_3, zh_4, zt_i, zt_l, zt_r, zt_n, zb_0, za_1, za_2, za_3, za_4, za_5, za_6, za_7, za_8, za_9, za_10, za_11, za_12, za_13, za_14, true_and, and_true, Nat.reduceAdd]
      have kl := (zs_T_lt hm ht km p1).1
      refine c_nx hE (d + 2) hm km p1 S1 (fun M2 S2 F2 => ?_)
      have F12 := zh_F_trans F1 F2
      obtain ⟨x1, x2, x3, x4, x5, x6⟩ := V1
      simp only [zs_cn] at x2
      rw [if_pos (by omega)] at x2
      simp only [List.length_cons] at x4
      have e0 : (nI (zs_par (zs_T tp n) k ws) = 0) = (zs_par (zs_T tp n) k ws = 0) := propext (nI_eq (b := 0) (by omega) (by decide))
      have e44 : (nI (zs_on ws) = 44) = (zs_on ws = 44) := propext (nI_eq (b := 44) (by omega) (by decide))
      have a17 : M2.1 0 17 = nI o1 := S2.2.2.1
      have eo : nI o1 - 1 = nI (o1 - 1) := by rw [show (1 : Int32) = nI 1 from rfl, zk_sub (by omega)]
      have S3 := zh_S_pop (zh_S_o S2 (o1 - 1))
      have F3 : zh_F b c0 M (zm_wi (zm_wi M2 0 17 (nI (o1 - 1))) 0 16 (nI us.length)) := zh_F_0 (zh_F_0 F12 (by decide)) (by decide)
      have a16 : (zm_wi M2 0 17 (nI (o1 - 1))).1 0 16 = nI (us.length + 1) := by rw [zm_wi_same, if_neg (by decide)]; exact S2.2.1.1
      have e1 : nI (us.length + 1) - 1 = nI us.length := nI_pred _
      simp only [bX12_behindOne_77, zw_0, zw_1, zs_aloadn0, zs_aloadNn0, zs_iconst, zi_12_192, zi_12_165, zs_iloadn3, zs_ifne, zs_dupi, zs_dupr, zs_dupn, zg_12_155, zs_isub, zq_12_155, zg_12_145, zq_12_145, zs_iloadn2, zs_bipush, zs_icne, zi_12_151, zh_0, zh_1, zh_2, zh_3, zh_4, zt_i, zt_l, zt_r, zt_n, zb_0, za_1, za_2, za_3, za_4, za_5, za_6, za_7, za_8, za_9, za_10, za_11, za_12, za_13, za_14, true_and, and_true, Nat.reduceAdd, e0, a17, eo, a16, e1, e44]
      refine ⟨fun h => ?_, fun h => ⟨fun h2 => ?_, fun h2 => ?_⟩⟩
      · refine h127 _ _ _ ?_
        simp only [bX12_behindOne_127, zw_0, zw_1, zs_aloadn0, zs_aloadNn0, zg_12_29, zi_12_158, zs_iloadn3, zs_iastore, zs_iconst, zq_12_195, zs_ireturn, zh_0, zh_1, zh_2, zh_3, zh_4, zt_i, zt_l, zt_r, zt_n, zn_int, zn_b0, zn_b1, zb_0, za_1, za_2, za_3, za_4, za_5, za_6, za_7, za_8, za_9, za_10, za_11, za_12, za_13, za_14, zu_0, zu_1, zu_2, zu_3, zu_4, zu_5, zu_6, zu_7, zu_8, zu_9, zu_10, zu_11, zu_12, zu_13, zu_14, zu_15, zu_16, zu_17, zu_18, zu_19, zu_20, zu_21, zu_22, zu_23, zu_24, zu_25, zu_26, zu_27, zu_28, zu_29, zu_30, zu_90, zv_0_9, zv_1_9, zv_2_9, zv_3_9, zv_4_9, zv_5_9, zv_6_9, zv_7_9, zv_8_9, zv_0_330, zv_0_4544, zv_1_4544, zv_2_4544, zv_3_4544, zv_4_4544, zv_5_4544, zv_6_4544, zv_7_4544, zv_8_4544, zv_9_4544, zv_10_4544, zv_11_4544, zv_12_4544, zv_13_4544, zv_14_4544, zv_15_4544, zv_16_4544, zv_17_4544, zv_18_4544, zv_19_4544, zv_20_4544, zv_21_4544, zv_22_4544, zv_23_4544, zv_24_4544, zv_25_4544, zv_26_4544, zv_27_4544, zv_28_4544, zv_29_4544, zv_0_11, zv_1_11, zv_0_160, true_and, and_true, Nat.reduceAdd]
        refine zm_R_eq (c_openAt hE (d + 3) S2.2.1) ?_
        have op : zh_op (zs_on ws :: us) = nI us.length := by simp only [zh_op]; rw [if_pos p2]
        rw [op]
        have l160 : us.length + 1 ≤ 160 := S2.2.1.2.1
        have v1 : vp_in (nI us.length) 160 := vp_in_nI (by omega) (by decide)
        have v2 : (nI us.length).toNatClampNeg = us.length := nI_clamp (by omega)
        simp only [bX12_behindOne_127, zw_0, zw_1, zs_aloadn0, zs_aloadNn0, zg_12_29, zi_12_158, zs_iloadn3, zs_iastore, zs_iconst, zq_12_195, zs_ireturn, zh_0, zh_1, zh_2, zh_3, zh_4, zt_i, zt_l, zt_r, zt_n, zn_int, zn_b0, zn_b1, zb_0, za_1, za_2, za_3, za_4, za_5, za_6, za_7, za_8, za_9, za_10, za_11, za_12, za_13, za_14, zu_0, zu_1, zu_2, zu_3, zu_4, zu_5, zu_6, zu_7, zu_8, zu_9, zu_10, zu_11, zu_12, zu_13, zu_14, zu_15, zu_16, zu_17, zu_18, zu_19, zu_20, zu_21, zu_22, zu_23, zu_24, zu_25, zu_26, zu_27, zu_28, zu_29, zu_30, zu_90, zv_0_9, zv_1_9, zv_2_9, zv_3_9, zv_4_9, zv_5_9, zv_6_9, zv_7_9, zv_8_9, zv_0_330, zv_0_4544, zv_1_4544, zv_2_4544, zv_3_4544, zv_4_4544, zv_5_4544, zv_6_4544, zv_7_4544, zv_8_4544, zv_9_4544, zv_10_4544, zv_11_4544, zv_12_4544, zv_13_4544, zv_14_4544, zv_15_4544, zv_16_4544, zv_17_4544, zv_18_4544, zv_19_4544, zv_20_4544, zv_21_4544, zv_22_4544, zv_23_4544, zv_24_4544, zv_25_4544, zv_26_4544, zv_27_4544, zv_28_4544, zv_29_4544, zv_0_11, zv_1_11, zv_0_160, true_and, and_true, Nat.reduceAdd, v1, v2, true_or]
        rw [beh]
        unfold zs_cl
        rw [if_neg h]
        refine ⟨zh_F_0 (zh_F_5 F12) (by decide), rfl, zh_S_wh (zh_S_top S2 _ (by omega)) false, ⟨Or.inl (by omega), by omega, x1.2.2⟩, ?_, x3, ?_, by omega, x6⟩
        · simp only [zs_cn]
          rw [if_pos (by omega)]; exact x2
        · simp only [List.length_cons, List.tail_cons]; omega
      · refine fin _ _ _ us (o1 - 1) _ cs1 _ ⟨x1.2.2, by omega, by omega, by omega, by omega, x6⟩ S3 F3 ?_
        rw [beh]
        unfold zs_cl
        rw [if_pos h, if_neg h2]; rfl
      · obtain ⟨S4, F4⟩ := zh_S_emit S3 (by omega) 3 0
        refine c_emit hE (d + 3) (b := b) (c := c0 + cs1.length) 3 0 (by omega) S3.2.2.2.2.1 S3.2.2.2.2.2.1 ?_
        simp only [bX12_behindOne_77, zw_0, zw_1, zs_aloadn0, zs_aloadNn0, zs_iconst, zi_12_192, zi_12_165, zs_iloadn3, zs_ifne, zs_dupi, zs_dupr, zs_dupn, zg_12_155, zs_isub, zq_12_155, zg_12_145, zq_12_145, zs_iloadn2, zs_bipush, zs_icne, zi_12_151, zh_0, zh_1, zh_2, zh_3, zh_4, zt_i, zt_l, zt_r, zt_n, zb_0, za_1, za_2, za_3, za_4, za_5, za_6, za_7, za_8, za_9, za_10, za_11, za_12, za_13, za_14, true_and, and_true, Nat.reduceAdd]
        refine fin _ _ _ us (o1 - 1) _ (cs1 ++ [(3, 0)]) _ ⟨x1.2.2, by omega, by omega, ?_, by omega, x6⟩ S4 (zh_F_trans F3 F4) ?_
        · rw [List.length_append]; simp only [List.length_singleton]; omega
        rw [beh]
        unfold zs_cl
        rw [if_pos h, if_pos h2]; rfl
  · obtain ⟨t1, t2⟩ := zs_bet_in hbt
    have rk := zs_rk_bet (c := zs_bet (zs_T tp n) k ws) (by rcases t2 with z | z | z | z <;> omega)
    have b100 : zs_bet (zs_T tp n) k ws < 100 := by rcases t2 with z | z | z | z <;> omega
    have beh : zs_beh (zs_T tp n) k ws o cs = zs_pu (k + 1) (zs_bet (zs_T tp n) k ws) (zs_se (if zk_rk (zs_bet (zs_T tp n) k ws) = 4 then 5 else zk_rk (zs_bet (zs_T tp n) k ws)) ws o cs) := by
      unfold zs_beh
      rw [if_pos hbt]
    have tr4 : zk_rk (zs_bet (zs_T tp n) k ws) = 4 → zh_cm ws = false := by
      intro z
      have := rk.2.2 z
      rcases t2 with y | y | y | y
      · omega
      · exact y.2
      · omega
      · omega
    rw [if_neg hbt]
    generalize zs_bet (zs_T tp n) k ws = c at *
    have e4 : (nI (zk_rk c) = 4) = (zk_rk c = 4) := propext (nI_eq (b := 4) (by omega) (by decide))
    simp only [bX12_behindOne_0, zw_0, zw_1, zs_aloadn0, zs_aloadNn0, zi_12_204, zs_istoren1, zs_iloadn1, zs_iflt, zi_12_148, zs_iconst, zs_icne, zs_goto, zc_none, zc_int, zc_ref, zc_null, zc_long, zh_0, zh_1, zh_2, zh_3, zh_4, zt_i, zt_l, zt_r, zt_n, zb_0, za_1, za_2, za_3, za_4, za_5, za_6, za_7, za_8, za_9, za_10, za_11, za_12, za_13, za_14, true_and, and_true, Nat.reduceAdd]
    refine ⟨fun h => absurd h (nI_pos (by omega)), fun _ => ?_⟩
    refine zm_R_eq (c_rank hE (d + 3) b100 M) ?_
    have go : ∀ (r : Nat), r = (if zk_rk c = 4 then 5 else zk_rk c) → G 26 [some (.ref 0), some (.int (nI c)), none, none] [.int (nI r), .ref 0] M := by
      intro r hr
      have r1 : 1 ≤ r ∧ r ≤ 7 := by rw [hr]; split <;> omega
      refine h26 _ _ _ ?_
      simp only [bX12_behindOne_26, zw_0, zw_1, zi_12_192, zs_aloadn0, zs_aloadNn0, zg_12_29, zg_12_145, zs_iloadn1, zs_iastore, zs_dupi, zs_dupr, zs_dupn, zs_iconst, zs_iadd, zq_12_145, zq_12_195, zi_12_165, zs_ireturn, zh_0, zh_1, zh_2, zh_3, zh_4, zt_i, zt_l, zt_r, zt_n, zn_int, zn_b0, zn_b1, zb_0, za_1, za_2, za_3, za_4, za_5, za_6, za_7, za_8, za_9, za_10, za_11, za_12, za_13, za_14, zu_0, zu_1, zu_2, zu_3, zu_4, zu_5, zu_6, zu_7, zu_8, zu_9, zu_10, zu_11, zu_12, zu_13, zu_14, zu_15, zu_16, zu_17, zu_18, zu_19, zu_20, zu_21, zu_22, zu_23, zu_24, zu_25, zu_26, zu_27, zu_28, zu_29, zu_30, zu_90, zv_0_9, zv_1_9, zv_2_9, zv_3_9, zv_4_9, zv_5_9, zv_6_9, zv_7_9, zv_8_9, zv_0_330, zv_0_4544, zv_1_4544, zv_2_4544, zv_3_4544, zv_4_4544, zv_5_4544, zv_6_4544, zv_7_4544, zv_8_4544, zv_9_4544, zv_10_4544, zv_11_4544, zv_12_4544, zv_13_4544, zv_14_4544, zv_15_4544, zv_16_4544, zv_17_4544, zv_18_4544, zv_19_4544, zv_20_4544, zv_21_4544, zv_22_4544, zv_23_4544, zv_24_4544, zv_25_4544, zv_26_4544, zv_27_4544, zv_28_4544, zv_29_4544, zv_0_11, zv_1_11, zv_0_160, true_and, and_true, Nat.reduceAdd]
      refine zm_R_mono (c_settle hE (d + 2) r1.1 r1.2 hb ws o cs M hV hS) (fun x M1 h1 => ?_)
      rw [← hr] at beh
      have top : zs_tr (zs_se r ws o cs).1 < zk_rk c := by
        by_cases c4 : zk_rk c = 4
        · rw [if_pos c4] at hr
          subst hr
          have := zs_cm_se ws o cs (tr4 c4)
          omega
        · rw [if_neg c4] at hr
          subst hr
          cases hz : (zs_se (zk_rk c) ws o cs).1 with
          | nil => show 0 < _; omega
          | cons y ys => exact zs_se_41 ws _ o cs iv y ys hz
      generalize zs_se r ws o cs = z at h1 beh top
      obtain ⟨us, o1, cs1⟩ := z
      obtain ⟨rfl, S1, V1, F1⟩ := h1
      simp only at S1 V1 top
      have len := zs_len62 V1.1 (by rw [V1.2.1]; exact V1.2.2.1)
      have kl := (zs_T_lt hm ht km t1).1
      have v1 : vp_in (nI us.length) 160 := vp_in_nI (by omega) (by decide)
      have v2 : (nI us.length).toNatClampNeg = us.length := nI_clamp (by omega)
      have a16 := S1.2.1.1
      have b16 : (zm_wi M1 5 us.length (nI c)).1 0 16 = nI us.length := by rw [zm_wi_other (by decide)]; exact a16
      simp only [bX12_behindOne_26, zw_0, zw_1, zi_12_192, zs_aloadn0, zs_aloadNn0, zg_12_29, zg_12_145, zs_iloadn1, zs_iastore, zs_dupi, zs_dupr, zs_dupn, zs_iconst, zs_iadd, zq_12_145, zq_12_195, zi_12_165, zs_ireturn, zh_0, zh_1, zh_2, zh_3, zh_4, zt_i, zt_l, zt_r, zt_n, zn_int, zn_b0, zn_b1, zb_0, za_1, za_2, za_3, za_4, za_5, za_6, za_7, za_8, za_9, za_10, za_11, za_12, za_13, za_14, zu_0, zu_1, zu_2, zu_3, zu_4, zu_5, zu_6, zu_7, zu_8, zu_9, zu_10, zu_11, zu_12, zu_13, zu_14, zu_15, zu_16, zu_17, zu_18, zu_19, zu_20, zu_21, zu_22, zu_23, zu_24, zu_25, zu_26, zu_27, zu_28, zu_29, zu_30, zu_90, zv_0_9, zv_1_9, zv_2_9, zv_3_9, zv_4_9, zv_5_9, zv_6_9, zv_7_9, zv_8_9, zv_0_330, zv_0_4544, zv_1_4544, zv_2_4544, zv_3_4544, zv_4_4544, zv_5_4544, zv_6_4544, zv_7_4544, zv_8_4544, zv_9_4544, zv_10_4544, zv_11_4544, zv_12_4544, zv_13_4544, zv_14_4544, zv_15_4544, zv_16_4544, zv_17_4544, zv_18_4544, zv_19_4544, zv_20_4544, zv_21_4544, zv_22_4544, zv_23_4544, zv_24_4544, zv_25_4544, zv_26_4544, zv_27_4544, zv_28_4544, zv_29_4544, zv_0_11, zv_1_11, zv_0_160, true_and, and_true, Nat.reduceAdd, a16, v1, v2, b16, nI_1, true_or]
      have S2 := zh_S_wh (zh_S_push S1 (by omega) c b100) false
      have F2 : zh_F b c0 M (zm_wi (zm_wi (zm_wi M1 5 us.length (nI c)) 0 16 (nI (us.length + 1))) 0 18 (zi_b false)) := zh_F_0 (zh_F_0 (zh_F_5 F1) (by decide)) (by decide)
      refine c_nx hE (d + 2) hm km t1 S2 (fun M3 S3 F3 => ?_)
      simp only [bX12_behindOne_26, zw_0, zw_1, zi_12_192, zs_aloadn0, zs_aloadNn0, zg_12_29, zg_12_145, zs_iloadn1, zs_iastore, zs_dupi, zs_dupr, zs_dupn, zs_iconst, zs_iadd, zq_12_145, zq_12_195, zi_12_165, zs_ireturn, zh_0, zh_1, zh_2, zh_3, zh_4, zt_i, zt_l, zt_r, zt_n, zn_int, zn_b0, zn_b1, zb_0, za_1, za_2, za_3, za_4, za_5, za_6, za_7, za_8, za_9, za_10, za_11, za_12, za_13, za_14, zu_0, zu_1, zu_2, zu_3, zu_4, zu_5, zu_6, zu_7, zu_8, zu_9, zu_10, zu_11, zu_12, zu_13, zu_14, zu_15, zu_16, zu_17, zu_18, zu_19, zu_20, zu_21, zu_22, zu_23, zu_24, zu_25, zu_26, zu_27, zu_28, zu_29, zu_30, zu_90, zv_0_9, zv_1_9, zv_2_9, zv_3_9, zv_4_9, zv_5_9, zv_6_9, zv_7_9, zv_8_9, zv_0_330, zv_0_4544, zv_1_4544, zv_2_4544, zv_3_4544, zv_4_4544, zv_5_4544, zv_6_4544, zv_7_4544, zv_8_4544, zv_9_4544, zv_10_4544, zv_11_4544, zv_12_4544, zv_13_4544, zv_14_4544, zv_15_4544, zv_16_4544, zv_17_4544, zv_18_4544, zv_19_4544, zv_20_4544, zv_21_4544, zv_22_4544, zv_23_4544, zv_24_4544, zv_25_4544, zv_26_4544, zv_27_4544, zv_28_4544, zv_29_4544, zv_0_11, zv_1_11, zv_0_160, true_and, and_true, Nat.reduceAdd]
      rw [beh]
      obtain ⟨x1, x2, x3, x4, x5, x6⟩ := V1
      refine ⟨zh_F_trans F2 F3, rfl, S3, ⟨Or.inr top, b100, x1⟩, ?_, x3, ?_, by omega, x6⟩
      · simp only [zs_cn]
        rw [if_neg rk.2.1, x2, Nat.zero_add]
      · simp only [List.length_cons]; omega
    simp only [bX12_behindOne_0, zw_0, zw_1, zs_aloadn0, zs_aloadNn0, zi_12_204, zs_istoren1, zs_iloadn1, zs_iflt, zi_12_148, zs_iconst, zs_icne, zs_goto, zc_none, zc_int, zc_ref, zc_null, zc_long, zh_0, zh_1, zh_2, zh_3, zh_4, zt_i, zt_l, zt_r, zt_n, zb_0, za_1, za_2, za_3, za_4, za_5, za_6, za_7, za_8, za_9, za_10, za_11, za_12, za_13, za_14, true_and, and_true, Nat.reduceAdd, e4]
    refine ⟨fun h => ?_, fun h => ?_⟩
    · refine h22 _ _ _ ?_
      simp only [bX12_behindOne_22, zw_0, zw_1, zs_iloadn1, zi_12_148, zh_0, zh_1, zh_2, zh_3, zh_4, zt_i, zt_l, zt_r, zt_n, zb_0, za_1, za_2, za_3, za_4, za_5, za_6, za_7, za_8, za_9, za_10, za_11, za_12, za_13, za_14, true_and, and_true, Nat.reduceAdd]
      refine zm_R_eq (c_rank hE (d + 3) b100 M) ?_
      simp only [bX12_behindOne_22, zw_0, zw_1, zs_iloadn1, zi_12_148, zh_0, zh_1, zh_2, zh_3, zh_4, zt_i, zt_l, zt_r, zt_n, zb_0, za_1, za_2, za_3, za_4, za_5, za_6, za_7, za_8, za_9, za_10, za_11, za_12, za_13, za_14, true_and, and_true, Nat.reduceAdd]
      exact go (zk_rk c) (by rw [if_neg h])
    · exact go 5 (by rw [if_pos h])
