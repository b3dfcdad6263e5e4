/-! ===== the reference: one begins ===== -/
theorem c_beginOne {E : zm_E} (hE : zm_ok E.2.2.1 E.2.2.2.2) (d : Nat) {tp : Nat → Nat} {n m b c0 cl k o : Nat} {ws : List Nat} {cs : List (Nat × Nat)} {M : zm_M} (hm : zk_st tp n m = n) (hb : b ≤ 2115) (hcl : cl ≤ 8) (hV : zs_V m c0 k ws o cs) (hS : zh_S tp n b c0 cl k ws o false cs M) : zm_R E (d + 6) mX12_beginOne [.ref 0] M (fun r M' => zh_X tp n m b c0 cl (zs_beg (zs_T tp n) (zs_N tp n) cl k ws o cs) M r M') := by
  refine zX12_beginOne hE rfl (fun G h0 h20 h39 h51 h64 h65 h80 h81 h93 h109 h124 h153 h179 h200 h232 h233 => ?_)
  show G 0 [some (.ref 0), none] [] M
  have ht := hS.1.1.2.2.2
  have hA := hS.1.2
  have k9 := hA.2.2.1
  have hso := zk_so_lt ht n (zk_st tp n k)
  have e1 : (nI (zk_so tp n (zk_st tp n k)) = 1) = (zs_T tp n k = 41) := by
    unfold zs_T
    rw [zk_num_so ht]
    exact propext (nI_eq (b := 1) (by omega) (by decide))
  have lens := hV.2.2.2.1
  have km := hV.2.2.2.2.1
  have m300 := hV.2.2.2.2.2
  have nT : ¬ zs_T tp n k = 43 → k < m := fun z => (zs_T_lt hm ht km z).1
  have fin : ∀ (op v : Nat) (l1 : Option Value), ¬ zs_T tp n k = 43 → zs_beg (zs_T tp n) (zs_N tp n) cl k ws o cs = zs_eo (zs_T tp n) (k + 1) ws o (cs ++ [(op, v)]) → G 81 [some (.ref 0), l1] [.int (nI v), .int (nI op), .ref 0] M := by
    intro op v l1 z1 z2
    have z3 := nT z1
    obtain ⟨S1, F1⟩ := zh_S_emit hS (by omega) op v
    refine h81 _ _ _ ?_
    simp only [bX12_beginOne_81, zw_0, zw_1, zi_12_151, zs_aloadn0, zs_aloadNn0, zi_12_165, zi_12_174, zs_ireturn, zh_0, zh_1, zh_2, zh_3, zh_4, zt_i, zt_l, zt_r, zt_n, zn_int, zn_b0, zn_b1, zb_0, za_1, za_2, za_3, za_4, za_5, za_6, za_7, za_8, za_9, za_10, za_11, za_12, za_13, za_14, true_and, and_true, Nat.reduceAdd]
    refine c_emit hE (d + 4) (b := b) (c := c0 + cs.length) (nI op) (nI v) (by omega) hS.2.2.2.2.1 hS.2.2.2.2.2.1 ?_
    simp only [bX12_beginOne_81, zw_0, zw_1, zi_12_151, zs_aloadn0, zs_aloadNn0, zi_12_165, zi_12_174, zs_ireturn, zh_0, zh_1, zh_2, zh_3, zh_4, zt_i, zt_l, zt_r, zt_n, zn_int, zn_b0, zn_b1, zb_0, za_1, za_2, za_3, za_4, za_5, za_6, za_7, za_8, za_9, za_10, za_11, za_12, za_13, za_14, true_and, and_true, Nat.reduceAdd]
    refine c_nx hE (d + 3) hm km z1 S1 (fun M2 S2 F2 => ?_)
    simp only [bX12_beginOne_81, zw_0, zw_1, zi_12_151, zs_aloadn0, zs_aloadNn0, zi_12_165, zi_12_174, zs_ireturn, zh_0, zh_1, zh_2, zh_3, zh_4, zt_i, zt_l, zt_r, zt_n, zn_int, zn_b0, zn_b1, zb_0, za_1, za_2, za_3, za_4, za_5, za_6, za_7, za_8, za_9, za_10, za_11, za_12, za_13, za_14, true_and, and_true, Nat.reduceAdd]
    have V2 : zs_V m c0 (k + 1) ws o (cs ++ [(op, v)]) := by
      obtain ⟨x1, x2, x3, x4, x5, x6⟩ := hV
      refine ⟨x1, x2, x3, ?_, by omega, x6⟩
      rw [List.length_append]; simp only [List.length_singleton]; omega
    refine zm_R_mono (c_endOne hE (d + 2) hm hb V2 S2) (fun r M3 h3 => ?_)
    obtain ⟨F3, h3⟩ := h3
    cases hx : zs_eo (zs_T tp n) (k + 1) ws o (cs ++ [(op, v)]) with
    | inl y =>
      obtain ⟨k', ws', o', wh', cs'⟩ := y
      rw [hx] at h3 z2
      obtain ⟨rfl, h4⟩ := h3
      simp only [bX12_beginOne_81, zw_0, zw_1, zi_12_151, zs_aloadn0, zs_aloadNn0, zi_12_165, zi_12_174, zs_ireturn, zh_0, zh_1, zh_2, zh_3, zh_4, zt_i, zt_l, zt_r, zt_n, zn_int, zn_b0, zn_b1, zb_0, za_1, za_2, za_3, za_4, za_5, za_6, za_7, za_8, za_9, za_10, za_11, za_12, za_13, za_14, true_and, and_true, Nat.reduceAdd]
      rw [z2]
      exact ⟨zh_F_trans (zh_F_trans F1 F2) F3, rfl, h4⟩
    | inr y =>
      obtain ⟨f', k'⟩ := y
      rw [hx] at h3 z2
      obtain ⟨rfl, h4, h5, h6⟩ := h3
      have f0 : ¬ f' = 0 := by
        intro f0
        unfold zs_eo zs_end at hx
        split at hx
        · cases hx
        · split at hx
          · split at hx
            · cases hx
            · have := Sum.inr.inj hx
              have := congrArg Prod.fst this
              simp at this; omega
          · cases hx
      simp only [bX12_beginOne_81, zw_0, zw_1, zi_12_151, zs_aloadn0, zs_aloadNn0, zi_12_165, zi_12_174, zs_ireturn, zh_0, zh_1, zh_2, zh_3, zh_4, zt_i, zt_l, zt_r, zt_n, zn_int, zn_b0, zn_b1, zb_0, za_1, za_2, za_3, za_4, za_5, za_6, za_7, za_8, za_9, za_10, za_11, za_12, za_13, za_14, true_and, and_true, Nat.reduceAdd]
      rw [z2]
      exact ⟨zh_F_trans (zh_F_trans F1 F2) F3, rfl, h4, h5, fun z => absurd z f0⟩
  have opn : ∀ (c : Nat) (l1 : Option Value) (pc : Nat), c < 100 → (zk_rk c = 7 ∨ c = 20 ∨ 40 ≤ c) → ¬ zs_T tp n k = 43 → zs_beg (zs_T tp n) (zs_N tp n) cl k ws o cs = zs_opn k c ws o cs → zm_R E (d + 5) mX12_opened [.ref 0, .int (nI c)] M (fun r M' => ∃ x, r = some (.int x) ∧ zh_X tp n m b c0 cl (zs_beg (zs_T tp n) (zs_N tp n) cl k ws o cs) M r M') := by
    intro c l1 pc z1 z2 z3 z4
    rw [z4]
    refine zm_R_mono (c_opened hE (d + 2) hm z3 z1 z2 hV hS) (fun r M1 h1 => ?_)
    unfold zs_opn at h1 ⊢
    by_cases o8 : o = 8
    · rw [if_pos o8] at h1 ⊢
      exact ⟨_, h1.2.1, h1⟩
    · rw [if_neg o8] at h1 ⊢
      exact ⟨_, h1.2.1, h1⟩
  by_cases t41 : zs_T tp n k = 41
  · have m10 := hA.2.2.2.1 (by rw [← zk_num_so ht]; exact t41)
    obtain ⟨u1, u2⟩ : zk_st tp n k < n ∧ zk_F (tp (zk_st tp n k)) = true := by unfold zs_T at t41; rw [zk_num ht] at t41; exact t41
    have een : zk_en tp n (zk_st tp n k) = zk_rn zk_F tp n n (zk_st tp n k) := by unfold zk_en; rw [if_neg (by omega), if_pos u2]
    have hen := zk_en_in (tp := tp) u1
    have tie := zk_nc_nr (tp := tp) (zk_en tp n (zk_st tp n k) - zk_st tp n k) (zk_st tp n k) 0 0 (fun j a b => zk_rn_all zk_F tp n n _ j a (by rw [← een]; omega)) rfl
    have rlt := zk_nr_lt ht (zk_en tp n (zk_st tp n k) - zk_st tp n k) (zk_st tp n k) 0 (by decide)
    have tie : zs_N tp n k = _ := tie
    generalize zk_nr tp (zk_en tp n (zk_st tp n k) - zk_st tp n k) (zk_st tp n k) 0 = r at tie m10 rlt
    have er : (nI r ≤ 9999) = (r ≤ 9999) := propext (nI_leI (b := 9999) (by omega) (by decide))
    refine h0 _ _ _ ?_
    simp only [bX12_beginOne_0, zw_0, zw_1, zs_aloadn0, zs_aloadNn0, zg_12_98, zs_iconst, zs_icne, zg_12_104, zs_sipush, zs_icle, zs_ireturn, zn_int, zn_b0, zn_b1, zb_0, za_1, za_2, za_3, za_4, za_5, za_6, za_7, za_8, za_9, za_10, za_11, za_12, za_13, za_14, true_and, and_true, Nat.reduceAdd, k9, e1, t41, not_true_eq_false, not_false_eq_true, true_implies, false_implies, m10, er]
    refine ⟨fun h => ?_, fun h => ?_⟩
    · rw [if_pos (by omega)] at tie
      refine h20 _ _ _ ?_
      simp only [bX12_beginOne_20, zw_0, zw_1, zs_aloadn0, zs_aloadNn0, zi_12_168, zs_istoren1, zs_iloadn1, zs_iflt, zi_12_171, zs_ifne, zs_iconst, zs_ireturn, zc_none, zc_int, zc_ref, zc_null, zc_long, zh_0, zh_1, zh_2, zh_3, zh_4, zt_i, zt_l, zt_r, zt_n, zn_int, zn_b0, zn_b1, zb_0, za_1, za_2, za_3, za_4, za_5, za_6, za_7, za_8, za_9, za_10, za_11, za_12, za_13, za_14, true_and, and_true, Nat.reduceAdd]
      refine zm_R_eq (c_nameOf hE (d + 0) hS.1.1 hA) ?_
      have nn : (if 8 ≤ zk_w tp n (zk_st tp n k) ∧ zk_w tp n (zk_st tp n k) ≤ 16 then nI (zk_w tp n (zk_st tp n k) - 8) else -1) = (-1 : Int32) := if_neg (by unfold zs_T at t41; omega)
      rw [nn]
      simp only [bX12_beginOne_20, zw_0, zw_1, zs_aloadn0, zs_aloadNn0, zi_12_168, zs_istoren1, zs_iloadn1, zs_iflt, zi_12_171, zs_ifne, zs_iconst, zs_ireturn, zc_none, zc_int, zc_ref, zc_null, zc_long, zh_0, zh_1, zh_2, zh_3, zh_4, zt_i, zt_l, zt_r, zt_n, zn_int, zn_b0, zn_b1, zb_0, za_1, za_2, za_3, za_4, za_5, za_6, za_7, za_8, za_9, za_10, za_11, za_12, za_13, za_14, true_and, and_true, Nat.reduceAdd]
      refine ⟨fun _ => ?_, fun h => absurd (by decide) h⟩
      refine h39 _ _ _ ?_
      simp only [bX12_beginOne_39, zw_0, zw_1, zs_aloadn0, zs_aloadNn0, zg_12_98, zs_iconst, zs_iceq, zs_iloadn1, zs_iflt, zb_0, za_1, za_2, za_3, za_4, za_5, za_6, za_7, za_8, za_9, za_10, za_11, za_12, za_13, za_14, true_and, and_true, Nat.reduceAdd, k9, e1, t41, not_true_eq_false, not_false_eq_true, true_implies, false_implies]
      refine h51 _ _ _ ?_
      simp only [bX12_beginOne_51, zw_0, zw_1, zs_aloadn0, zs_aloadNn0, zg_12_98, zs_iconst, zs_icne, zs_goto, zb_0, za_1, za_2, za_3, za_4, za_5, za_6, za_7, za_8, za_9, za_10, za_11, za_12, za_13, za_14, true_and, and_true, Nat.reduceAdd, k9, e1, t41, not_true_eq_false, not_false_eq_true, true_implies, false_implies]
      refine h65 _ _ _ ?_
      simp only [bX12_beginOne_65, zw_0, zw_1, zs_aloadn0, zs_aloadNn0, zg_12_98, zs_iconst, zs_icne, zg_12_104, zs_goto, zb_0, za_1, za_2, za_3, za_4, za_5, za_6, za_7, za_8, za_9, za_10, za_11, za_12, za_13, za_14, true_and, and_true, Nat.reduceAdd, k9, e1, t41, not_true_eq_false, not_false_eq_true, true_implies, false_implies, m10]
      rw [← tie]
      refine fin 0 (zs_N tp n k) _ (by omega) ?_
      unfold zs_beg
      rw [if_neg (by omega), if_neg (by omega), if_pos t41]
    · rw [if_neg (by omega)] at tie
      rw [show zs_beg (zs_T tp n) (zs_N tp n) cl k ws o cs = .inr (2, k) from if_pos (by omega)]
      exact ⟨zh_F_refl, rfl, hS.1.1, hA, fun _ => rfl⟩
  · refine h0 _ _ _ ?_
    simp only [bX12_beginOne_0, zw_0, zw_1, zs_aloadn0, zs_aloadNn0, zg_12_98, zs_iconst, zs_icne, zg_12_104, zs_sipush, zs_icle, zs_ireturn, zn_int, zn_b0, zn_b1, zb_0, za_1, za_2, za_3, za_4, za_5, za_6, za_7, za_8, za_9, za_10, za_11, za_12, za_13, za_14, true_and, and_true, Nat.reduceAdd, k9, e1, t41, not_true_eq_false, not_false_eq_true, true_implies, false_implies]
    refine h20 _ _ _ ?_
    simp only [bX12_beginOne_20, zw_0, zw_1, zs_aloadn0, zs_aloadNn0, zi_12_168, zs_istoren1, zs_iloadn1, zs_iflt, zi_12_171, zs_ifne, zs_iconst, zs_ireturn, zc_none, zc_int, zc_ref, zc_null, zc_long, zh_0, zh_1, zh_2, zh_3, zh_4, zt_i, zt_l, zt_r, zt_n, zn_int, zn_b0, zn_b1, zb_0, za_1, za_2, za_3, za_4, za_5, za_6, za_7, za_8, za_9, za_10, za_11, za_12, za_13, za_14, true_and, and_true, Nat.reduceAdd]
    refine zm_R_eq (c_nameOf hE (d + 0) hS.1.1 hA) ?_
    by_cases tn : 8 ≤ zs_T tp n k ∧ zs_T tp n k ≤ 16
    · have nn : (if 8 ≤ zk_w tp n (zk_st tp n k) ∧ zk_w tp n (zk_st tp n k) ≤ 16 then nI (zk_w tp n (zk_st tp n k) - 8) else -1) = nI (zs_T tp n k - 8) := if_pos tn
      rw [nn]
      simp only [bX12_beginOne_20, zw_0, zw_1, zs_aloadn0, zs_aloadNn0, zi_12_168, zs_istoren1, zs_iloadn1, zs_iflt, zi_12_171, zs_ifne, zs_iconst, zs_ireturn, zc_none, zc_int, zc_ref, zc_null, zc_long, zh_0, zh_1, zh_2, zh_3, zh_4, zt_i, zt_l, zt_r, zt_n, zn_int, zn_b0, zn_b1, zb_0, za_1, za_2, za_3, za_4, za_5, za_6, za_7, za_8, za_9, za_10, za_11, za_12, za_13, za_14, true_and, and_true, Nat.reduceAdd]
      refine ⟨fun h => absurd h (nI_pos (by omega)), fun _ => ?_⟩
      refine zm_R_eq (c_isOf hE (d + 4) (k := zs_T tp n k - 8) (w := cl) (by omega) hcl hS.2.2.2.2.2.2.1) ?_
      simp only [bX12_beginOne_20, zw_0, zw_1, zs_aloadn0, zs_aloadNn0, zi_12_168, zs_istoren1, zs_iloadn1, zs_iflt, zi_12_171, zs_ifne, zs_iconst, zs_ireturn, zc_none, zc_int, zc_ref, zc_null, zc_long, zh_0, zh_1, zh_2, zh_3, zh_4, zt_i, zt_l, zt_r, zt_n, zn_int, zn_b0, zn_b1, zb_0, za_1, za_2, za_3, za_4, za_5, za_6, za_7, za_8, za_9, za_10, za_11, za_12, za_13, za_14, true_and, and_true, Nat.reduceAdd, zi_b0]
      refine ⟨fun h => ?_, fun h => ?_⟩
      · refine h39 _ _ _ ?_
        simp only [bX12_beginOne_39, zw_0, zw_1, zs_aloadn0, zs_aloadNn0, zg_12_98, zs_iconst, zs_iceq, zs_iloadn1, zs_iflt, zb_0, za_1, za_2, za_3, za_4, za_5, za_6, za_7, za_8, za_9, za_10, za_11, za_12, za_13, za_14, true_and, and_true, Nat.reduceAdd, k9, e1, t41, not_true_eq_false, not_false_eq_true, true_implies, false_implies]
        refine ⟨fun h => absurd h (nI_pos (by omega)), fun _ => ?_⟩
        refine h51 _ _ _ ?_
        simp only [bX12_beginOne_51, zw_0, zw_1, zs_aloadn0, zs_aloadNn0, zg_12_98, zs_iconst, zs_icne, zs_goto, zb_0, za_1, za_2, za_3, za_4, za_5, za_6, za_7, za_8, za_9, za_10, za_11, za_12, za_13, za_14, true_and, and_true, Nat.reduceAdd, k9, e1, t41, not_true_eq_false, not_false_eq_true, true_implies, false_implies]
        refine h64 _ _ _ ?_
        simp only [bX12_beginOne_64, zw_0, zw_1, zs_iconst, zb_0, za_1, za_2, za_3, za_4, za_5, za_6, za_7, za_8, za_9, za_10, za_11, za_12, za_13, za_14, true_and, and_true, Nat.reduceAdd]
        refine h65 _ _ _ ?_
        simp only [bX12_beginOne_65, zw_0, zw_1, zs_aloadn0, zs_aloadNn0, zg_12_98, zs_iconst, zs_icne, zg_12_104, zs_goto, zb_0, za_1, za_2, za_3, za_4, za_5, za_6, za_7, za_8, za_9, za_10, za_11, za_12, za_13, za_14, true_and, and_true, Nat.reduceAdd, k9, e1, t41, not_true_eq_false, not_false_eq_true, true_implies, false_implies]
        refine h80 _ _ _ ?_
        simp only [bX12_beginOne_80, zw_0, zw_1, zs_iloadn1, zb_0, za_1, za_2, za_3, za_4, za_5, za_6, za_7, za_8, za_9, za_10, za_11, za_12, za_13, za_14, true_and, and_true, Nat.reduceAdd]
        refine fin 1 (zs_T tp n k - 8) _ (by omega) ?_
        have h2 : (¬ (zs_T tp n k - 8 = 7 ∧ cl = 2) ∧ ¬ (zs_T tp n k - 8 = 8 ∧ ¬ cl = 0)) := by rw [Bool.not_eq_false] at h; exact of_decide_eq_true h
        unfold zs_beg
        rw [if_neg (fun z => t41 z.1), if_neg (fun z => z.2 h2), if_neg t41, if_pos tn]
      · have h2 : ¬ (¬ (zs_T tp n k - 8 = 7 ∧ cl = 2) ∧ ¬ (zs_T tp n k - 8 = 8 ∧ ¬ cl = 0)) := of_decide_eq_false h
        unfold zs_beg
        rw [if_neg (fun z => t41 z.1), if_pos ⟨tn, h2⟩]
        exact ⟨zh_F_refl, rfl, hS.1.1, hA, fun _ => rfl⟩
    · have nn : (if 8 ≤ zk_w tp n (zk_st tp n k) ∧ zk_w tp n (zk_st tp n k) ≤ 16 then nI (zk_w tp n (zk_st tp n k) - 8) else -1) = (-1 : Int32) := if_neg tn
      rw [nn]
      simp only [bX12_beginOne_20, zw_0, zw_1, zs_aloadn0, zs_aloadNn0, zi_12_168, zs_istoren1, zs_iloadn1, zs_iflt, zi_12_171, zs_ifne, zs_iconst, zs_ireturn, zc_none, zc_int, zc_ref, zc_null, zc_long, zh_0, zh_1, zh_2, zh_3, zh_4, zt_i, zt_l, zt_r, zt_n, zn_int, zn_b0, zn_b1, zb_0, za_1, za_2, za_3, za_4, za_5, za_6, za_7, za_8, za_9, za_10, za_11, za_12, za_13, za_14, true_and, and_true, Nat.reduceAdd]
      refine ⟨fun _ => ?_, fun h => absurd (by decide) h⟩
      refine h39 _ _ _ ?_
      simp only [bX12_beginOne_39, zw_0, zw_1, zs_aloadn0, zs_aloadNn0, zg_12_98, zs_iconst, zs_iceq, zs_iloadn1, zs_iflt, zb_0, za_1, za_2, za_3, za_4, za_5, za_6, za_7, za_8, za_9, za_10, za_11, za_12, za_13, za_14, true_and, and_true, Nat.reduceAdd, k9, e1, t41, not_true_eq_false, not_false_eq_true, true_implies, false_implies]
      refine ⟨fun _ => ?_, fun h => absurd (by decide) h⟩
      have beg : zs_beg (zs_T tp n) (zs_N tp n) cl k ws o cs = (if zs_T tp n k = 38 then zs_opn k 40 ws o cs
  else if zs_T tp n k = 35 then zs_opn k 5 ws o cs
  else if zs_T tp n k = 18 then zs_opn k 41 ws o cs
  else if zs_T tp n k = 20 then zs_opn k 2 ws o cs
  else if zs_T tp n k = 21 then zs_opn k 42 ws o cs
  else if zs_T tp n k = 27 ∧ zh_aa ws = true then zs_opn k 20 ws o cs
  else .inr (1, k)) := by
        unfold zs_beg
        rw [if_neg (fun z => t41 z.1), if_neg (fun z => tn z.1), if_neg t41, if_neg tn]
      have e40 : (nI (zk_so tp n (zk_st tp n k)) = 40) = (zs_T tp n k = 38) := zs_sg (i := 10) ht (by decide)
      have e45 : (nI (zk_so tp n (zk_st tp n k)) = 45) = (zs_T tp n k = 35) := zs_sg (i := 7) ht (by decide)
      refine h93 _ _ _ ?_
      simp only [bX12_beginOne_93, zw_0, zw_1, zs_aloadn0, zs_aloadNn0, zg_12_98, zs_bipush, zs_icne, zi_12_177, zs_ireturn, zh_0, zh_1, zh_2, zh_3, zh_4, zt_i, zt_l, zt_r, zt_n, zn_int, zn_b0, zn_b1, zb_0, za_1, za_2, za_3, za_4, za_5, za_6, za_7, za_8, za_9, za_10, za_11, za_12, za_13, za_14, true_and, and_true, Nat.reduceAdd, k9, e40]
      refine ⟨fun a1 => ?_, fun a1 => ?_⟩
      rotate_left
      · refine zm_R_mono (opn 40 none 0 (by decide) (by decide) (by omega) (by rw [beg, if_pos a1])) (fun r M1 h1 => ?_)
        obtain ⟨x, rfl, h1⟩ := h1
        simp only [bX12_beginOne_93, zw_0, zw_1, zs_aloadn0, zs_aloadNn0, zg_12_98, zs_bipush, zs_icne, zi_12_177, zs_ireturn, zh_0, zh_1, zh_2, zh_3, zh_4, zt_i, zt_l, zt_r, zt_n, zn_int, zn_b0, zn_b1, zb_0, za_1, za_2, za_3, za_4, za_5, za_6, za_7, za_8, za_9, za_10, za_11, za_12, za_13, za_14, true_and, and_true, Nat.reduceAdd]
        exact h1
      refine h109 _ _ _ ?_
      simp only [bX12_beginOne_109, zw_0, zw_1, zs_aloadn0, zs_aloadNn0, zg_12_98, zs_bipush, zs_icne, zs_iconst, zi_12_177, zs_ireturn, zh_0, zh_1, zh_2, zh_3, zh_4, zt_i, zt_l, zt_r, zt_n, zn_int, zn_b0, zn_b1, zb_0, za_1, za_2, za_3, za_4, za_5, za_6, za_7, za_8, za_9, za_10, za_11, za_12, za_13, za_14, true_and, and_true, Nat.reduceAdd, k9, e45]
      refine ⟨fun a2 => ?_, fun a2 => ?_⟩
      rotate_left
      · refine zm_R_mono (opn 5 none 0 (by decide) (by decide) (by omega) (by rw [beg, if_neg a1, if_pos a2])) (fun r M1 h1 => ?_)
        obtain ⟨x, rfl, h1⟩ := h1
        simp only [bX12_beginOne_109, zw_0, zw_1, zs_aloadn0, zs_aloadNn0, zg_12_98, zs_bipush, zs_icne, zs_iconst, zi_12_177, zs_ireturn, zh_0, zh_1, zh_2, zh_3, zh_4, zt_i, zt_l, zt_r, zt_n, zn_int, zn_b0, zn_b1, zb_0, za_1, za_2, za_3, za_4, za_5, za_6, za_7, za_8, za_9, za_10, za_11, za_12, za_13, za_14, true_and, and_true, Nat.reduceAdd]
        exact h1
      have d18 : (decide (zk_w tp n (zk_st tp n k) = 18) = false) = ¬ (zs_T tp n k = 18) := by unfold zs_T; simp
      have d20 : (decide (zk_w tp n (zk_st tp n k) = 20) = false) = ¬ (zs_T tp n k = 20) := by unfold zs_T; simp
      have d21 : (decide (zk_w tp n (zk_st tp n k) = 21) = false) = ¬ (zs_T tp n k = 21) := by unfold zs_T; simp
      have d27 : (decide (zk_w tp n (zk_st tp n k) = 27) = false) = ¬ (zs_T tp n k = 27) := by unfold zs_T; simp
      refine h124 _ _ _ ?_
      simp only [bX12_beginOne_124, zw_0, zw_1, zs_aloadn0, zs_aloadNn0, zs_bipush, zi_12_180, zi_12_184, zs_ifeq, zi_12_177, zs_ireturn, zh_0, zh_1, zh_2, zh_3, zh_4, zt_i, zt_l, zt_r, zt_n, zn_int, zn_b0, zn_b1, zb_0, za_1, za_2, za_3, za_4, za_5, za_6, za_7, za_8, za_9, za_10, za_11, za_12, za_13, za_14, true_and, and_true, Nat.reduceAdd]
      refine zm_R_eq (c_w6 hE (d + 0) 104 97 108 118 101 115 (by decide) (by decide) (by decide) (by decide) (by decide) (by decide) _) ?_
      simp only [bX12_beginOne_124, zw_0, zw_1, zs_aloadn0, zs_aloadNn0, zs_bipush, zi_12_180, zi_12_184, zs_ifeq, zi_12_177, zs_ireturn, zh_0, zh_1, zh_2, zh_3, zh_4, zt_i, zt_l, zt_r, zt_n, zn_int, zn_b0, zn_b1, zb_0, za_1, za_2, za_3, za_4, za_5, za_6, za_7, za_8, za_9, za_10, za_11, za_12, za_13, za_14, true_and, and_true, Nat.reduceAdd]
      refine zm_R_eq (c_isWord hE (d + 4) (i := 18) ht hA (by decide) (by decide)) ?_
      simp only [bX12_beginOne_124, zw_0, zw_1, zs_aloadn0, zs_aloadNn0, zs_bipush, zi_12_180, zi_12_184, zs_ifeq, zi_12_177, zs_ireturn, zh_0, zh_1, zh_2, zh_3, zh_4, zt_i, zt_l, zt_r, zt_n, zn_int, zn_b0, zn_b1, zb_0, za_1, za_2, za_3, za_4, za_5, za_6, za_7, za_8, za_9, za_10, za_11, za_12, za_13, za_14, true_and, and_true, Nat.reduceAdd, zi_b0, d18]
      refine ⟨fun a3 => ?_, fun a3 => ?_⟩
      rotate_left
      · have a3 := Classical.byContradiction a3
        refine zm_R_mono (opn 41 none 0 (by decide) (by decide) (by omega) (by rw [beg, if_neg a1, if_neg a2, if_pos a3])) (fun r M1 h1 => ?_)
        obtain ⟨x, rfl, h1⟩ := h1
        simp only [bX12_beginOne_124, zw_0, zw_1, zs_aloadn0, zs_aloadNn0, zs_bipush, zi_12_180, zi_12_184, zs_ifeq, zi_12_177, zs_ireturn, zh_0, zh_1, zh_2, zh_3, zh_4, zt_i, zt_l, zt_r, zt_n, zn_int, zn_b0, zn_b1, zb_0, za_1, za_2, za_3, za_4, za_5, za_6, za_7, za_8, za_9, za_10, za_11, za_12, za_13, za_14, true_and, and_true, Nat.reduceAdd]
        exact h1
      refine h153 _ _ _ ?_
      simp only [bX12_beginOne_153, zw_0, zw_1, zs_aloadn0, zs_aloadNn0, zs_bipush, zi_12_132, zi_12_184, zs_ifeq, zs_iconst, zi_12_177, zs_ireturn, zh_0, zh_1, zh_2, zh_3, zh_4, zt_i, zt_l, zt_r, zt_n, zn_int, zn_b0, zn_b1, zb_0, za_1, za_2, za_3, za_4, za_5, za_6, za_7, za_8, za_9, za_10, za_11, za_12, za_13, za_14, true_and, and_true, Nat.reduceAdd]
      refine zm_R_eq (c_w5 hE (d + 1) 114 97 110 107 115 (by decide) (by decide) (by decide) (by decide) (by decide) _) ?_
      simp only [bX12_beginOne_153, zw_0, zw_1, zs_aloadn0, zs_aloadNn0, zs_bipush, zi_12_132, zi_12_184, zs_ifeq, zs_iconst, zi_12_177, zs_ireturn, zh_0, zh_1, zh_2, zh_3, zh_4, zt_i, zt_l, zt_r, zt_n, zn_int, zn_b0, zn_b1, zb_0, za_1, za_2, za_3, za_4, za_5, za_6, za_7, za_8, za_9, za_10, za_11, za_12, za_13, za_14, true_and, and_true, Nat.reduceAdd]
      refine zm_R_eq (c_isWord hE (d + 4) (i := 20) ht hA (by decide) (by decide)) ?_
      simp only [bX12_beginOne_153, zw_0, zw_1, zs_aloadn0, zs_aloadNn0, zs_bipush, zi_12_132, zi_12_184, zs_ifeq, zs_iconst, zi_12_177, zs_ireturn, zh_0, zh_1, zh_2, zh_3, zh_4, zt_i, zt_l, zt_r, zt_n, zn_int, zn_b0, zn_b1, zb_0, za_1, za_2, za_3, za_4, za_5, za_6, za_7, za_8, za_9, za_10, za_11, za_12, za_13, za_14, true_and, and_true, Nat.reduceAdd, zi_b0, d20]
      refine ⟨fun a4 => ?_, fun a4 => ?_⟩
      rotate_left
      · have a4 := Classical.byContradiction a4
        refine zm_R_mono (opn 2 none 0 (by decide) (by decide) (by omega) (by rw [beg, if_neg a1, if_neg a2, if_neg a3, if_pos a4])) (fun r M1 h1 => ?_)
        obtain ⟨x, rfl, h1⟩ := h1
        simp only [bX12_beginOne_153, zw_0, zw_1, zs_aloadn0, zs_aloadNn0, zs_bipush, zi_12_132, zi_12_184, zs_ifeq, zs_iconst, zi_12_177, zs_ireturn, zh_0, zh_1, zh_2, zh_3, zh_4, zt_i, zt_l, zt_r, zt_n, zn_int, zn_b0, zn_b1, zb_0, za_1, za_2, za_3, za_4, za_5, za_6, za_7, za_8, za_9, za_10, za_11, za_12, za_13, za_14, true_and, and_true, Nat.reduceAdd]
        exact h1
      refine h179 _ _ _ ?_
      simp only [bX12_beginOne_179, zw_0, zw_1, zs_aloadn0, zs_aloadNn0, zs_bipush, zi_12_120, zi_12_184, zs_ifeq, zi_12_177, zs_ireturn, zh_0, zh_1, zh_2, zh_3, zh_4, zt_i, zt_l, zt_r, zt_n, zn_int, zn_b0, zn_b1, zb_0, za_1, za_2, za_3, za_4, za_5, za_6, za_7, za_8, za_9, za_10, za_11, za_12, za_13, za_14, true_and, and_true, Nat.reduceAdd]
      refine zm_R_eq (c_w2 hE (d + 4) 105 102 (by decide) (by decide) _) ?_
      simp only [bX12_beginOne_179, zw_0, zw_1, zs_aloadn0, zs_aloadNn0, zs_bipush, zi_12_120, zi_12_184, zs_ifeq, zi_12_177, zs_ireturn, zh_0, zh_1, zh_2, zh_3, zh_4, zt_i, zt_l, zt_r, zt_n, zn_int, zn_b0, zn_b1, zb_0, za_1, za_2, za_3, za_4, za_5, za_6, za_7, za_8, za_9, za_10, za_11, za_12, za_13, za_14, true_and, and_true, Nat.reduceAdd]
      refine zm_R_eq (c_isWord hE (d + 4) (i := 21) ht hA (by decide) (by decide)) ?_
      simp only [bX12_beginOne_179, zw_0, zw_1, zs_aloadn0, zs_aloadNn0, zs_bipush, zi_12_120, zi_12_184, zs_ifeq, zi_12_177, zs_ireturn, zh_0, zh_1, zh_2, zh_3, zh_4, zt_i, zt_l, zt_r, zt_n, zn_int, zn_b0, zn_b1, zb_0, za_1, za_2, za_3, za_4, za_5, za_6, za_7, za_8, za_9, za_10, za_11, za_12, za_13, za_14, true_and, and_true, Nat.reduceAdd, zi_b0, d21]
      refine ⟨fun a5 => ?_, fun a5 => ?_⟩
      rotate_left
      · have a5 := Classical.byContradiction a5
        refine zm_R_mono (opn 42 none 0 (by decide) (by decide) (by omega) (by rw [beg, if_neg a1, if_neg a2, if_neg a3, if_neg a4, if_pos a5])) (fun r M1 h1 => ?_)
        obtain ⟨x, rfl, h1⟩ := h1
        simp only [bX12_beginOne_179, zw_0, zw_1, zs_aloadn0, zs_aloadNn0, zs_bipush, zi_12_120, zi_12_184, zs_ifeq, zi_12_177, zs_ireturn, zh_0, zh_1, zh_2, zh_3, zh_4, zt_i, zt_l, zt_r, zt_n, zn_int, zn_b0, zn_b1, zb_0, za_1, za_2, za_3, za_4, za_5, za_6, za_7, za_8, za_9, za_10, za_11, za_12, za_13, za_14, true_and, and_true, Nat.reduceAdd]
        exact h1
      have no : ¬ (zs_T tp n k = 27 ∧ zh_aa ws = true) → ∀ l1, G 232 [some (.ref 0), l1] [] M := by
        intro h l1
        refine h232 _ _ _ ?_
        simp only [bX12_beginOne_232, zw_0, zw_1, zs_iconst, zb_0, za_1, za_2, za_3, za_4, za_5, za_6, za_7, za_8, za_9, za_10, za_11, za_12, za_13, za_14, true_and, and_true, Nat.reduceAdd]
        refine h233 _ _ _ ?_
        simp only [bX12_beginOne_233, zw_0, zw_1, zs_ireturn, zn_int, zn_b0, zn_b1, zb_0, za_1, za_2, za_3, za_4, za_5, za_6, za_7, za_8, za_9, za_10, za_11, za_12, za_13, za_14, true_and, and_true, Nat.reduceAdd]
        rw [beg, if_neg a1, if_neg a2, if_neg a3, if_neg a4, if_neg a5, if_neg h]
        exact ⟨zh_F_refl, rfl, hS.1.1, hA, fun _ => rfl⟩
      refine h200 _ _ _ ?_
      simp only [bX12_beginOne_200, zw_0, zw_1, zs_aloadn0, zs_aloadNn0, zs_bipush, zi_12_124, zi_12_184, zs_ifeq, zi_12_188, zi_12_177, zs_goto, zh_0, zh_1, zh_2, zh_3, zh_4, zt_i, zt_l, zt_r, zt_n, zb_0, za_1, za_2, za_3, za_4, za_5, za_6, za_7, za_8, za_9, za_10, za_11, za_12, za_13, za_14, true_and, and_true, Nat.reduceAdd]
      refine zm_R_eq (c_w3 hE (d + 3) 110 111 116 (by decide) (by decide) (by decide) _) ?_
      simp only [bX12_beginOne_200, zw_0, zw_1, zs_aloadn0, zs_aloadNn0, zs_bipush, zi_12_124, zi_12_184, zs_ifeq, zi_12_188, zi_12_177, zs_goto, zh_0, zh_1, zh_2, zh_3, zh_4, zt_i, zt_l, zt_r, zt_n, zb_0, za_1, za_2, za_3, za_4, za_5, za_6, za_7, za_8, za_9, za_10, za_11, za_12, za_13, za_14, true_and, and_true, Nat.reduceAdd]
      refine zm_R_eq (c_isWord hE (d + 4) (i := 27) ht hA (by decide) (by decide)) ?_
      simp only [bX12_beginOne_200, zw_0, zw_1, zs_aloadn0, zs_aloadNn0, zs_bipush, zi_12_124, zi_12_184, zs_ifeq, zi_12_188, zi_12_177, zs_goto, zh_0, zh_1, zh_2, zh_3, zh_4, zt_i, zt_l, zt_r, zt_n, zb_0, za_1, za_2, za_3, za_4, za_5, za_6, za_7, za_8, za_9, za_10, za_11, za_12, za_13, za_14, true_and, and_true, Nat.reduceAdd, zi_b0, d27]
      refine ⟨fun a6 => no (fun z => a6 z.1) _, fun a6 => ?_⟩
      have a6 := Classical.byContradiction a6
      refine zm_R_eq (c_isAskAhead hE (d + 2) hV.1 hS.2.1) ?_
      simp only [bX12_beginOne_200, zw_0, zw_1, zs_aloadn0, zs_aloadNn0, zs_bipush, zi_12_124, zi_12_184, zs_ifeq, zi_12_188, zi_12_177, zs_goto, zh_0, zh_1, zh_2, zh_3, zh_4, zt_i, zt_l, zt_r, zt_n, zb_0, za_1, za_2, za_3, za_4, za_5, za_6, za_7, za_8, za_9, za_10, za_11, za_12, za_13, za_14, true_and, and_true, Nat.reduceAdd, zi_b0]
      refine ⟨fun a7 => no (fun z => by rw [z.2] at a7; cases a7) _, fun a7 => ?_⟩
      refine zm_R_mono (opn 20 none 0 (by decide) (by decide) (by omega) (by rw [beg, if_neg a1, if_neg a2, if_neg a3, if_neg a4, if_neg a5, if_pos ⟨a6, by simpa using a7⟩])) (fun r M1 h1 => ?_)
      obtain ⟨x, rfl, h1⟩ := h1
      simp only [bX12_beginOne_200, zw_0, zw_1, zs_aloadn0, zs_aloadNn0, zs_bipush, zi_12_124, zi_12_184, zs_ifeq, zi_12_188, zi_12_177, zs_goto, zh_0, zh_1, zh_2, zh_3, zh_4, zt_i, zt_l, zt_r, zt_n, zb_0, za_1, za_2, za_3, za_4, za_5, za_6, za_7, za_8, za_9, za_10, za_11, za_12, za_13, za_14, true_and, and_true, Nat.reduceAdd]
      refine h233 _ _ _ ?_
      simp only [bX12_beginOne_233, zw_0, zw_1, zs_ireturn, zn_int, zn_b0, zn_b1, zb_0, za_1, za_2, za_3, za_4, za_5, za_6, za_7, za_8, za_9, za_10, za_11, za_12, za_13, za_14, true_and, and_true, Nat.reduceAdd]
      exact h1
