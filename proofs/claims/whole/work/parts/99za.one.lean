/-! ===== the class: numbers, names, openings, ones ===== -/
theorem zd_in {v l h : Nat} (hv : v ≤ 10000) (hl : l ≤ 9999) (hh : h ≤ 9999) : (zi_in (nI v) (nI l) (nI h) = 0) = ¬ (l ≤ v ∧ v ≤ h) := by
  unfold zi_in
  by_cases a : v < l
  · rw [if_pos ((nI_ltI (by omega) (by omega)).mpr a)]
    exact propext ⟨fun _ => by omega, fun _ => rfl⟩
  · rw [if_neg (fun z => a ((nI_ltI (by omega) (by omega)).mp z))]
    by_cases b : h < v
    · rw [if_pos ((nI_ltI (by omega) (by omega)).mpr b)]
      exact propext ⟨fun _ => by omega, fun _ => rfl⟩
    · rw [if_neg (fun z => b ((nI_ltI (by omega) (by omega)).mp z))]
      exact propext ⟨fun z => absurd z (by decide), fun z => by omega⟩
section
variable {E : zm_E} {tp : Nat → Nat} {n m L cl : Nat}
theorem zd_rn {d k c l h : Nat} {M : zm_M} (hd : 2 ≤ d) (hl : l ≤ 9999) (hh : h ≤ 9999) (hS : zd_S tp n m L cl k c M) (hE : zm_ok E.2.2.1 E.2.2.2.2) (ht : ∀ j, tp j < 256) (hL : zl_ok L) {Q : Option Value → zm_M → Prop} (q1 : ¬ zs_T tp n k = 41 → ∀ M', zd_E tp n m L 1 k c M' → zk_g M M' → Q (some (.int 0)) M') (q2 : zs_T tp n k = 41 → ¬ (l ≤ zs_N tp n k ∧ zs_N tp n k ≤ h) → ∀ M', zd_E tp n m L 2 k c M' → zk_g M M' → Q (some (.int 0)) M') (q3 : zs_T tp n k = 41 → (l ≤ zs_N tp n k ∧ zs_N tp n k ≤ h) → ∀ M', zd_S tp n m L cl (k + 1) c M' → zk_g M M' → Q (some (.int (nI (zs_N tp n k)))) M') : zm_R E d mX5_readNumber [.ref 761, .int (nI l), .int (nI h)] M Q := by
  obtain ⟨d, rfl⟩ : ∃ e, d = e + 2 := ⟨d - 2, by omega⟩
  have b : zs_N tp n k ≤ 10000 := zk_nc_in _ _ 0 (by decide)
  have e := zd_in b hl hh
  refine c5_readNumber hE d ht (nI l) (nI h) hS.1 (fun z M1 R1 g1 t1 => ?_) (fun v hv z z2 M1 R1 g1 t1 => ?_) (fun v hv z z2 M1 R1 g1 a1 a2 => ?_)
  · exact q1 z M1 (zd_S_E hL (by decide) hS R1 g1 t1) g1
  · have hv : v = zs_N tp n k := hv
    subst hv
    rw [e] at z2
    exact q2 z z2 M1 (zd_S_E hL (by decide) hS R1 g1 t1) g1
  · have hv : v = zs_N tp n k := hv
    subst hv
    rw [e] at z2
    have km := zd_km ht hS (by have : zs_T tp n k = 41 := z
                               omega)
    rw [if_pos km] at R1
    exact q3 z (Classical.byContradiction z2) M1 (zd_S_g hL hS (by omega) R1 g1 a1 a2) g1
theorem zd_rnE {d c f j : Nat} {x y : Int32} {M : zm_M} (hd : 2 ≤ d) (hS : zd_E tp n m L f j c M) (hE : zm_ok E.2.2.1 E.2.2.2.2) (ht : ∀ j, tp j < 256) (hL : zl_ok L) {Q : Option Value → zm_M → Prop} (q : ∀ M', zd_E tp n m L f j c M' → zk_g M M' → Q (some (.int 0)) M') : zm_R E d mX5_readNumber [.ref 761, .int x, .int y] M Q := by
  obtain ⟨d, rfl⟩ : ∃ e, d = e + 2 := ⟨d - 2, by omega⟩
  have t43 := zk_w_m hS.1.1
  refine c5_readNumber hE d ht x y hS.1 (fun z M1 R1 g1 t1 => ?_) (fun v hv z z2 M1 R1 g1 t1 => ?_) (fun v hv z z2 M1 R1 g1 a1 a2 => ?_)
  · obtain ⟨e1, e2⟩ := zd_ftE hS t1
    exact q M1 (zd_E_g hL hS R1 g1 e1 e2) g1
  · omega
  · omega
variable {R : zd_RT} {F : zd_FT}
theorem zd_name {d o k c : Nat} {M : zm_M} (hd : 3 ≤ d) (hcl : cl ≤ 8) (hS : zd_S tp n m L cl k c M) (hE : zm_ok E.2.2.1 E.2.2.2.2) (ht : ∀ j, tp j < 256) (hL : zl_ok L) (r7a : zd_7a (zs_T tp n) (zs_N tp n) cl R F) (h8 : 8 ≤ zs_T tp n k) (h16 : zs_T tp n k ≤ 16) {Q : Option Value → zm_M → Prop} (qo : zd_QO tp n m L cl R 7 o k c M Q) (qf : zd_QF tp n m L F 7 o k c M Q) : zm_R E d mX5_readName [.ref 761] M Q := by
  obtain ⟨d, rfl⟩ : ∃ e, d = e + 1 := ⟨d - 1, by omega⟩
  refine zX5_readName hE rfl (fun G h0 h21 h35 h41 => ?_)
  show G 0 [some (.ref 761), none] [] M
  have g8 := zd_w8 hS
  have fv : zz_fv 1 (zs_T tp n k) = nI (zs_T tp n k - 8) := by
    show zz_nc.getD (zs_T tp n k) 0 = _
    rw [zz_nc_at _ (by omega), if_pos ⟨h8, h16⟩]
  have w44 : zs_T tp n k < 44 := by omega
  have e8 : (nI (zs_T tp n k - 8) = 8) = (zs_T tp n k - 8 = 8) := propext (nI_eq (b := 8) (by omega) (by decide))
  have e7 : (nI (zs_T tp n k - 8) = 7) = (zs_T tp n k - 8 = 7) := propext (nI_eq (b := 7) (by omega) (by decide))
  have c9 : M.1 761 9 = nI cl := hS.2.2.1
  have c0 : (nI cl = 0) = (cl = 0) := propext (nI_eq (b := 0) (by omega) (by decide))
  have c2 : (nI cl = 2) = (cl = 2) := propext (nI_eq (b := 2) (by omega) (by decide))
  have w10 := hS.2.1
  have ol := eq_true hL.2.1
  have bad : ¬ zd_nm cl (zs_T tp n k) → G 35 [some (.ref 761), some (.int (nI (zs_T tp n k - 8)))] [] M := by
    intro hn
    refine h35 _ _ _ ?_
    simp only [bX5_readName_35, zw_0, zw_1, zs_aloadn0, zs_aloadNn0, zs_iconst, zi_5_125, zs_return, zh_0, zh_1, zh_2, zh_3, zh_4, zt_i, zt_l, zt_r, zt_n, zn_int, zn_b0, zn_b1, zb_15, zb_16, zb_17, za_18, za_19, za_20, za_21, za_22, zb_23, za_24, za_25, za_26, za_27, za_28, za_29, za_30, za_31, za_32, zb_35, za_36, za_37, za_38, za_39, za_40, zb_377, zb_378, za_379, za_380, za_381, za_382, za_383, zb_384, za_385, za_386, za_387, za_388, za_389, za_390, za_391, za_392, za_393, zb_396, za_397, za_398, za_399, za_400, za_401, zb_738, za_739, za_740, za_741, za_742, za_743, za_744, za_745, za_746, za_747, zb_748, za_749, za_750, zb_751, zb_752, za_753, za_754, za_755, za_756, zb_757, za_758, za_759, za_760, zb_761, za_763, za_764, za_765, true_and, and_true, Nat.reduceAdd]
    refine zd_comp (f := 5) (by omega) (by decide) hS hE hL (fun M1 e1 g1 => ?_)
    simp only [bX5_readName_35, zw_0, zw_1, zs_aloadn0, zs_aloadNn0, zs_iconst, zi_5_125, zs_return, zh_0, zh_1, zh_2, zh_3, zh_4, zt_i, zt_l, zt_r, zt_n, zn_int, zn_b0, zn_b1, zb_15, zb_16, zb_17, za_18, za_19, za_20, za_21, za_22, zb_23, za_24, za_25, za_26, za_27, za_28, za_29, za_30, za_31, za_32, zb_35, za_36, za_37, za_38, za_39, za_40, zb_377, zb_378, za_379, za_380, za_381, za_382, za_383, zb_384, za_385, za_386, za_387, za_388, za_389, za_390, za_391, za_392, za_393, zb_396, za_397, za_398, za_399, za_400, za_401, zb_738, za_739, za_740, za_741, za_742, za_743, za_744, za_745, za_746, za_747, zb_748, za_749, za_750, zb_751, zb_752, za_753, za_754, za_755, za_756, zb_757, za_758, za_759, za_760, zb_761, za_763, za_764, za_765, true_and, and_true, Nat.reduceAdd]
    exact qf 5 k c M1 (r7a.2.2.2.1 o k h8 h16 hn) e1 (zd_F_g hL g1) (Nat.le_refl _)
  have good : zd_nm cl (zs_T tp n k) → G 41 [some (.ref 761), some (.int (nI (zs_T tp n k - 8)))] [] M := by
    intro hn
    have km := zd_km ht hS (by omega)
    obtain ⟨a1, a2, a3, a4, a5, a6⟩ := hS
    have m3 := a1.1.2.1
    have l := hL.1.1
    obtain ⟨d, rfl⟩ : ∃ e, d = e + 2 := ⟨d - 2, by omega⟩
    refine h41 _ _ _ ?_
    simp only [bX5_readName_41, zw_0, zw_1, zs_aloadn0, zs_aloadNn0, zg_5_51, zs_iconst, zs_iloadn1, zi_5_210, zs_popi, zs_popr, zs_popn, zi_5_122, zs_return, zh_0, zh_1, zh_2, zh_3, zh_4, zt_i, zt_l, zt_r, zt_n, zn_int, zn_b0, zn_b1, zb_15, zb_16, zb_17, za_18, za_19, za_20, za_21, za_22, zb_23, za_24, za_25, za_26, za_27, za_28, za_29, za_30, za_31, za_32, zb_35, za_36, za_37, za_38, za_39, za_40, zb_377, zb_378, za_379, za_380, za_381, za_382, za_383, zb_384, za_385, za_386, za_387, za_388, za_389, za_390, za_391, za_392, za_393, zb_396, za_397, za_398, za_399, za_400, za_401, zb_738, za_739, za_740, za_741, za_742, za_743, za_744, za_745, za_746, za_747, zb_748, za_749, za_750, zb_751, zb_752, za_753, za_754, za_755, za_756, zb_757, za_758, za_759, za_760, zb_761, za_763, za_764, za_765, true_and, and_true, Nat.reduceAdd, w10, zk_rf, ol]
    refine c1_put hE (d + 1) hL 1 (nI (zs_T tp n k - 8)) (by omega) a5 ?_
    have F1 : zd_F L c M (zm_wi (zm_wi (zm_wi M (L + 7) c 1) (L + 8) c (nI (zs_T tp n k - 8))) L 7 (nI (c + 1))) := zd_F_put hL
    have p1 : (zm_wi (zm_wi (zm_wi M (L + 7) c 1) (L + 8) c (nI (zs_T tp n k - 8))) L 7 (nI (c + 1))).1 (L + 7) c = 1 := by rw [zm_wi_other (by omega), zm_wi_other (by omega), zm_wi_same, if_pos rfl]
    have p2 : (zm_wi (zm_wi (zm_wi M (L + 7) c 1) (L + 8) c (nI (zs_T tp n k - 8))) L 7 (nI (c + 1))).1 (L + 8) c = nI (zs_T tp n k - 8) := by rw [zm_wi_other (by omega), zm_wi_same, if_pos rfl]
    have p3 : (zm_wi (zm_wi (zm_wi M (L + 7) c 1) (L + 8) c (nI (zs_T tp n k - 8))) L 7 (nI (c + 1))).1 L 7 = nI (c + 1) := by rw [zm_wi_same, if_pos rfl]
    have p4 : (zm_wi (zm_wi (zm_wi M (L + 7) c 1) (L + 8) c (nI (zs_T tp n k - 8))) L 7 (nI (c + 1))).1 761 1 = M.1 761 1 := by rw [zm_wi_other (by omega), zm_wi_other (by omega), zm_wi_other (by omega)]
    have p5 : (zm_wi (zm_wi (zm_wi M (L + 7) c 1) (L + 8) c (nI (zs_T tp n k - 8))) L 7 (nI (c + 1))).1 761 2 = M.1 761 2 := by rw [zm_wi_other (by omega), zm_wi_other (by omega), zm_wi_other (by omega)]
    have R1 : zk_R tp n m k (zm_wi (zm_wi (zm_wi M (L + 7) c 1) (L + 8) c (nI (zs_T tp n k - 8))) L 7 (nI (c + 1))) := zk_R_c (Z := [L, L + 7, L + 8]) a1 (zf_wi (zf_wi (zf_wi zf_refl (by simp)) (by simp)) (by simp)) (by simp; omega)
    generalize zm_wi (zm_wi (zm_wi M (L + 7) c 1) (L + 8) c (nI (zs_T tp n k - 8))) L 7 (nI (c + 1)) = M1 at *
    simp only [bX5_readName_41, zw_0, zw_1, zs_aloadn0, zs_aloadNn0, zg_5_51, zs_iconst, zs_iloadn1, zi_5_210, zs_popi, zs_popr, zs_popn, zi_5_122, zs_return, zh_0, zh_1, zh_2, zh_3, zh_4, zt_i, zt_l, zt_r, zt_n, zn_int, zn_b0, zn_b1, zb_15, zb_16, zb_17, za_18, za_19, za_20, za_21, za_22, zb_23, za_24, za_25, za_26, za_27, za_28, za_29, za_30, za_31, za_32, zb_35, za_36, za_37, za_38, za_39, za_40, zb_377, zb_378, za_379, za_380, za_381, za_382, za_383, zb_384, za_385, za_386, za_387, za_388, za_389, za_390, za_391, za_392, za_393, zb_396, za_397, za_398, za_399, za_400, za_401, zb_738, za_739, za_740, za_741, za_742, za_743, za_744, za_745, za_746, za_747, zb_748, za_749, za_750, zb_751, zb_752, za_753, za_754, za_755, za_756, zb_757, za_758, za_759, za_760, zb_761, za_763, za_764, za_765, true_and, and_true, Nat.reduceAdd]
    refine c5_step hE (d + 1) R1 (fun M2 R2 g2 b1 b2 => ?_)
    rw [if_pos km] at R2
    simp only [bX5_readName_41, zw_0, zw_1, zs_aloadn0, zs_aloadNn0, zg_5_51, zs_iconst, zs_iloadn1, zi_5_210, zs_popi, zs_popr, zs_popn, zi_5_122, zs_return, zh_0, zh_1, zh_2, zh_3, zh_4, zt_i, zt_l, zt_r, zt_n, zn_int, zn_b0, zn_b1, zb_15, zb_16, zb_17, za_18, za_19, za_20, za_21, za_22, zb_23, za_24, za_25, za_26, za_27, za_28, za_29, za_30, za_31, za_32, zb_35, za_36, za_37, za_38, za_39, za_40, zb_377, zb_378, za_379, za_380, za_381, za_382, za_383, zb_384, za_385, za_386, za_387, za_388, za_389, za_390, za_391, za_392, za_393, zb_396, za_397, za_398, za_399, za_400, za_401, zb_738, za_739, za_740, za_741, za_742, za_743, za_744, za_745, za_746, za_747, zb_748, za_749, za_750, zb_751, zb_752, za_753, za_754, za_755, za_756, zb_757, za_758, za_759, za_760, zb_761, za_763, za_764, za_765, true_and, and_true, Nat.reduceAdd]
    have F2 := zd_F_trans F1 (zd_F_g (c := c) hL g2)
    have q7 : M2.1 (L + 7) c = nI 1 := by rw [(g2.1 (L + 7) (by simp; omega)).1, p1]; rfl
    have q8 : M2.1 (L + 8) c = nI (zs_T tp n k - 8) := by rw [(g2.1 (L + 8) (by simp; omega)).1, p2]
    refine qo (k + 1) (c + 1) _ M2 (r7a.2.2.1 o k h8 h16 hn) (zd_nx7 _) ⟨R2, ?_, ?_, ?_, ?_, by omega⟩ F2 (by omega) (by omega) (by omega) (zl_sm_nam (by omega) q7 q8 (by omega)) (fun z => absurd z (by decide))
    · rw [g2.2.2 10 (by decide), F1.2.2.1 10 (by decide)]; exact a2
    · rw [g2.2.1 9 (by decide), F1.2.1 9 (by decide)]; exact a3
    · exact ⟨by rw [b1, p4]; exact a4.1, by rw [b2, p5]; exact a4.2⟩
    · rw [(g2.1 L (by simp; omega)).1]; exact p3
  refine h0 _ _ _ ?_
  simp only [bX5_readName_0, zw_0, zw_1, zs_aloadn0, zs_aloadNn0, zg_5_45, zgw_222, zs_istoren1, zs_iloadn1, zs_bipush, zs_icne, zg_5_48, zs_ifne, zc_none, zc_int, zc_ref, zc_null, zc_long, zb_15, zb_16, zb_17, za_18, za_19, za_20, za_21, za_22, zb_23, za_24, za_25, za_26, za_27, za_28, za_29, za_30, za_31, za_32, zb_35, za_36, za_37, za_38, za_39, za_40, zb_377, zb_378, za_379, za_380, za_381, za_382, za_383, zb_384, za_385, za_386, za_387, za_388, za_389, za_390, za_391, za_392, za_393, zb_396, za_397, za_398, za_399, za_400, za_401, zb_738, za_739, za_740, za_741, za_742, za_743, za_744, za_745, za_746, za_747, zb_748, za_749, za_750, zb_751, zb_752, za_753, za_754, za_755, za_756, zb_757, za_758, za_759, za_760, zb_761, za_763, za_764, za_765, true_and, and_true, Nat.reduceAdd, g8, zk_rf, fv, e8, c9, c0]
  refine ⟨w44, fun a => ?_, fun a => ⟨fun b => bad (fun z => z.2 ⟨a, b⟩), fun b => ?_⟩⟩
  · refine h21 _ _ _ ?_
    simp only [bX5_readName_21, zw_0, zw_1, zs_iloadn1, zs_bipush, zs_icne, zs_aloadn0, zs_aloadNn0, zg_5_48, zs_iconst, zb_15, zb_16, zb_17, za_18, za_19, za_20, za_21, za_22, zb_23, za_24, za_25, za_26, za_27, za_28, za_29, za_30, za_31, za_32, zb_35, za_36, za_37, za_38, za_39, za_40, zb_377, zb_378, za_379, za_380, za_381, za_382, za_383, zb_384, za_385, za_386, za_387, za_388, za_389, za_390, za_391, za_392, za_393, zb_396, za_397, za_398, za_399, za_400, za_401, zb_738, za_739, za_740, za_741, za_742, za_743, za_744, za_745, za_746, za_747, zb_748, za_749, za_750, zb_751, zb_752, za_753, za_754, za_755, za_756, zb_757, za_758, za_759, za_760, zb_761, za_763, za_764, za_765, true_and, and_true, Nat.reduceAdd, e7, c9, c2]
    exact ⟨fun b => good ⟨fun z => b z.1, fun z => a z.1⟩, fun b => ⟨fun x => good ⟨fun z => x z.2, fun z => a z.1⟩, fun x => bad (fun z => z.1 ⟨b, x⟩)⟩⟩
  · refine h21 _ _ _ ?_
    simp only [bX5_readName_21, zw_0, zw_1, zs_iloadn1, zs_bipush, zs_icne, zs_aloadn0, zs_aloadNn0, zg_5_48, zs_iconst, zb_15, zb_16, zb_17, za_18, za_19, za_20, za_21, za_22, zb_23, za_24, za_25, za_26, za_27, za_28, za_29, za_30, za_31, za_32, zb_35, za_36, za_37, za_38, za_39, za_40, zb_377, zb_378, za_379, za_380, za_381, za_382, za_383, zb_384, za_385, za_386, za_387, za_388, za_389, za_390, za_391, za_392, za_393, zb_396, za_397, za_398, za_399, za_400, za_401, zb_738, za_739, za_740, za_741, za_742, za_743, za_744, za_745, za_746, za_747, zb_748, za_749, za_750, zb_751, zb_752, za_753, za_754, za_755, za_756, zb_757, za_758, za_759, za_760, zb_761, za_763, za_764, za_765, true_and, and_true, Nat.reduceAdd, e7, c9, c2]
    exact ⟨fun y => good ⟨fun z => y z.1, fun z => z.2 b⟩, fun y => ⟨fun x => good ⟨fun z => x z.2, fun z => z.2 b⟩, fun x => bad (fun z => z.1 ⟨y, x⟩)⟩⟩
end
