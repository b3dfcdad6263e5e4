/-! ===== the class: one comes down; merging; a day ===== -/
set_option maxHeartbeats 4000000 in
theorem c0_goDown {E : zm_E} (hE : zm_ok E.2.2.1 E.2.2.2.2) (d : Nat) {n w k : Nat} {b pr : Nat → Int32} {T : Nat → Option zD} {lw : Value} (hww : w = 23 ∨ w = 738) {M : zm_M} {S : zW} (h9 : zc_s9 n b pr M) (hN : zN M) (hT : zc_T M lw T) (hTo : ∀ w, w ≤ 2 → zDo w (T w)) (hi : zw_i n b S) (hk : k < zWn S) (h1' : zWa S 4 k = 1) (hS : zw_c M w S) {Q : Option Value → zm_M → Prop} (q : ∀ M', zw_c M' w (ze_dn true n b pr T S k).1 → zN M' → zf (zF w) M M' → Q (some (.int (nI (ze_dn true n b pr T S k).2))) M') : zm_R E (d + 4) mX0_goDown [.ref 751, .ref w, .int (nI k), lw] M Q := by
  have hw : zw_ok w := by rcases hww with rfl | rfl; exact zw_23; exact zw_738
  have hw2 : 23 ≤ w ∧ w + 9 < 748 ∧ (w + 9 < 41 ∨ 738 ≤ w) := by rcases hww with rfl | rfl <;> decide
  have hlw := zc_T_e hT
  refine zX0_goDown hE (by rcases hlw with e | ⟨L, e⟩ <;> rw [e] <;> rfl) (fun G h0 h65 => ?_)
  have st0 : zm_ent [.ref 751, .ref w, .int (nI k), lw] 5 = [some (.ref 751), some (.ref w), some (.int (nI k)), some lw, none] := by
    rcases hlw with e | ⟨L, e⟩ <;> rw [e] <;> rfl
  rw [st0]
  have hb := h9.1.1
  have hbw : zt_wf n b := zt_wf_c hb h9.2.2.1
  have hn10 := hbw.1
  have hs := hi.1
  have hk10 := hs.1
  obtain ⟨a, f, ea, ef, ba, bf, hab, eds, hdl⟩ := ze_ds_of hbw hi hk h1'
  have hab18 : zt_ab (M.1 18) a f = true := by rw [zt_ab_c hb h9.2.2.1 ba f bf]; exact hab
  have hdn18 : zt_dn (M.1 18) a f = zt_dn b a f := zt_dn_c hb h9.2.2.1 ba f bf hab18
  have ow := eq_true hw.1; have A1 := zw_A hw 1 (by decide) (by decide); have A2 := zw_A hw 2 (by decide) (by decide); have A3 := zw_A hw 3 (by decide) (by decide); have A4 := zw_A hw 4 (by decide) (by decide); have A5 := zw_A hw 5 (by decide) (by decide); have A6 := zw_A hw 6 (by decide) (by decide); have A7 := zw_A hw 7 (by decide) (by decide); have A8 := zw_A hw 8 (by decide) (by decide); have A9 := zw_A9 hw
  have hS0 := hS
  obtain ⟨s1, s2, s3, s4, s5, s6, s7⟩ := hS
  have i1 : vp_in (nI k) 10 := vp_in_nI (by omega) (by decide)
  have i2 : (nI k).toNatClampNeg = k := nI_clamp (by omega)
  have a2 : M.1 (w + 3) k = nI a := by rw [← ea]; exact s5 2 k (by decide) hk
  have a0 : M.1 (w + 1) k = nI f := by rw [← ef]; exact s5 0 k (by decide) hk
  have dn : ze_dn true n b pr T S k = if nI (zt_dn b a f) = zWa S 0 k then (ze_wr true (zw_pt (ze_d1 n b pr T S k (zt_dn b a f)) 4 k 2) k 2, 1) else (ze_d1 n b pr T S k (zt_dn b a f), 0) := by
    unfold ze_dn; rw [eds]
  rw [dn] at q
  generalize hpp : zt_dn b a f = p at *
  refine h0 _ _ _ ?_
  simp only [bX0_goDown_0, zw_0, zw_1, zs_aloadn0, zs_aloadNn0, zg_0_9, zs_aloadn1, zs_aloadNn1, zg_0_53, zs_iloadn2, zs_iaload, zg_0_96, zi_0_99, zs_istore4, zs_iload4, zi_0_59, zg_0_72, zg_0_15, zs_aloadn3, zs_aloadNn3, zs_iconst, zi_0_75, zs_iastore, zs_iceq, zs_ireturn, zc_none, zc_int, zc_ref, zc_null, zc_long, zh_0, zh_1, zh_2, zh_3, zh_4, zt_i, zt_l, zt_r, zt_n, zn_int, zn_b0, zn_b1, zb_15, zb_16, zb_17, za_18, za_19, za_20, za_21, za_22, zb_23, za_24, za_25, za_26, za_27, za_28, za_29, za_30, za_31, za_32, zb_35, za_36, za_37, za_38, za_39, za_40, zb_377, zb_378, za_379, za_380, za_381, za_382, za_383, zb_384, za_385, za_386, za_387, za_388, za_389, za_390, za_391, za_392, za_393, zb_396, za_397, za_398, za_399, za_400, za_401, zb_738, za_739, za_740, za_741, za_742, za_743, za_744, za_745, za_746, za_747, zb_748, za_749, za_750, zb_751, zb_752, za_753, za_754, za_755, za_756, zb_757, za_758, za_759, za_760, zb_761, za_763, za_764, za_765, zu_0, zu_1, zu_2, zu_3, zu_4, zu_5, zu_6, zu_7, zu_8, zu_9, zu_10, zu_11, zu_12, zu_13, zu_14, zu_15, zu_16, zu_17, zu_18, zu_19, zu_20, zu_21, zu_22, zu_23, zu_24, zu_25, zu_26, zu_27, zu_28, zu_29, zu_30, zu_90, zv_0_9, zv_1_9, zv_2_9, zv_3_9, zv_4_9, zv_5_9, zv_6_9, zv_7_9, zv_8_9, zv_0_330, zv_0_4544, zv_1_4544, zv_2_4544, zv_3_4544, zv_4_4544, zv_5_4544, zv_6_4544, zv_7_4544, zv_8_4544, zv_9_4544, zv_10_4544, zv_11_4544, zv_12_4544, zv_13_4544, zv_14_4544, zv_15_4544, zv_16_4544, zv_17_4544, zv_18_4544, zv_19_4544, zv_20_4544, zv_21_4544, zv_22_4544, zv_23_4544, zv_24_4544, zv_25_4544, zv_26_4544, zv_27_4544, zv_28_4544, zv_29_4544, zv_0_11, zv_1_11, zv_0_160, true_and, and_true, Nat.reduceAdd, ow, A1, A2, A3, A4, A5, A6, A7, A8, A9, i1, i2, a2, a0]
  refine zm_R_eq (c7_stepDown hE (d + 2) hb ba bf hab18) ?_
  rw [hdn18]
  simp only [bX0_goDown_0, zw_0, zw_1, zs_aloadn0, zs_aloadNn0, zg_0_9, zs_aloadn1, zs_aloadNn1, zg_0_53, zs_iloadn2, zs_iaload, zg_0_96, zi_0_99, zs_istore4, zs_iload4, zi_0_59, zg_0_72, zg_0_15, zs_aloadn3, zs_aloadNn3, zs_iconst, zi_0_75, zs_iastore, zs_iceq, zs_ireturn, zc_none, zc_int, zc_ref, zc_null, zc_long, zh_0, zh_1, zh_2, zh_3, zh_4, zt_i, zt_l, zt_r, zt_n, zn_int, zn_b0, zn_b1, zb_15, zb_16, zb_17, za_18, za_19, za_20, za_21, za_22, zb_23, za_24, za_25, za_26, za_27, za_28, za_29, za_30, za_31, za_32, zb_35, za_36, za_37, za_38, za_39, za_40, zb_377, zb_378, za_379, za_380, za_381, za_382, za_383, zb_384, za_385, za_386, za_387, za_388, za_389, za_390, za_391, za_392, za_393, zb_396, za_397, za_398, za_399, za_400, za_401, zb_738, za_739, za_740, za_741, za_742, za_743, za_744, za_745, za_746, za_747, zb_748, za_749, za_750, zb_751, zb_752, za_753, za_754, za_755, za_756, zb_757, za_758, za_759, za_760, zb_761, za_763, za_764, za_765, zu_0, zu_1, zu_2, zu_3, zu_4, zu_5, zu_6, zu_7, zu_8, zu_9, zu_10, zu_11, zu_12, zu_13, zu_14, zu_15, zu_16, zu_17, zu_18, zu_19, zu_20, zu_21, zu_22, zu_23, zu_24, zu_25, zu_26, zu_27, zu_28, zu_29, zu_30, zu_90, zv_0_9, zv_1_9, zv_2_9, zv_3_9, zv_4_9, zv_5_9, zv_6_9, zv_7_9, zv_8_9, zv_0_330, zv_0_4544, zv_1_4544, zv_2_4544, zv_3_4544, zv_4_4544, zv_5_4544, zv_6_4544, zv_7_4544, zv_8_4544, zv_9_4544, zv_10_4544, zv_11_4544, zv_12_4544, zv_13_4544, zv_14_4544, zv_15_4544, zv_16_4544, zv_17_4544, zv_18_4544, zv_19_4544, zv_20_4544, zv_21_4544, zv_22_4544, zv_23_4544, zv_24_4544, zv_25_4544, zv_26_4544, zv_27_4544, zv_28_4544, zv_29_4544, zv_0_11, zv_1_11, zv_0_160, true_and, and_true, Nat.reduceAdd, zc_cl hlw]
  refine c0_nameFor hE (d + 1) hw h9 hs hk hdl hS0 (fun M1 e1 e18 f1 => ?_) (by omega)
  have nmo := ze_nm_ok (k := k) (p := p) (pr := pr) hbw hi hk hdl h9.2.2.2.2
  have n1 : zN M1 := by
    intro i hi9
    by_cases c : i = 8
    · subst c; rw [e18]; exact hN 8 (by decide)
    · rw [e1 i (by omega)]; exact nmo i
  simp only [bX0_goDown_0, zw_0, zw_1, zs_aloadn0, zs_aloadNn0, zg_0_9, zs_aloadn1, zs_aloadNn1, zg_0_53, zs_iloadn2, zs_iaload, zg_0_96, zi_0_99, zs_istore4, zs_iload4, zi_0_59, zg_0_72, zg_0_15, zs_aloadn3, zs_aloadNn3, zs_iconst, zi_0_75, zs_iastore, zs_iceq, zs_ireturn, zc_none, zc_int, zc_ref, zc_null, zc_long, zh_0, zh_1, zh_2, zh_3, zh_4, zt_i, zt_l, zt_r, zt_n, zn_int, zn_b0, zn_b1, zb_15, zb_16, zb_17, za_18, za_19, za_20, za_21, za_22, zb_23, za_24, za_25, za_26, za_27, za_28, za_29, za_30, za_31, za_32, zb_35, za_36, za_37, za_38, za_39, za_40, zb_377, zb_378, za_379, za_380, za_381, za_382, za_383, zb_384, za_385, za_386, za_387, za_388, za_389, za_390, za_391, za_392, za_393, zb_396, za_397, za_398, za_399, za_400, za_401, zb_738, za_739, za_740, za_741, za_742, za_743, za_744, za_745, za_746, za_747, zb_748, za_749, za_750, zb_751, zb_752, za_753, za_754, za_755, za_756, zb_757, za_758, za_759, za_760, zb_761, za_763, za_764, za_765, zu_0, zu_1, zu_2, zu_3, zu_4, zu_5, zu_6, zu_7, zu_8, zu_9, zu_10, zu_11, zu_12, zu_13, zu_14, zu_15, zu_16, zu_17, zu_18, zu_19, zu_20, zu_21, zu_22, zu_23, zu_24, zu_25, zu_26, zu_27, zu_28, zu_29, zu_30, zu_90, zv_0_9, zv_1_9, zv_2_9, zv_3_9, zv_4_9, zv_5_9, zv_6_9, zv_7_9, zv_8_9, zv_0_330, zv_0_4544, zv_1_4544, zv_2_4544, zv_3_4544, zv_4_4544, zv_5_4544, zv_6_4544, zv_7_4544, zv_8_4544, zv_9_4544, zv_10_4544, zv_11_4544, zv_12_4544, zv_13_4544, zv_14_4544, zv_15_4544, zv_16_4544, zv_17_4544, zv_18_4544, zv_19_4544, zv_20_4544, zv_21_4544, zv_22_4544, zv_23_4544, zv_24_4544, zv_25_4544, zv_26_4544, zv_27_4544, zv_28_4544, zv_29_4544, zv_0_11, zv_1_11, zv_0_160, true_and, and_true, Nat.reduceAdd, ow, A1, A2, A3, A4, A5, A6, A7, A8, A9, zs_aloadV3 hlw]
  obtain ⟨L, hL⟩ := zc_T_w (zc_T_f hT f1 (by simp)) 2 (by decide)
  have h91 : zc_s9 n b pr M1 := zc_s9_f h9 f1 (by decide) (by decide) (by decide) (by decide)
  refine c2_value hE d (L := L) (n := n) (w := 2) (by decide) h91.1 h91.2.1 n1 hL (fun x M2 hx f2 => ?_)
  rw [zc_sy h91 (hTo 2 (by decide)) (fun i hi7 => e1 i (by have : zn_k 2 = 7 := rfl; omega))] at hx
  have hsy := ze_sy_in n b T 2 (ze_nm b pr S k p)
  have top2 : zq_top 2 = 9999 := rfl
  rw [top2] at hsy
  have ex : x = nI (ze_sy n b T 2 (ze_nm b pr S k p)).toNat := zx_toInt hx (by omega) (by omega)
  have f12 : zf [748, 749, 750] M M2 := zf_trans (zf_sub f1 (by simp)) (zf_sub f2 (by simp))
  have S2 : zw_c M2 w S := zw_c_o hs hS0 f12 (by simp; omega)
  have n2 : zN M2 := fun i hi9 => by rw [(f2 749 (by decide)).1]; exact n1 i hi9
  rw [ex]
  simp only [bX0_goDown_0, zw_0, zw_1, zs_aloadn0, zs_aloadNn0, zg_0_9, zs_aloadn1, zs_aloadNn1, zg_0_53, zs_iloadn2, zs_iaload, zg_0_96, zi_0_99, zs_istore4, zs_iload4, zi_0_59, zg_0_72, zg_0_15, zs_aloadn3, zs_aloadNn3, zs_iconst, zi_0_75, zs_iastore, zs_iceq, zs_ireturn, zc_none, zc_int, zc_ref, zc_null, zc_long, zh_0, zh_1, zh_2, zh_3, zh_4, zt_i, zt_l, zt_r, zt_n, zn_int, zn_b0, zn_b1, zb_15, zb_16, zb_17, za_18, za_19, za_20, za_21, za_22, zb_23, za_24, za_25, za_26, za_27, za_28, za_29, za_30, za_31, za_32, zb_35, za_36, za_37, za_38, za_39, za_40, zb_377, zb_378, za_379, za_380, za_381, za_382, za_383, zb_384, za_385, za_386, za_387, za_388, za_389, za_390, za_391, za_392, za_393, zb_396, za_397, za_398, za_399, za_400, za_401, zb_738, za_739, za_740, za_741, za_742, za_743, za_744, za_745, za_746, za_747, zb_748, za_749, za_750, zb_751, zb_752, za_753, za_754, za_755, za_756, zb_757, za_758, za_759, za_760, zb_761, za_763, za_764, za_765, zu_0, zu_1, zu_2, zu_3, zu_4, zu_5, zu_6, zu_7, zu_8, zu_9, zu_10, zu_11, zu_12, zu_13, zu_14, zu_15, zu_16, zu_17, zu_18, zu_19, zu_20, zu_21, zu_22, zu_23, zu_24, zu_25, zu_26, zu_27, zu_28, zu_29, zu_30, zu_90, zv_0_9, zv_1_9, zv_2_9, zv_3_9, zv_4_9, zv_5_9, zv_6_9, zv_7_9, zv_8_9, zv_0_330, zv_0_4544, zv_1_4544, zv_2_4544, zv_3_4544, zv_4_4544, zv_5_4544, zv_6_4544, zv_7_4544, zv_8_4544, zv_9_4544, zv_10_4544, zv_11_4544, zv_12_4544, zv_13_4544, zv_14_4544, zv_15_4544, zv_16_4544, zv_17_4544, zv_18_4544, zv_19_4544, zv_20_4544, zv_21_4544, zv_22_4544, zv_23_4544, zv_24_4544, zv_25_4544, zv_26_4544, zv_27_4544, zv_28_4544, zv_29_4544, zv_0_11, zv_1_11, zv_0_160, true_and, and_true, Nat.reduceAdd, ow, A1, A2, A3, A4, A5, A6, A7, A8, A9, i1, i2]
  have S4 : zw_c (zm_wi (zm_wi M2 (w + 4) k (nI (ze_sy n b T 2 (ze_nm b pr S k p)).toNat)) (w + 3) k (nI p)) w (ze_d1 n b pr T S k p) := zw_c_pt (x := 2) (zw_c_pt (x := 3) S2 (by decide) _) (by decide) _
  have f4 : zf (zF w) M (zm_wi (zm_wi M2 (w + 4) k (nI (ze_sy n b T 2 (ze_nm b pr S k p)).toNat)) (w + 3) k (nI p)) := zf_wi (zf_wi (zf_sub f12 (fun q hq => zF_m hq)) (zF_w (by simp [zw_L]))) (zF_w (by simp [zw_L]))
  have n4 : zN (zm_wi (zm_wi M2 (w + 4) k (nI (ze_sy n b T 2 (ze_nm b pr S k p)).toNat)) (w + 3) k (nI p)) := fun i hi9 => by rw [zm_wi_other (by omega), zm_wi_other (by omega)]; exact n2 i hi9
  generalize hM4 : zm_wi (zm_wi M2 (w + 4) k (nI (ze_sy n b T 2 (ze_nm b pr S k p)).toNat)) (w + 3) k (nI p) = M4 at *
  have m0 : M4.1 (w + 1) k = zWa S 0 k := S4.2.2.2.2.1 0 k (by decide) hk
  rw [m0]
  refine ⟨fun heq => ?_, fun hne => ?_⟩
  · rw [if_pos heq] at q
    refine h65 _ _ _ ?_
    simp only [bX0_goDown_65, zw_0, zw_1, zs_aloadn1, zs_aloadNn1, zg_0_29, zs_iloadn2, zs_iconst, zs_iastore, zi_0_92, zs_ireturn, zh_0, zh_1, zh_2, zh_3, zh_4, zt_i, zt_l, zt_r, zt_n, zn_int, zn_b0, zn_b1, zb_15, zb_16, zb_17, za_18, za_19, za_20, za_21, za_22, zb_23, za_24, za_25, za_26, za_27, za_28, za_29, za_30, za_31, za_32, zb_35, za_36, za_37, za_38, za_39, za_40, zb_377, zb_378, za_379, za_380, za_381, za_382, za_383, zb_384, za_385, za_386, za_387, za_388, za_389, za_390, za_391, za_392, za_393, zb_396, za_397, za_398, za_399, za_400, za_401, zb_738, za_739, za_740, za_741, za_742, za_743, za_744, za_745, za_746, za_747, zb_748, za_749, za_750, zb_751, zb_752, za_753, za_754, za_755, za_756, zb_757, za_758, za_759, za_760, zb_761, za_763, za_764, za_765, zu_0, zu_1, zu_2, zu_3, zu_4, zu_5, zu_6, zu_7, zu_8, zu_9, zu_10, zu_11, zu_12, zu_13, zu_14, zu_15, zu_16, zu_17, zu_18, zu_19, zu_20, zu_21, zu_22, zu_23, zu_24, zu_25, zu_26, zu_27, zu_28, zu_29, zu_30, zu_90, zv_0_9, zv_1_9, zv_2_9, zv_3_9, zv_4_9, zv_5_9, zv_6_9, zv_7_9, zv_8_9, zv_0_330, zv_0_4544, zv_1_4544, zv_2_4544, zv_3_4544, zv_4_4544, zv_5_4544, zv_6_4544, zv_7_4544, zv_8_4544, zv_9_4544, zv_10_4544, zv_11_4544, zv_12_4544, zv_13_4544, zv_14_4544, zv_15_4544, zv_16_4544, zv_17_4544, zv_18_4544, zv_19_4544, zv_20_4544, zv_21_4544, zv_22_4544, zv_23_4544, zv_24_4544, zv_25_4544, zv_26_4544, zv_27_4544, zv_28_4544, zv_29_4544, zv_0_11, zv_1_11, zv_0_160, true_and, and_true, Nat.reduceAdd, ow, A1, A2, A3, A4, A5, A6, A7, A8, A9, i1, i2]
    have S5 := zw_c_pt (x := 4) (k := k) S4 (by decide) 2
    refine c10_write hE (d + 2) hw 2 (S := zw_pt (ze_d1 n b pr T S k p) 4 k 2) hs hk S5 (fun M6 S6 f6 => ?_)
    simp only [bX0_goDown_65, zw_0, zw_1, zs_aloadn1, zs_aloadNn1, zg_0_29, zs_iloadn2, zs_iconst, zs_iastore, zi_0_92, zs_ireturn, zh_0, zh_1, zh_2, zh_3, zh_4, zt_i, zt_l, zt_r, zt_n, zn_int, zn_b0, zn_b1, zb_15, zb_16, zb_17, za_18, za_19, za_20, za_21, za_22, zb_23, za_24, za_25, za_26, za_27, za_28, za_29, za_30, za_31, za_32, zb_35, za_36, za_37, za_38, za_39, za_40, zb_377, zb_378, za_379, za_380, za_381, za_382, za_383, zb_384, za_385, za_386, za_387, za_388, za_389, za_390, za_391, za_392, za_393, zb_396, za_397, za_398, za_399, za_400, za_401, zb_738, za_739, za_740, za_741, za_742, za_743, za_744, za_745, za_746, za_747, zb_748, za_749, za_750, zb_751, zb_752, za_753, za_754, za_755, za_756, zb_757, za_758, za_759, za_760, zb_761, za_763, za_764, za_765, zu_0, zu_1, zu_2, zu_3, zu_4, zu_5, zu_6, zu_7, zu_8, zu_9, zu_10, zu_11, zu_12, zu_13, zu_14, zu_15, zu_16, zu_17, zu_18, zu_19, zu_20, zu_21, zu_22, zu_23, zu_24, zu_25, zu_26, zu_27, zu_28, zu_29, zu_30, zu_90, zv_0_9, zv_1_9, zv_2_9, zv_3_9, zv_4_9, zv_5_9, zv_6_9, zv_7_9, zv_8_9, zv_0_330, zv_0_4544, zv_1_4544, zv_2_4544, zv_3_4544, zv_4_4544, zv_5_4544, zv_6_4544, zv_7_4544, zv_8_4544, zv_9_4544, zv_10_4544, zv_11_4544, zv_12_4544, zv_13_4544, zv_14_4544, zv_15_4544, zv_16_4544, zv_17_4544, zv_18_4544, zv_19_4544, zv_20_4544, zv_21_4544, zv_22_4544, zv_23_4544, zv_24_4544, zv_25_4544, zv_26_4544, zv_27_4544, zv_28_4544, zv_29_4544, zv_0_11, zv_1_11, zv_0_160, true_and, and_true, Nat.reduceAdd]
    refine q M6 S6 (fun i hi9 => ?_) (zf_trans (zf_wi f4 (zF_w (by simp [zw_L]))) (zf_sub f6 (fun q hq => zF_w hq)))
    rw [(f6 749 (fun z => by have := zw_L_mem z; omega)).1, zm_wi_other (by omega)]
    exact n4 i hi9
  · rw [if_neg hne] at q
    exact q M4 S4 n4 f4
theorem c0_mergeInto {E : zm_E} (hE : zm_ok E.2.2.1 E.2.2.2.2) (d : Nat) {n w k e : Nat} {b : Nat → Int32} (hw : zw_ok w) {M : zm_M} {S : zW} (hi : zw_i n b S) (hke : k < e) (he : e < zWn S) (hS : zw_c M w S) {Q : Option Value → zm_M → Prop} (q : ∀ M', zw_c M' w (ze_mg true S k e) → zf (zw_L w) M M' → Q none M') : zm_R E (d + 2) mX0_mergeInto [.ref 751, .ref w, .int (nI k), .int (nI e)] M Q := by
  refine zX0_mergeInto hE rfl (fun G h0 => ?_)
  show G 0 [some (.ref 751), some (.ref w), some (.int (nI k)), some (.int (nI e)), none, none] [] M
  have ow := eq_true hw.1; have A1 := zw_A hw 1 (by decide) (by decide); have A2 := zw_A hw 2 (by decide) (by decide); have A3 := zw_A hw 3 (by decide) (by decide); have A4 := zw_A hw 4 (by decide) (by decide); have A5 := zw_A hw 5 (by decide) (by decide); have A6 := zw_A hw 6 (by decide) (by decide); have A7 := zw_A hw 7 (by decide) (by decide); have A8 := zw_A hw 8 (by decide) (by decide); have A9 := zw_A9 hw
  have hs := hi.1
  have hk10 := hs.1
  obtain ⟨f, t, a, s, hh, g, e0, e1, e2, e3, e4, e5, bf, bt_, ba, bs, bh, bg, ab1, ab2, ab3⟩ := hi.2.2.2.1 k (by omega)
  obtain ⟨f', t', a', s', hh', g', e0', e1', e2', e3', e4', e5', bf', bt', ba', bs', bh', bg', ab1', ab2', ab3'⟩ := hi.2.2.2.1 e he
  have hS0 := hS
  obtain ⟨s1, s2, s3, s4, s5, s6, s7⟩ := hS
  have i1 : vp_in (nI k) 10 := vp_in_nI (by omega) (by decide)
  have i2 : (nI k).toNatClampNeg = k := nI_clamp (by omega)
  have j1 : vp_in (nI e) 10 := vp_in_nI (by omega) (by decide)
  have j2 : (nI e).toNatClampNeg = e := nI_clamp (by omega)
  have mk : M.1 (w + 4) k = nI s := by rw [← e3]; exact s5 3 k (by decide) (by omega)
  have me : M.1 (w + 4) e = nI s' := by rw [← e3']; exact s5 3 e (by decide) he
  have hv : (if (9999 : Int32) < (if nI s < nI s' then nI s' else nI s) + (if nI s' < nI s then nI s' else nI s) / 2 then 9999 else (if nI s < nI s' then nI s' else nI s) + (if nI s' < nI s then nI s' else nI s) / 2) = ze_mn (ze_mv S k e) := by
    have l1 : (nI s < nI s') ↔ s < s' := nI_ltI (by omega) (by omega)
    have l2 : (nI s' < nI s) ↔ s' < s := nI_ltI (by omega) (by omega)
    have dv : ∀ m : Nat, m ≤ 9999 → (nI m / 2 : Int32).toInt = ((m / 2 : Nat) : Int) := by
      intro m hm
      rw [Int32.toInt_div, nI_toInt (by omega), show (2 : Int32).toInt = ((2 : Nat) : Int) from rfl, ← Int.ofNat_tdiv, Int.bmod_eq_of_le (by omega) (by omega)]
    have td : ∀ m : Nat, (m : Int).tdiv 2 = ((m / 2 : Nat) : Int) := fun m => rfl
    have mv : ze_mv S k e = if s' < s then ((s + s' / 2 : Nat) : Int) else ((s' + s / 2 : Nat) : Int) := by
      unfold ze_mv
      rw [e3, e3', nI_toInt (by omega), nI_toInt (by omega), td, td]
      by_cases c : s' < s
      · rw [if_pos (by omega), if_pos c]; omega
      · rw [if_neg (by omega), if_neg c]; omega
    rw [mv]
    by_cases c : s' < s
    · have n1 : ¬ nI s < nI s' := fun z => by have := l1.mp z; omega
      have p1 : nI s' < nI s := l2.mpr c
      rw [if_neg n1, if_pos p1, if_pos c]
      refine zx_min ?_ (by omega) (by omega)
      have := zx_addI (a := nI s) (b := nI s' / 2) (nI_toInt (n := s) (by omega)) (dv s' bs') (by omega) (by omega)
      rw [this]; omega
    · have e6 : (if nI s < nI s' then nI s' else nI s) = nI s' := by
        by_cases c2 : s < s'
        · rw [if_pos (l1.mpr c2)]
        · rw [if_neg (fun z => c2 (l1.mp z)), show s = s' by omega]
      have n2 : ¬ nI s' < nI s := fun z => c (l2.mp z)
      rw [e6, if_neg n2, if_neg c]
      refine zx_min ?_ (by omega) (by omega)
      have := zx_addI (a := nI s') (b := nI s / 2) (nI_toInt (n := s') (by omega)) (dv s bs) (by omega) (by omega)
      rw [this]; omega
  refine h0 _ _ _ ?_
  simp only [bX0_mergeInto_0, zw_0, zw_1, zs_aloadn1, zs_aloadNn1, zg_0_72, zs_iloadn2, zs_iaload, zs_iloadn3, zi_0_112, zs_istore4, zi_0_79, zs_istore5, zs_iload4, zs_iload5, zs_iconst, zs_idiv, zs_iadd, zs_sipush, zs_iastore, zg_0_29, zi_0_92, zs_return, zc_none, zc_int, zc_ref, zc_null, zc_long, zh_0, zh_1, zh_2, zh_3, zh_4, zt_i, zt_l, zt_r, zt_n, zn_int, zn_b0, zn_b1, zb_15, zb_16, zb_17, za_18, za_19, za_20, za_21, za_22, zb_23, za_24, za_25, za_26, za_27, za_28, za_29, za_30, za_31, za_32, zb_35, za_36, za_37, za_38, za_39, za_40, zb_377, zb_378, za_379, za_380, za_381, za_382, za_383, zb_384, za_385, za_386, za_387, za_388, za_389, za_390, za_391, za_392, za_393, zb_396, za_397, za_398, za_399, za_400, za_401, zb_738, za_739, za_740, za_741, za_742, za_743, za_744, za_745, za_746, za_747, zb_748, za_749, za_750, zb_751, zb_752, za_753, za_754, za_755, za_756, zb_757, za_758, za_759, za_760, zb_761, za_763, za_764, za_765, zu_0, zu_1, zu_2, zu_3, zu_4, zu_5, zu_6, zu_7, zu_8, zu_9, zu_10, zu_11, zu_12, zu_13, zu_14, zu_15, zu_16, zu_17, zu_18, zu_19, zu_20, zu_21, zu_22, zu_23, zu_24, zu_25, zu_26, zu_27, zu_28, zu_29, zu_30, zu_90, zv_0_9, zv_1_9, zv_2_9, zv_3_9, zv_4_9, zv_5_9, zv_6_9, zv_7_9, zv_8_9, zv_0_330, zv_0_4544, zv_1_4544, zv_2_4544, zv_3_4544, zv_4_4544, zv_5_4544, zv_6_4544, zv_7_4544, zv_8_4544, zv_9_4544, zv_10_4544, zv_11_4544, zv_12_4544, zv_13_4544, zv_14_4544, zv_15_4544, zv_16_4544, zv_17_4544, zv_18_4544, zv_19_4544, zv_20_4544, zv_21_4544, zv_22_4544, zv_23_4544, zv_24_4544, zv_25_4544, zv_26_4544, zv_27_4544, zv_28_4544, zv_29_4544, zv_0_11, zv_1_11, zv_0_160, true_and, and_true, Nat.reduceAdd, ow, A1, A2, A3, A4, A5, A6, A7, A8, A9, i1, i2, j1, j2, mk, me, hv]
  refine ⟨by decide, ?_⟩
  have S3 := zw_c_pt (x := 4) (k := e) (zw_c_pt (x := 3) (k := e) (zw_c_pt (x := 3) (k := k) hS0 (by decide) (ze_mn (ze_mv S k e))) (by decide) 0) (by decide) 2
  refine c10_write hE d hw 3 (S := zw_pt (zw_pt (zw_pt S 3 k (ze_mn (ze_mv S k e))) 3 e 0) 4 e 2) hs he S3 (fun M6 S6 f6 => ?_)
  simp only [bX0_mergeInto_0, zw_0, zw_1, zs_aloadn1, zs_aloadNn1, zg_0_72, zs_iloadn2, zs_iaload, zs_iloadn3, zi_0_112, zs_istore4, zi_0_79, zs_istore5, zs_iload4, zs_iload5, zs_iconst, zs_idiv, zs_iadd, zs_sipush, zs_iastore, zg_0_29, zi_0_92, zs_return, zc_none, zc_int, zc_ref, zc_null, zc_long, zh_0, zh_1, zh_2, zh_3, zh_4, zt_i, zt_l, zt_r, zt_n, zn_int, zn_b0, zn_b1, zb_15, zb_16, zb_17, za_18, za_19, za_20, za_21, za_22, zb_23, za_24, za_25, za_26, za_27, za_28, za_29, za_30, za_31, za_32, zb_35, za_36, za_37, za_38, za_39, za_40, zb_377, zb_378, za_379, za_380, za_381, za_382, za_383, zb_384, za_385, za_386, za_387, za_388, za_389, za_390, za_391, za_392, za_393, zb_396, za_397, za_398, za_399, za_400, za_401, zb_738, za_739, za_740, za_741, za_742, za_743, za_744, za_745, za_746, za_747, zb_748, za_749, za_750, zb_751, zb_752, za_753, za_754, za_755, za_756, zb_757, za_758, za_759, za_760, zb_761, za_763, za_764, za_765, zu_0, zu_1, zu_2, zu_3, zu_4, zu_5, zu_6, zu_7, zu_8, zu_9, zu_10, zu_11, zu_12, zu_13, zu_14, zu_15, zu_16, zu_17, zu_18, zu_19, zu_20, zu_21, zu_22, zu_23, zu_24, zu_25, zu_26, zu_27, zu_28, zu_29, zu_30, zu_90, zv_0_9, zv_1_9, zv_2_9, zv_3_9, zv_4_9, zv_5_9, zv_6_9, zv_7_9, zv_8_9, zv_0_330, zv_0_4544, zv_1_4544, zv_2_4544, zv_3_4544, zv_4_4544, zv_5_4544, zv_6_4544, zv_7_4544, zv_8_4544, zv_9_4544, zv_10_4544, zv_11_4544, zv_12_4544, zv_13_4544, zv_14_4544, zv_15_4544, zv_16_4544, zv_17_4544, zv_18_4544, zv_19_4544, zv_20_4544, zv_21_4544, zv_22_4544, zv_23_4544, zv_24_4544, zv_25_4544, zv_26_4544, zv_27_4544, zv_28_4544, zv_29_4544, zv_0_11, zv_1_11, zv_0_160, true_and, and_true, Nat.reduceAdd]
  exact q M6 S6 (zf_trans (zf_wi (zf_wi (zf_wi zf_refl (by simp [zw_L])) (by simp [zw_L])) (by simp [zw_L])) f6)
theorem c0_merge {E : zm_E} (hE : zm_ok E.2.2.1 E.2.2.2.2) (d : Nat) {n w : Nat} {b : Nat → Int32} (hw : zw_ok w) {M : zm_M} {S : zW} (hi : zw_i n b S) (hS : zw_c M w S) {Q : Option Value → zm_M → Prop} (q : ∀ M', zw_c M' w (ze_l2 true (zWn S) (zWn S) 0 S).1 → zf (zw_L w) M M' → Q (some (.int (nI (ze_l2 true (zWn S) (zWn S) 0 S).2))) M') : zm_R E (d + 3) mX0_merge [.ref 751, .ref w] M Q := by
  refine zX0_merge hE rfl (fun G h0 h4 h17 h88 h94 h100 => ?_)
  show G 0 [some (.ref 751), some (.ref w), none, none, none] [] M
  have ow := eq_true hw.1; have A1 := zw_A hw 1 (by decide) (by decide); have A2 := zw_A hw 2 (by decide) (by decide); have A3 := zw_A hw 3 (by decide) (by decide); have A4 := zw_A hw 4 (by decide) (by decide); have A5 := zw_A hw 5 (by decide) (by decide); have A6 := zw_A hw 6 (by decide) (by decide); have A7 := zw_A hw 7 (by decide) (by decide); have A8 := zw_A hw 8 (by decide) (by decide); have A9 := zw_A9 hw
  have hm10 := hi.1.1
  generalize hm : zWn S = m at *
  have inner : ∀ (f e k c : Nat) (S1 : zW) (M1 : zm_M), k < e → e + f = m → zWn S1 = m → zw_i n b S1 → zw_c M1 w S1 → zf (zw_L w) M M1 → (∀ M2, zw_c M2 w (ze_l3 true k f e S1).1 → zf (zw_L w) M M2 → ∀ l4, G 94 [some (.ref 751), some (.ref w), some (.int (nI (c + (ze_l3 true k f e S1).2))), some (.int (nI k)), l4] [] M2) → G 17 [some (.ref 751), some (.ref w), some (.int (nI c)), some (.int (nI k)), some (.int (nI e))] [] M1 := by
    intro f
    induction f with
    | zero =>
      intro e k c S1 M1 hke he hn1 hi1 hS1 hf1 hq
      have s3 : M1.1 w 2 = nI m := by rw [← hn1]; exact hS1.2.2.1
      refine h17 _ _ _ ?_
      simp only [bX0_merge_17, zw_0, zw_1, zs_iload4, zs_aloadn1, zs_aloadNn1, zg_0_19, zs_icge, zg_0_29, zs_iloadn3, zs_iaload, zs_ifne, zg_0_85, zs_icne, zg_0_53, zs_aloadn0, zs_aloadNn0, zi_0_109, zs_iinc2, zc_none, zc_int, zc_ref, zc_null, zc_long, zh_0, zh_1, zh_2, zh_3, zh_4, zt_i, zt_l, zt_r, zt_n, zb_15, zb_16, zb_17, za_18, za_19, za_20, za_21, za_22, zb_23, za_24, za_25, za_26, za_27, za_28, za_29, za_30, za_31, za_32, zb_35, za_36, za_37, za_38, za_39, za_40, zb_377, zb_378, za_379, za_380, za_381, za_382, za_383, zb_384, za_385, za_386, za_387, za_388, za_389, za_390, za_391, za_392, za_393, zb_396, za_397, za_398, za_399, za_400, za_401, zb_738, za_739, za_740, za_741, za_742, za_743, za_744, za_745, za_746, za_747, zb_748, za_749, za_750, zb_751, zb_752, za_753, za_754, za_755, za_756, zb_757, za_758, za_759, za_760, zb_761, za_763, za_764, za_765, zu_0, zu_1, zu_2, zu_3, zu_4, zu_5, zu_6, zu_7, zu_8, zu_9, zu_10, zu_11, zu_12, zu_13, zu_14, zu_15, zu_16, zu_17, zu_18, zu_19, zu_20, zu_21, zu_22, zu_23, zu_24, zu_25, zu_26, zu_27, zu_28, zu_29, zu_30, zu_90, zv_0_9, zv_1_9, zv_2_9, zv_3_9, zv_4_9, zv_5_9, zv_6_9, zv_7_9, zv_8_9, zv_0_330, zv_0_4544, zv_1_4544, zv_2_4544, zv_3_4544, zv_4_4544, zv_5_4544, zv_6_4544, zv_7_4544, zv_8_4544, zv_9_4544, zv_10_4544, zv_11_4544, zv_12_4544, zv_13_4544, zv_14_4544, zv_15_4544, zv_16_4544, zv_17_4544, zv_18_4544, zv_19_4544, zv_20_4544, zv_21_4544, zv_22_4544, zv_23_4544, zv_24_4544, zv_25_4544, zv_26_4544, zv_27_4544, zv_28_4544, zv_29_4544, zv_0_11, zv_1_11, zv_0_160, true_and, and_true, Nat.reduceAdd, ow, A1, A2, A3, A4, A5, A6, A7, A8, A9, s3]
      refine ⟨fun _ => hq M1 hS1 hf1 _, fun h => absurd (nI_le (by omega) (by omega)) h⟩
    | succ f ih =>
      intro e k c S1 M1 hke he hn1 hi1 hS1 hf1 hq
      have s3 : M1.1 w 2 = nI m := by rw [← hn1]; exact hS1.2.2.1
      have i1 : vp_in (nI k) 10 := vp_in_nI (by omega) (by decide)
      have i2 : (nI k).toNatClampNeg = k := nI_clamp (by omega)
      have j1 : vp_in (nI e) 10 := vp_in_nI (by omega) (by decide)
      have j2 : (nI e).toNatClampNeg = e := nI_clamp (by omega)
      have r : ∀ x j, x < 7 → j < m → M1.1 (w + (1 + x)) j = zWa S1 x j := fun x j hx hj => hS1.2.2.2.2.1 x j hx (by omega)
      have k4 : M1.1 (w + 5) k = zWa S1 4 k := r 4 k (by decide) (by omega)
      have e4 : M1.1 (w + 5) e = zWa S1 4 e := r 4 e (by decide) (by omega)
      have k1 : M1.1 (w + 2) k = zWa S1 1 k := r 1 k (by decide) (by omega)
      have e1 : M1.1 (w + 2) e = zWa S1 1 e := r 1 e (by decide) (by omega)
      have k2 : M1.1 (w + 3) k = zWa S1 2 k := r 2 k (by decide) (by omega)
      have e2 : M1.1 (w + 3) e = zWa S1 2 e := r 2 e (by decide) (by omega)
      have no : ze_mc S1 k e = false → G 88 [some (.ref 751), some (.ref w), some (.int (nI c)), some (.int (nI k)), some (.int (nI e))] [] M1 := by
        intro hno
        simp only [ze_l3, hno] at hq
        refine h88 _ _ _ ?_
        simp only [bX0_merge_88, zw_0, zw_1, zs_iinc4, zs_goto, zc_none, zc_int, zc_ref, zc_null, zc_long, zb_15, zb_16, zb_17, za_18, za_19, za_20, za_21, za_22, zb_23, za_24, za_25, za_26, za_27, za_28, za_29, za_30, za_31, za_32, zb_35, za_36, za_37, za_38, za_39, za_40, zb_377, zb_378, za_379, za_380, za_381, za_382, za_383, zb_384, za_385, za_386, za_387, za_388, za_389, za_390, za_391, za_392, za_393, zb_396, za_397, za_398, za_399, za_400, za_401, zb_738, za_739, za_740, za_741, za_742, za_743, za_744, za_745, za_746, za_747, zb_748, za_749, za_750, zb_751, zb_752, za_753, za_754, za_755, za_756, zb_757, za_758, za_759, za_760, zb_761, za_763, za_764, za_765, true_and, and_true, Nat.reduceAdd, nI_1]
        exact ih (e + 1) k c S1 M1 (by omega) (by omega) hn1 hi1 hS1 hf1 hq
      refine h17 _ _ _ ?_
      simp only [bX0_merge_17, zw_0, zw_1, zs_iload4, zs_aloadn1, zs_aloadNn1, zg_0_19, zs_icge, zg_0_29, zs_iloadn3, zs_iaload, zs_ifne, zg_0_85, zs_icne, zg_0_53, zs_aloadn0, zs_aloadNn0, zi_0_109, zs_iinc2, zc_none, zc_int, zc_ref, zc_null, zc_long, zh_0, zh_1, zh_2, zh_3, zh_4, zt_i, zt_l, zt_r, zt_n, zb_15, zb_16, zb_17, za_18, za_19, za_20, za_21, za_22, zb_23, za_24, za_25, za_26, za_27, za_28, za_29, za_30, za_31, za_32, zb_35, za_36, za_37, za_38, za_39, za_40, zb_377, zb_378, za_379, za_380, za_381, za_382, za_383, zb_384, za_385, za_386, za_387, za_388, za_389, za_390, za_391, za_392, za_393, zb_396, za_397, za_398, za_399, za_400, za_401, zb_738, za_739, za_740, za_741, za_742, za_743, za_744, za_745, za_746, za_747, zb_748, za_749, za_750, zb_751, zb_752, za_753, za_754, za_755, za_756, zb_757, za_758, za_759, za_760, zb_761, za_763, za_764, za_765, zu_0, zu_1, zu_2, zu_3, zu_4, zu_5, zu_6, zu_7, zu_8, zu_9, zu_10, zu_11, zu_12, zu_13, zu_14, zu_15, zu_16, zu_17, zu_18, zu_19, zu_20, zu_21, zu_22, zu_23, zu_24, zu_25, zu_26, zu_27, zu_28, zu_29, zu_30, zu_90, zv_0_9, zv_1_9, zv_2_9, zv_3_9, zv_4_9, zv_5_9, zv_6_9, zv_7_9, zv_8_9, zv_0_330, zv_0_4544, zv_1_4544, zv_2_4544, zv_3_4544, zv_4_4544, zv_5_4544, zv_6_4544, zv_7_4544, zv_8_4544, zv_9_4544, zv_10_4544, zv_11_4544, zv_12_4544, zv_13_4544, zv_14_4544, zv_15_4544, zv_16_4544, zv_17_4544, zv_18_4544, zv_19_4544, zv_20_4544, zv_21_4544, zv_22_4544, zv_23_4544, zv_24_4544, zv_25_4544, zv_26_4544, zv_27_4544, zv_28_4544, zv_29_4544, zv_0_11, zv_1_11, zv_0_160, true_and, and_true, Nat.reduceAdd, ow, A1, A2, A3, A4, A5, A6, A7, A8, A9, s3, i1, i2, j1, j2, k4, e4, k1, e1, k2, e2]
      refine ⟨fun h => absurd h (nI_ge (by omega) (by omega)), fun _ => ⟨fun h => no ?_, fun a1 => ⟨fun h => no ?_, fun a2 => ⟨fun h => no ?_, fun a3 => ⟨fun h => no ?_, fun a4 => ?_⟩⟩⟩⟩⟩
      · unfold ze_mc; simp [h]
      · unfold ze_mc; simp [h]
      · unfold ze_mc; simp [h]
      · unfold ze_mc; simp [h]
      · have yes : ze_mc S1 k e = true := by unfold ze_mc; simp [a1, a2, a3, a4]
        simp only [ze_l3, yes, if_true] at hq
        obtain ⟨g1, g2⟩ := ze_mg_i (wr := true) hi1 hke (by omega)
        refine c0_mergeInto hE d hw hi1 hke (by omega) hS1 (fun M2 S2 f2 => ?_)
        simp only [bX0_merge_17, zw_0, zw_1, zs_iload4, zs_aloadn1, zs_aloadNn1, zg_0_19, zs_icge, zg_0_29, zs_iloadn3, zs_iaload, zs_ifne, zg_0_85, zs_icne, zg_0_53, zs_aloadn0, zs_aloadNn0, zi_0_109, zs_iinc2, zc_none, zc_int, zc_ref, zc_null, zc_long, zh_0, zh_1, zh_2, zh_3, zh_4, zt_i, zt_l, zt_r, zt_n, zb_15, zb_16, zb_17, za_18, za_19, za_20, za_21, za_22, zb_23, za_24, za_25, za_26, za_27, za_28, za_29, za_30, za_31, za_32, zb_35, za_36, za_37, za_38, za_39, za_40, zb_377, zb_378, za_379, za_380, za_381, za_382, za_383, zb_384, za_385, za_386, za_387, za_388, za_389, za_390, za_391, za_392, za_393, zb_396, za_397, za_398, za_399, za_400, za_401, zb_738, za_739, za_740, za_741, za_742, za_743, za_744, za_745, za_746, za_747, zb_748, za_749, za_750, zb_751, zb_752, za_753, za_754, za_755, za_756, zb_757, za_758, za_759, za_760, zb_761, za_763, za_764, za_765, zu_0, zu_1, zu_2, zu_3, zu_4, zu_5, zu_6, zu_7, zu_8, zu_9, zu_10, zu_11, zu_12, zu_13, zu_14, zu_15, zu_16, zu_17, zu_18, zu_19, zu_20, zu_21, zu_22, zu_23, zu_24, zu_25, zu_26, zu_27, zu_28, zu_29, zu_30, zu_90, zv_0_9, zv_1_9, zv_2_9, zv_3_9, zv_4_9, zv_5_9, zv_6_9, zv_7_9, zv_8_9, zv_0_330, zv_0_4544, zv_1_4544, zv_2_4544, zv_3_4544, zv_4_4544, zv_5_4544, zv_6_4544, zv_7_4544, zv_8_4544, zv_9_4544, zv_10_4544, zv_11_4544, zv_12_4544, zv_13_4544, zv_14_4544, zv_15_4544, zv_16_4544, zv_17_4544, zv_18_4544, zv_19_4544, zv_20_4544, zv_21_4544, zv_22_4544, zv_23_4544, zv_24_4544, zv_25_4544, zv_26_4544, zv_27_4544, zv_28_4544, zv_29_4544, zv_0_11, zv_1_11, zv_0_160, true_and, and_true, Nat.reduceAdd, nI_1]
        refine h88 _ _ _ ?_
        simp only [bX0_merge_88, zw_0, zw_1, zs_iinc4, zs_goto, zc_none, zc_int, zc_ref, zc_null, zc_long, zb_15, zb_16, zb_17, za_18, za_19, za_20, za_21, za_22, zb_23, za_24, za_25, za_26, za_27, za_28, za_29, za_30, za_31, za_32, zb_35, za_36, za_37, za_38, za_39, za_40, zb_377, zb_378, za_379, za_380, za_381, za_382, za_383, zb_384, za_385, za_386, za_387, za_388, za_389, za_390, za_391, za_392, za_393, zb_396, za_397, za_398, za_399, za_400, za_401, zb_738, za_739, za_740, za_741, za_742, za_743, za_744, za_745, za_746, za_747, zb_748, za_749, za_750, zb_751, zb_752, za_753, za_754, za_755, za_756, zb_757, za_758, za_759, za_760, zb_761, za_763, za_764, za_765, true_and, and_true, Nat.reduceAdd, nI_1]
        refine ih (e + 1) k (c + 1) _ M2 (by omega) (by omega) (g2.trans hn1) g1 S2 (zf_trans hf1 f2) (fun M3 S3 f3 l4 => ?_)
        have := hq M3 S3 f3 l4
        rw [← Nat.add_assoc] at this
        exact this
  have outer : ∀ (f k c : Nat) (S1 : zW) (M1 : zm_M) (l4 : Option Value), k + f = m → zWn S1 = m → zw_i n b S1 → zw_c M1 w S1 → zf (zw_L w) M M1 → (∀ M2, zw_c M2 w (ze_l2 true m f k S1).1 → zf (zw_L w) M M2 → Q (some (.int (nI (c + (ze_l2 true m f k S1).2)))) M2) → G 4 [some (.ref 751), some (.ref w), some (.int (nI c)), some (.int (nI k)), l4] [] M1 := by
    intro f
    induction f with
    | zero =>
      intro k c S1 M1 l4 hk hn1 hi1 hS1 hf1 hq
      have s3 : M1.1 w 2 = nI m := by rw [← hn1]; exact hS1.2.2.1
      refine h4 _ _ _ ?_
      simp only [bX0_merge_4, zw_0, zw_1, zs_iloadn3, zs_aloadn1, zs_aloadNn1, zg_0_19, zs_icge, zs_iconst, zs_iadd, zs_istore4, zc_none, zc_int, zc_ref, zc_null, zc_long, zb_15, zb_16, zb_17, za_18, za_19, za_20, za_21, za_22, zb_23, za_24, za_25, za_26, za_27, za_28, za_29, za_30, za_31, za_32, zb_35, za_36, za_37, za_38, za_39, za_40, zb_377, zb_378, za_379, za_380, za_381, za_382, za_383, zb_384, za_385, za_386, za_387, za_388, za_389, za_390, za_391, za_392, za_393, zb_396, za_397, za_398, za_399, za_400, za_401, zb_738, za_739, za_740, za_741, za_742, za_743, za_744, za_745, za_746, za_747, zb_748, za_749, za_750, zb_751, zb_752, za_753, za_754, za_755, za_756, zb_757, za_758, za_759, za_760, zb_761, za_763, za_764, za_765, true_and, and_true, Nat.reduceAdd, ow, A1, A2, A3, A4, A5, A6, A7, A8, A9, s3]
      refine ⟨fun _ => ?_, fun h => absurd (nI_le (by omega) (by omega)) h⟩
      refine h100 _ _ _ ?_
      simp only [bX0_merge_100, zw_0, zw_1, zs_iloadn2, zs_ireturn, zn_int, zn_b0, zn_b1, zb_15, zb_16, zb_17, za_18, za_19, za_20, za_21, za_22, zb_23, za_24, za_25, za_26, za_27, za_28, za_29, za_30, za_31, za_32, zb_35, za_36, za_37, za_38, za_39, za_40, zb_377, zb_378, za_379, za_380, za_381, za_382, za_383, zb_384, za_385, za_386, za_387, za_388, za_389, za_390, za_391, za_392, za_393, zb_396, za_397, za_398, za_399, za_400, za_401, zb_738, za_739, za_740, za_741, za_742, za_743, za_744, za_745, za_746, za_747, zb_748, za_749, za_750, zb_751, zb_752, za_753, za_754, za_755, za_756, zb_757, za_758, za_759, za_760, zb_761, za_763, za_764, za_765, true_and, and_true, Nat.reduceAdd]
      exact hq M1 hS1 hf1
    | succ f ih =>
      intro k c S1 M1 l4 hk hn1 hi1 hS1 hf1 hq
      have s3 : M1.1 w 2 = nI m := by rw [← hn1]; exact hS1.2.2.1
      refine h4 _ _ _ ?_
      simp only [bX0_merge_4, zw_0, zw_1, zs_iloadn3, zs_aloadn1, zs_aloadNn1, zg_0_19, zs_icge, zs_iconst, zs_iadd, zs_istore4, zc_none, zc_int, zc_ref, zc_null, zc_long, zb_15, zb_16, zb_17, za_18, za_19, za_20, za_21, za_22, zb_23, za_24, za_25, za_26, za_27, za_28, za_29, za_30, za_31, za_32, zb_35, za_36, za_37, za_38, za_39, za_40, zb_377, zb_378, za_379, za_380, za_381, za_382, za_383, zb_384, za_385, za_386, za_387, za_388, za_389, za_390, za_391, za_392, za_393, zb_396, za_397, za_398, za_399, za_400, za_401, zb_738, za_739, za_740, za_741, za_742, za_743, za_744, za_745, za_746, za_747, zb_748, za_749, za_750, zb_751, zb_752, za_753, za_754, za_755, za_756, zb_757, za_758, za_759, za_760, zb_761, za_763, za_764, za_765, true_and, and_true, Nat.reduceAdd, ow, A1, A2, A3, A4, A5, A6, A7, A8, A9, s3, nI_1]
      refine ⟨fun h => absurd h (nI_ge (by omega) (by omega)), fun _ => ?_⟩
      refine inner (m - (k + 1)) (k + 1) k c S1 M1 (by omega) (by omega) hn1 hi1 hS1 hf1 (fun M2 S2 f2 l4 => ?_)
      obtain ⟨g1, g2⟩ := ze_l3_i (wr := true) (k := k) (m - (k + 1)) (k + 1) S1 hi1 (by omega) (by omega)
      refine h94 _ _ _ ?_
      simp only [bX0_merge_94, zw_0, zw_1, zs_iinc3, zs_goto, zc_none, zc_int, zc_ref, zc_null, zc_long, zb_15, zb_16, zb_17, za_18, za_19, za_20, za_21, za_22, zb_23, za_24, za_25, za_26, za_27, za_28, za_29, za_30, za_31, za_32, zb_35, za_36, za_37, za_38, za_39, za_40, zb_377, zb_378, za_379, za_380, za_381, za_382, za_383, zb_384, za_385, za_386, za_387, za_388, za_389, za_390, za_391, za_392, za_393, zb_396, za_397, za_398, za_399, za_400, za_401, zb_738, za_739, za_740, za_741, za_742, za_743, za_744, za_745, za_746, za_747, zb_748, za_749, za_750, zb_751, zb_752, za_753, za_754, za_755, za_756, zb_757, za_758, za_759, za_760, zb_761, za_763, za_764, za_765, true_and, and_true, Nat.reduceAdd, nI_1]
      refine ih (k + 1) _ _ M2 _ (by omega) (g2.trans hn1) g1 S2 f2 (fun M3 S3 f3 => ?_)
      have := hq M3 S3 f3
      simp only [ze_l2] at this
      rw [← Nat.add_assoc] at this
      exact this
  refine h0 _ _ _ ?_
  simp only [bX0_merge_0, zw_0, zw_1, zs_iconst, zs_istoren2, zs_istoren3, zc_none, zc_int, zc_ref, zc_null, zc_long, zb_15, zb_16, zb_17, za_18, za_19, za_20, za_21, za_22, zb_23, za_24, za_25, za_26, za_27, za_28, za_29, za_30, za_31, za_32, zb_35, za_36, za_37, za_38, za_39, za_40, zb_377, zb_378, za_379, za_380, za_381, za_382, za_383, zb_384, za_385, za_386, za_387, za_388, za_389, za_390, za_391, za_392, za_393, zb_396, za_397, za_398, za_399, za_400, za_401, zb_738, za_739, za_740, za_741, za_742, za_743, za_744, za_745, za_746, za_747, zb_748, za_749, za_750, zb_751, zb_752, za_753, za_754, za_755, za_756, zb_757, za_758, za_759, za_760, zb_761, za_763, za_764, za_765, true_and, and_true, Nat.reduceAdd]
  refine outer m 0 0 S M none (by omega) hm hi hS zf_refl (fun M2 S2 f2 => ?_)
  rw [Nat.zero_add]
  exact q M2 S2 f2
theorem c0_pass {E : zm_E} (hE : zm_ok E.2.2.1 E.2.2.2.2) (d : Nat) {n w : Nat} {b pr : Nat → Int32} {T : Nat → Option zD} {lw : Value} (hww : w = 23 ∨ w = 738) {M : zm_M} {S : zW} (h9 : zc_s9 n b pr M) (hN : zN M) (hT : zc_T M lw T) (hTo : ∀ w, w ≤ 2 → zDo w (T w)) (hi : zw_i n b S) (hS : zw_c M w S) {Q : Option Value → zm_M → Prop} (q : ∀ M', zw_c M' w (ze_ps true n b pr T S) → zN M' → zf (zF w) M M' → Q (some (.int (nI (ze_pn true n b pr T S)))) M') : zm_R E (d + 5) mX0_pass [.ref 751, .ref w, lw] M Q := by
  have hw : zw_ok w := by rcases hww with rfl | rfl; exact zw_23; exact zw_738
  have hw2 : 23 ≤ w ∧ w + 9 < 748 ∧ (w + 9 < 41 ∨ 738 ≤ w) := by rcases hww with rfl | rfl <;> decide
  have hlw := zc_T_e hT
  refine zX0_pass hE (by rcases hlw with e | ⟨L, e⟩ <;> rw [e] <;> rfl) (fun G h0 h5 h26 h47 h58 h64 => ?_)
  have st0 : zm_ent [.ref 751, .ref w, lw] 5 = [some (.ref 751), some (.ref w), some lw, none, none] := by
    rcases hlw with e | ⟨L, e⟩ <;> rw [e] <;> rfl
  rw [st0]
  have hbw : zt_wf n b := zt_wf_c h9.1.1 h9.2.2.1
  have hn10 := hbw.1
  have ow := eq_true hw.1; have A1 := zw_A hw 1 (by decide) (by decide); have A2 := zw_A hw 2 (by decide) (by decide); have A3 := zw_A hw 3 (by decide) (by decide); have A4 := zw_A hw 4 (by decide) (by decide); have A5 := zw_A hw 5 (by decide) (by decide); have A6 := zw_A hw 6 (by decide) (by decide); have A7 := zw_A hw 7 (by decide) (by decide); have A8 := zw_A hw 8 (by decide) (by decide); have A9 := zw_A9 hw
  have hm10 := hi.1.1
  have nF : ∀ q, q = 17 ∨ q = 18 ∨ q = 19 ∨ q = 20 → q ∉ zF w := fun q hq => zF_no (by omega) (by omega)
  have lF : ∀ q, q ∈ zF w → q < 41 ∨ 738 ≤ q := fun q hq => by
    rcases List.mem_append.mp hq with z | z
    · have := zw_L_mem z; omega
    · simp at z; omega
  have fin : ∀ (c : Nat) (S1 : zW) (M1 : zm_M) (l4 : Option Value), S1 = (ze_p1 true n b pr T S).1 → c = (ze_p1 true n b pr T S).2.1 → zw_c M1 w S1 → zN M1 → zf (zF w) M M1 → G 64 [some (.ref 751), some (.ref w), some lw, some (.int (nI c)), l4] [] M1 := by
    intro c S1 M1 l4 e1 e2 hS1 hN1 hf1
    obtain ⟨g1, g2⟩ := ze_p1_i (wr := true) (pr := pr) (T := T) hbw hi
    rw [← e1] at g1 g2
    refine h64 _ _ _ ?_
    simp only [bX0_pass_64, zw_0, zw_1, zs_iloadn3, zs_aloadn0, zs_aloadNn0, zs_aloadn1, zs_aloadNn1, zi_0_41, zs_iadd, zs_istoren3, zs_dupi, zs_dupr, zs_dupn, zg_0_45, zs_iconst, zq_0_45, zs_ireturn, zc_none, zc_int, zc_ref, zc_null, zc_long, zh_0, zh_1, zh_2, zh_3, zh_4, zt_i, zt_l, zt_r, zt_n, zn_int, zn_b0, zn_b1, zb_15, zb_16, zb_17, za_18, za_19, za_20, za_21, za_22, zb_23, za_24, za_25, za_26, za_27, za_28, za_29, za_30, za_31, za_32, zb_35, za_36, za_37, za_38, za_39, za_40, zb_377, zb_378, za_379, za_380, za_381, za_382, za_383, zb_384, za_385, za_386, za_387, za_388, za_389, za_390, za_391, za_392, za_393, zb_396, za_397, za_398, za_399, za_400, za_401, zb_738, za_739, za_740, za_741, za_742, za_743, za_744, za_745, za_746, za_747, zb_748, za_749, za_750, zb_751, zb_752, za_753, za_754, za_755, za_756, zb_757, za_758, za_759, za_760, zb_761, za_763, za_764, za_765, true_and, and_true, Nat.reduceAdd, ow, A1, A2, A3, A4, A5, A6, A7, A8, A9]
    refine c0_merge hE (d + 1) hw g1 hS1 (fun M2 S2 f2 => ?_)
    have ep2 : ze_l2 true (zWn S1) (zWn S1) 0 S1 = ze_p2 true n b pr T S := by unfold ze_p2; rw [← e1, g2]
    rw [ep2] at S2 ⊢
    have d0 : M2.1 w 0 = zWd (ze_p2 true n b pr T S).1 := S2.1
    simp only [bX0_pass_64, zw_0, zw_1, zs_iloadn3, zs_aloadn0, zs_aloadNn0, zs_aloadn1, zs_aloadNn1, zi_0_41, zs_iadd, zs_istoren3, zs_dupi, zs_dupr, zs_dupn, zg_0_45, zs_iconst, zq_0_45, zs_ireturn, zc_none, zc_int, zc_ref, zc_null, zc_long, zh_0, zh_1, zh_2, zh_3, zh_4, zt_i, zt_l, zt_r, zt_n, zn_int, zn_b0, zn_b1, zb_15, zb_16, zb_17, za_18, za_19, za_20, za_21, za_22, zb_23, za_24, za_25, za_26, za_27, za_28, za_29, za_30, za_31, za_32, zb_35, za_36, za_37, za_38, za_39, za_40, zb_377, zb_378, za_379, za_380, za_381, za_382, za_383, zb_384, za_385, za_386, za_387, za_388, za_389, za_390, za_391, za_392, za_393, zb_396, za_397, za_398, za_399, za_400, za_401, zb_738, za_739, za_740, za_741, za_742, za_743, za_744, za_745, za_746, za_747, zb_748, za_749, za_750, zb_751, zb_752, za_753, za_754, za_755, za_756, zb_757, za_758, za_759, za_760, zb_761, za_763, za_764, za_765, true_and, and_true, Nat.reduceAdd, ow, A1, A2, A3, A4, A5, A6, A7, A8, A9, zc_cl hlw, nI_add, d0]
    rw [e2]
    refine q _ ?_ (fun i hi9 => ?_) (zf_wi (zf_trans hf1 (zf_sub f2 (fun q hq => zF_w hq))) (zF_w (by simp [zw_L])))
    · obtain ⟨s1, s2, s3, s4, s5, s6, s7⟩ := S2
      refine ⟨by rw [zm_wi_same, if_pos rfl]; rfl, by rw [zm_wi_same, if_neg (by decide)]; exact s2, by rw [zm_wi_same, if_neg (by decide)]; exact s3, by rw [zm_wi_same, if_neg (by decide)]; exact s4, fun f j hf hj => by rw [zm_wi_other (by omega)]; exact s5 f j hf hj, fun p hp => by rw [zm_wi_other (by omega)]; exact s6 p hp, fun i j hi hj => by rw [zm_wi_other (by omega)]; exact s7 i j hi hj⟩
    · rw [zm_wi_other (by omega), (f2 749 (fun z => by have := zw_L_mem z; omega)).1]; exact hN1 i hi9
  have loop : ∀ (f k c : Nat) (S1 : zW) (M1 : zm_M), k + f = zWn S → zWn S1 = zWn S → zw_i n b S1 → zw_c M1 w S1 → zN M1 → zf (zF w) M M1 → (ze_l1 true n b pr T f k S1).1 = (ze_p1 true n b pr T S).1 → c + (ze_l1 true n b pr T f k S1).2.1 = (ze_p1 true n b pr T S).2.1 → G 5 [some (.ref 751), some (.ref w), some lw, some (.int (nI c)), some (.int (nI k))] [] M1 := by
    intro f
    induction f with
    | zero =>
      intro k c S1 M1 hk hn1 hi1 hS1 hN1 hf1 e1 e2
      have s3 : M1.1 w 2 = nI (zWn S) := by rw [← hn1]; exact hS1.2.2.1
      refine h5 _ _ _ ?_
      simp only [bX0_pass_5, zw_0, zw_1, zs_iload4, zs_aloadn1, zs_aloadNn1, zg_0_19, zs_icge, zi_0_25, zs_ifne, zs_goto, zh_0, zh_1, zh_2, zh_3, zh_4, zt_i, zt_l, zt_r, zt_n, zb_15, zb_16, zb_17, za_18, za_19, za_20, za_21, za_22, zb_23, za_24, za_25, za_26, za_27, za_28, za_29, za_30, za_31, za_32, zb_35, za_36, za_37, za_38, za_39, za_40, zb_377, zb_378, za_379, za_380, za_381, za_382, za_383, zb_384, za_385, za_386, za_387, za_388, za_389, za_390, za_391, za_392, za_393, zb_396, za_397, za_398, za_399, za_400, za_401, zb_738, za_739, za_740, za_741, za_742, za_743, za_744, za_745, za_746, za_747, zb_748, za_749, za_750, zb_751, zb_752, za_753, za_754, za_755, za_756, zb_757, za_758, za_759, za_760, zb_761, za_763, za_764, za_765, true_and, and_true, Nat.reduceAdd, ow, A1, A2, A3, A4, A5, A6, A7, A8, A9, s3]
      exact ⟨fun _ => fin c S1 M1 _ e1 e2 hS1 hN1 hf1, fun h => absurd (nI_le (by omega) (by omega)) h⟩
    | succ f ih =>
      intro k c S1 M1 hk hn1 hi1 hS1 hN1 hf1 e1 e2
      have s3 : M1.1 w 2 = nI (zWn S) := by rw [← hn1]; exact hS1.2.2.1
      have hk1 : k < zWn S1 := by omega
      have i1 : vp_in (nI k) 10 := vp_in_nI (by omega) (by decide)
      have i2 : (nI k).toNatClampNeg = k := nI_clamp (by omega)
      have k4 : M1.1 (w + 5) k = zWa S1 4 k := hS1.2.2.2.2.1 4 k (by decide) hk1
      have h91 : zc_s9 n b pr M1 := zc_s9_f h9 hf1 (nF 17 (by omega)) (nF 18 (by omega)) (nF 19 (by omega)) (nF 20 (by omega))
      have hT1 : zc_T M1 lw T := zc_T_f hT hf1 lF
      simp only [ze_l1] at e1 e2
      have go : ∀ (c' : Nat) (M2 : zm_M), c' = c + (ze_st true n b pr T S1 k).2.1 → zw_c M2 w (ze_st true n b pr T S1 k).1 → zN M2 → zf (zF w) M M2 → G 58 [some (.ref 751), some (.ref w), some lw, some (.int (nI c')), some (.int (nI k))] [] M2 := by
        intro c' M2 hc' hS2 hN2 hf2
        obtain ⟨g1, g2⟩ := ze_st_i (wr := true) (pr := pr) (T := T) hbw hi1 hk1
        refine h58 _ _ _ ?_
        simp only [bX0_pass_58, zw_0, zw_1, zs_iinc4, zs_goto, zc_none, zc_int, zc_ref, zc_null, zc_long, zb_15, zb_16, zb_17, za_18, za_19, za_20, za_21, za_22, zb_23, za_24, za_25, za_26, za_27, za_28, za_29, za_30, za_31, za_32, zb_35, za_36, za_37, za_38, za_39, za_40, zb_377, zb_378, za_379, za_380, za_381, za_382, za_383, zb_384, za_385, za_386, za_387, za_388, za_389, za_390, za_391, za_392, za_393, zb_396, za_397, za_398, za_399, za_400, za_401, zb_738, za_739, za_740, za_741, za_742, za_743, za_744, za_745, za_746, za_747, zb_748, za_749, za_750, zb_751, zb_752, za_753, za_754, za_755, za_756, zb_757, za_758, za_759, za_760, zb_761, za_763, za_764, za_765, true_and, and_true, Nat.reduceAdd, nI_1]
        exact ih (k + 1) c' _ M2 (by omega) (g2.trans hn1) g1 hS2 hN2 hf2 e1 (by rw [hc']; omega)
      obtain ⟨f', t', a', s', hh', g', x0, x1, x2, x3, x4, x5, bf, bt_, ba, rest⟩ := hi1.2.2.2.1 k hk1
      refine h5 _ _ _ ?_
      simp only [bX0_pass_5, zw_0, zw_1, zs_iload4, zs_aloadn1, zs_aloadNn1, zg_0_19, zs_icge, zi_0_25, zs_ifne, zs_goto, zh_0, zh_1, zh_2, zh_3, zh_4, zt_i, zt_l, zt_r, zt_n, zb_15, zb_16, zb_17, za_18, za_19, za_20, za_21, za_22, zb_23, za_24, za_25, za_26, za_27, za_28, za_29, za_30, za_31, za_32, zb_35, za_36, za_37, za_38, za_39, za_40, zb_377, zb_378, za_379, za_380, za_381, za_382, za_383, zb_384, za_385, za_386, za_387, za_388, za_389, za_390, za_391, za_392, za_393, zb_396, za_397, za_398, za_399, za_400, za_401, zb_738, za_739, za_740, za_741, za_742, za_743, za_744, za_745, za_746, za_747, zb_748, za_749, za_750, zb_751, zb_752, za_753, za_754, za_755, za_756, zb_757, za_758, za_759, za_760, zb_761, za_763, za_764, za_765, true_and, and_true, Nat.reduceAdd, ow, A1, A2, A3, A4, A5, A6, A7, A8, A9, s3]
      refine ⟨fun h => absurd h (nI_ge (by omega) (by omega)), fun _ => ?_⟩
      refine zm_R_eq (c10_moves hE (d + 2) hw hi1.1 hk1 hS1 ⟨a', by omega, x2⟩) ?_
      simp only [bX0_pass_5, zw_0, zw_1, zs_iload4, zs_aloadn1, zs_aloadNn1, zg_0_19, zs_icge, zi_0_25, zs_ifne, zs_goto, zh_0, zh_1, zh_2, zh_3, zh_4, zt_i, zt_l, zt_r, zt_n, zb_15, zb_16, zb_17, za_18, za_19, za_20, za_21, za_22, zb_23, za_24, za_25, za_26, za_27, za_28, za_29, za_30, za_31, za_32, zb_35, za_36, za_37, za_38, za_39, za_40, zb_377, zb_378, za_379, za_380, za_381, za_382, za_383, zb_384, za_385, za_386, za_387, za_388, za_389, za_390, za_391, za_392, za_393, zb_396, za_397, za_398, za_399, za_400, za_401, zb_738, za_739, za_740, za_741, za_742, za_743, za_744, za_745, za_746, za_747, zb_748, za_749, za_750, zb_751, zb_752, za_753, za_754, za_755, za_756, zb_757, za_758, za_759, za_760, zb_761, za_763, za_764, za_765, true_and, and_true, Nat.reduceAdd, zi_b1, zi_b0]
      refine ⟨fun hmv => ?_, fun hmv => ?_⟩
      · have hmv : zw_mv S1 k = true := by simpa using hmv
        refine h26 _ _ _ ?_
        simp only [bX0_pass_26, zw_0, zw_1, zs_aloadn1, zs_aloadNn1, zg_0_29, zs_iload4, zs_iaload, zs_ifne, zs_aloadn0, zs_aloadNn0, zs_aloadn2, zs_aloadNn2, zi_0_33, zs_goto, zh_0, zh_1, zh_2, zh_3, zh_4, zt_i, zt_l, zt_r, zt_n, zb_15, zb_16, zb_17, za_18, za_19, za_20, za_21, za_22, zb_23, za_24, za_25, za_26, za_27, za_28, za_29, za_30, za_31, za_32, zb_35, za_36, za_37, za_38, za_39, za_40, zb_377, zb_378, za_379, za_380, za_381, za_382, za_383, zb_384, za_385, za_386, za_387, za_388, za_389, za_390, za_391, za_392, za_393, zb_396, za_397, za_398, za_399, za_400, za_401, zb_738, za_739, za_740, za_741, za_742, za_743, za_744, za_745, za_746, za_747, zb_748, za_749, za_750, zb_751, zb_752, za_753, za_754, za_755, za_756, zb_757, za_758, za_759, za_760, zb_761, za_763, za_764, za_765, zu_0, zu_1, zu_2, zu_3, zu_4, zu_5, zu_6, zu_7, zu_8, zu_9, zu_10, zu_11, zu_12, zu_13, zu_14, zu_15, zu_16, zu_17, zu_18, zu_19, zu_20, zu_21, zu_22, zu_23, zu_24, zu_25, zu_26, zu_27, zu_28, zu_29, zu_30, zu_90, zv_0_9, zv_1_9, zv_2_9, zv_3_9, zv_4_9, zv_5_9, zv_6_9, zv_7_9, zv_8_9, zv_0_330, zv_0_4544, zv_1_4544, zv_2_4544, zv_3_4544, zv_4_4544, zv_5_4544, zv_6_4544, zv_7_4544, zv_8_4544, zv_9_4544, zv_10_4544, zv_11_4544, zv_12_4544, zv_13_4544, zv_14_4544, zv_15_4544, zv_16_4544, zv_17_4544, zv_18_4544, zv_19_4544, zv_20_4544, zv_21_4544, zv_22_4544, zv_23_4544, zv_24_4544, zv_25_4544, zv_26_4544, zv_27_4544, zv_28_4544, zv_29_4544, zv_0_11, zv_1_11, zv_0_160, true_and, and_true, Nat.reduceAdd, ow, A1, A2, A3, A4, A5, A6, A7, A8, A9, i1, i2, k4, zs_aloadV2 hlw]
        refine ⟨fun n0 => ?_, fun z0 => ?_⟩
        · have h1 := zw_mv_h hi1 hk1 hmv n0
          have est : ze_st true n b pr T S1 k = ((ze_dn true n b pr T S1 k).1, (ze_dn true n b pr T S1 k).2, false) := by unfold ze_st; rw [if_pos hmv, if_neg n0]
          rw [est] at go
          refine h47 _ _ _ ?_
          simp only [bX0_pass_47, zw_0, zw_1, zs_iloadn3, zs_aloadn0, zs_aloadNn0, zs_aloadn1, zs_aloadNn1, zs_iload4, zs_aloadn2, zs_aloadNn2, zi_0_37, zs_iadd, zs_istoren3, zc_none, zc_int, zc_ref, zc_null, zc_long, zh_0, zh_1, zh_2, zh_3, zh_4, zt_i, zt_l, zt_r, zt_n, zb_15, zb_16, zb_17, za_18, za_19, za_20, za_21, za_22, zb_23, za_24, za_25, za_26, za_27, za_28, za_29, za_30, za_31, za_32, zb_35, za_36, za_37, za_38, za_39, za_40, zb_377, zb_378, za_379, za_380, za_381, za_382, za_383, zb_384, za_385, za_386, za_387, za_388, za_389, za_390, za_391, za_392, za_393, zb_396, za_397, za_398, za_399, za_400, za_401, zb_738, za_739, za_740, za_741, za_742, za_743, za_744, za_745, za_746, za_747, zb_748, za_749, za_750, zb_751, zb_752, za_753, za_754, za_755, za_756, zb_757, za_758, za_759, za_760, zb_761, za_763, za_764, za_765, true_and, and_true, Nat.reduceAdd, zs_aloadV2 hlw]
          refine c0_goDown hE d hww h91 hN1 hT1 hTo hi1 hk1 h1 hS1 (fun M2 S2 N2 f2 => ?_)
          simp only [bX0_pass_47, zw_0, zw_1, zs_iloadn3, zs_aloadn0, zs_aloadNn0, zs_aloadn1, zs_aloadNn1, zs_iload4, zs_aloadn2, zs_aloadNn2, zi_0_37, zs_iadd, zs_istoren3, zc_none, zc_int, zc_ref, zc_null, zc_long, zh_0, zh_1, zh_2, zh_3, zh_4, zt_i, zt_l, zt_r, zt_n, zb_15, zb_16, zb_17, za_18, za_19, za_20, za_21, za_22, zb_23, za_24, za_25, za_26, za_27, za_28, za_29, za_30, za_31, za_32, zb_35, za_36, za_37, za_38, za_39, za_40, zb_377, zb_378, za_379, za_380, za_381, za_382, za_383, zb_384, za_385, za_386, za_387, za_388, za_389, za_390, za_391, za_392, za_393, zb_396, za_397, za_398, za_399, za_400, za_401, zb_738, za_739, za_740, za_741, za_742, za_743, za_744, za_745, za_746, za_747, zb_748, za_749, za_750, zb_751, zb_752, za_753, za_754, za_755, za_756, zb_757, za_758, za_759, za_760, zb_761, za_763, za_764, za_765, true_and, and_true, Nat.reduceAdd, zc_cl hlw, nI_add]
          exact go _ M2 rfl S2 N2 (zf_trans hf1 f2)
        · have est : ze_st true n b pr T S1 k = ((ze_up true n b pr T S1 k).1, 0, (ze_up true n b pr T S1 k).2) := by unfold ze_st; rw [if_pos hmv, if_pos z0]
          rw [est] at go
          refine c0_goUp hE d hww h91 hN1 hT1 hTo hi1 hk1 z0 hS1 (fun M2 S2 N2 f2 => ?_)
          simp only [bX0_pass_26, zw_0, zw_1, zs_aloadn1, zs_aloadNn1, zg_0_29, zs_iload4, zs_iaload, zs_ifne, zs_aloadn0, zs_aloadNn0, zs_aloadn2, zs_aloadNn2, zi_0_33, zs_goto, zh_0, zh_1, zh_2, zh_3, zh_4, zt_i, zt_l, zt_r, zt_n, zb_15, zb_16, zb_17, za_18, za_19, za_20, za_21, za_22, zb_23, za_24, za_25, za_26, za_27, za_28, za_29, za_30, za_31, za_32, zb_35, za_36, za_37, za_38, za_39, za_40, zb_377, zb_378, za_379, za_380, za_381, za_382, za_383, zb_384, za_385, za_386, za_387, za_388, za_389, za_390, za_391, za_392, za_393, zb_396, za_397, za_398, za_399, za_400, za_401, zb_738, za_739, za_740, za_741, za_742, za_743, za_744, za_745, za_746, za_747, zb_748, za_749, za_750, zb_751, zb_752, za_753, za_754, za_755, za_756, zb_757, za_758, za_759, za_760, zb_761, za_763, za_764, za_765, zu_0, zu_1, zu_2, zu_3, zu_4, zu_5, zu_6, zu_7, zu_8, zu_9, zu_10, zu_11, zu_12, zu_13, zu_14, zu_15, zu_16, zu_17, zu_18, zu_19, zu_20, zu_21, zu_22, zu_23, zu_24, zu_25, zu_26, zu_27, zu_28, zu_29, zu_30, zu_90, zv_0_9, zv_1_9, zv_2_9, zv_3_9, zv_4_9, zv_5_9, zv_6_9, zv_7_9, zv_8_9, zv_0_330, zv_0_4544, zv_1_4544, zv_2_4544, zv_3_4544, zv_4_4544, zv_5_4544, zv_6_4544, zv_7_4544, zv_8_4544, zv_9_4544, zv_10_4544, zv_11_4544, zv_12_4544, zv_13_4544, zv_14_4544, zv_15_4544, zv_16_4544, zv_17_4544, zv_18_4544, zv_19_4544, zv_20_4544, zv_21_4544, zv_22_4544, zv_23_4544, zv_24_4544, zv_25_4544, zv_26_4544, zv_27_4544, zv_28_4544, zv_29_4544, zv_0_11, zv_1_11, zv_0_160, true_and, and_true, Nat.reduceAdd]
          exact go c M2 rfl S2 N2 (zf_trans hf1 f2)
      · have est : ze_st true n b pr T S1 k = (S1, 0, false) := by unfold ze_st; rw [if_neg (by rw [hmv]; decide)]
        rw [est] at go
        exact go c M1 rfl hS1 hN1 hf1
  refine h0 _ _ _ ?_
  simp only [bX0_pass_0, zw_0, zw_1, zs_iconst, zs_istoren3, zs_istore4, zc_none, zc_int, zc_ref, zc_null, zc_long, zb_15, zb_16, zb_17, za_18, za_19, za_20, za_21, za_22, zb_23, za_24, za_25, za_26, za_27, za_28, za_29, za_30, za_31, za_32, zb_35, za_36, za_37, za_38, za_39, za_40, zb_377, zb_378, za_379, za_380, za_381, za_382, za_383, zb_384, za_385, za_386, za_387, za_388, za_389, za_390, za_391, za_392, za_393, zb_396, za_397, za_398, za_399, za_400, za_401, zb_738, za_739, za_740, za_741, za_742, za_743, za_744, za_745, za_746, za_747, zb_748, za_749, za_750, zb_751, zb_752, za_753, za_754, za_755, za_756, zb_757, za_758, za_759, za_760, zb_761, za_763, za_764, za_765, true_and, and_true, Nat.reduceAdd, zc_cl hlw]
  exact loop (zWn S) 0 0 S M (by omega) rfl hi hS hN zf_refl rfl (by rw [Nat.zero_add]; rfl)
