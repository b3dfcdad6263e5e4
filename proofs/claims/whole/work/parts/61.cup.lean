/-! ===== the class: one goes up, or down ===== -/
def zF (w : Nat) : List Nat := zw_L w ++ [748, 749, 750]
theorem zF_w {w q : Nat} (h : q ∈ zw_L w) : q ∈ zF w := List.mem_append_left _ h
theorem zF_m {w q : Nat} (h : q ∈ [748, 749, 750]) : q ∈ zF w := List.mem_append_right _ h
theorem zF_no {w q : Nat} (h : q < w ∨ w + 9 < q) (h1 : q < 748 ∨ 750 < q) : q ∉ zF w := by
  intro z
  rcases List.mem_append.mp z with z | z
  · have := zw_L_mem z; omega
  · simp at z; omega
theorem zx_dk {n : Nat} {b : Nat → Int32} {S : zW} {k p a m : Nat} {f g : Nat → Int32} (hs : zWn S ≤ 10) (hm : m = zWn S) (ha : zWa S 2 k = nI a) (hap : a ≠ p) (ha10 : a < 10) (hp10 : p < 10) (e2 : ∀ j, j < m → f j = zWa S 2 j) (e4 : ∀ j, j < m → g j = zWa S 4 j) (hk : k < m) : zc_n (zc_desk f g (nI p)) m = ze_dk S k p := by
  subst hm
  unfold ze_dk
  refine zc_n_c _ (fun j hj => ?_)
  unfold zc_desk
  rw [e2 j hj, e4 j hj]
  by_cases c : j = k
  · subst c
    have : ¬ zWa S 2 j = nI p := by rw [ha]; exact fun z => hap ((nI_eq (by omega) (by omega)).mp z)
    simp [this]
  · have : ¬ nI j = nI k := fun z => c ((nI_eq (by omega) (by omega)).mp z)
    simp [this]
theorem zs_aloadV3 {own : Nat} {ret : Option FieldType} {Cl : zm_Me → List Value → zm_M → (Option Value → zm_M → Prop) → Prop} {J : Nat → zm_L → List Value → zm_M → Prop} {Rt : Option Value → zm_M → Prop} {k : zm_L → List Value → zm_M → Prop} {l : zm_L} {st : List Value} {M : zm_M} {pc npc tgt : Nat} {imm : Int32} {cs : List (Int32 × Nat)} {a0 a1 a2 : Option Value} {v : Value} (h : v = .null ∨ ∃ L, v = .ref L) : zm_st own ret Cl J Rt (pc, .aload_n 3, npc, tgt, imm, cs) k (a0 :: a1 :: a2 :: some v :: l) st M = k (a0 :: a1 :: a2 :: some v :: l) (v :: st) M := by
  rcases h with rfl | ⟨L, rfl⟩ <;> rfl
theorem zs_aloadV2 {own : Nat} {ret : Option FieldType} {Cl : zm_Me → List Value → zm_M → (Option Value → zm_M → Prop) → Prop} {J : Nat → zm_L → List Value → zm_M → Prop} {Rt : Option Value → zm_M → Prop} {k : zm_L → List Value → zm_M → Prop} {l : zm_L} {st : List Value} {M : zm_M} {pc npc tgt : Nat} {imm : Int32} {cs : List (Int32 × Nat)} {a0 a1 : Option Value} {v : Value} (h : v = .null ∨ ∃ L, v = .ref L) : zm_st own ret Cl J Rt (pc, .aload_n 2, npc, tgt, imm, cs) k (a0 :: a1 :: some v :: l) st M = k (a0 :: a1 :: some v :: l) (v :: st) M := by
  rcases h with rfl | ⟨L, rfl⟩ <;> rfl
theorem zc_cl {v : Value} (h : v = .null ∨ ∃ L, v = .ref L) : zm_cl (some v) = some v := by
  rcases h with rfl | ⟨L, rfl⟩ <;> rfl
theorem zc_sy {n w : Nat} {b pr : Nat → Int32} {T : Nat → Option zD} {M : zm_M} {f : Nat → Int32} (h9 : zc_s9 n b pr M) (hTo : zDo w (T w)) (hf : ∀ i, i < zn_k w → M.1 749 i = f i) : zq_said (T w) w (fun i => (M.1 749 i).toInt) (zq_rk n (M.1 18)) = ze_sy n b T w f := by
  unfold ze_sy
  rw [zq_rk_e h9.1.1 h9.2.2.1]
  exact zq_said_c hTo (fun i hi => by rw [hf i hi])
theorem zw_c_o {M M' : zm_M} {w : Nat} {S : zW} {L : List Nat} (hs : zw_sz S) (h : zw_c M w S) (hf : zf L M M') (hL : ∀ q, q ∈ L → q < w ∨ w + 9 < q) : zw_c M' w S := zw_cong hs h (fun q hq => (hf q (fun z => by have := zw_L_mem hq; have := hL q z; omega)).1)
set_option maxHeartbeats 4000000 in
theorem c0_goUp {E : zm_E} (hE : zm_ok E.2.2.1 E.2.2.2.2) (d : Nat) {n w k : Nat} {b pr : Nat → Int32} {T : Nat → Option zD} {lw : Value} (hww : w = 23 ∨ w = 738) {M : zm_M} {S : zW} (h9 : zc_s9 n b pr M) (hN : zN M) (hT : zc_T M lw T) (hTo : ∀ w, w ≤ 2 → zDo w (T w)) (hi : zw_i n b S) (hk : k < zWn S) (h0' : zWa S 4 k = 0) (hS : zw_c M w S) {Q : Option Value → zm_M → Prop} (q : ∀ M', zw_c M' w (ze_up true n b pr T S k).1 → zN M' → zf (zF w) M M' → Q none M') : zm_R E (d + 4) mX0_goUp [.ref 751, .ref w, .int (nI k), lw] M Q := by
  have hw : zw_ok w := by rcases hww with rfl | rfl; exact zw_23; exact zw_738
  have hw2 : 23 ≤ w ∧ w + 9 < 748 ∧ (w + 9 < 41 ∨ 738 ≤ w) := by rcases hww with rfl | rfl <;> decide
  have hlw := zc_T_e hT
  refine zX0_goUp hE (by rcases hlw with e | ⟨L, e⟩ <;> rw [e] <;> rfl) (fun G h0 h29 h101 h151 h189 => ?_)
  have st0 : zm_ent [.ref 751, .ref w, .int (nI k), lw] 5 = [some (.ref 751), some (.ref w), some (.int (nI k)), some lw, none] := by
    rcases hlw with e | ⟨L, e⟩ <;> rw [e] <;> rfl
  rw [st0]
  have hb := h9.1.1
  have hbw : zt_wf n b := zt_wf_c hb h9.2.2.1
  have hn10 := hbw.1
  have hs := hi.1
  have hk10 := hs.1
  obtain ⟨p, ep, hp, hbp, hi1, hn1, f, s', g, t, e3', bs', ef, bf, et, bt_, eg, bg, ab⟩ := ze_u1_i (pr := pr) (T := T) hbw hi hk h0'
  obtain ⟨f0, t0, a, s, hh, g0, x0, x1, x2, x3, x4, x5, bf0, bt0, ba, bs, bh, bg0, ab1, ab2, ab3⟩ := hi.2.2.2.1 k hk
  obtain ⟨X, hX, eX⟩ := hi.2.2.1
  have hap : p < a := by
    rw [x2, nI_clamp (by omega)] at hbp
    rcases hbw.at ba with z | ⟨j, j1, j2, j3⟩
    · rw [z] at hbp; exact absurd hbp.symm (zt_ne (by omega))
    · have := (nI_eq (by omega) (by omega)).mp (hbp.symm.trans j3); omega
  have ow := eq_true hw.1; have A1 := zw_A hw 1 (by decide) (by decide); have A2 := zw_A hw 2 (by decide) (by decide); have A3 := zw_A hw 3 (by decide) (by decide); have A4 := zw_A hw 4 (by decide) (by decide); have A5 := zw_A hw 5 (by decide) (by decide); have A6 := zw_A hw 6 (by decide) (by decide); have A7 := zw_A hw 7 (by decide) (by decide); have A8 := zw_A hw 8 (by decide) (by decide); have A9 := zw_A9 hw
  have hS0 := hS
  obtain ⟨s1, s2, s3, s4, s5, s6, s7⟩ := hS
  have i1 : vp_in (nI k) 10 := vp_in_nI (by omega) (by decide)
  have i2 : (nI k).toNatClampNeg = k := nI_clamp (by omega)
  have a2 : M.1 (w + 3) k = nI a := by rw [← x2]; exact s5 2 k (by decide) hk
  have j1 : vp_in (nI a) 10 := vp_in_nI (by omega) (by decide)
  have j2 : (nI a).toNatClampNeg = a := nI_clamp (by omega)
  have mb : M.1 18 a = nI p := by rw [h9.2.2.1 a ba, ← hbp, x2, j2]
  refine h0 _ _ _ ?_
  simp only [bX0_goUp_0, zw_0, zw_1, zs_aloadn0, zs_aloadNn0, zg_0_9, zg_0_48, zs_aloadn1, zs_aloadNn1, zg_0_53, zs_iloadn2, zs_iaload, zs_istore4, zs_iload4, zi_0_56, zs_ifne, zs_return, zc_none, zc_int, zc_ref, zc_null, zc_long, zh_0, zh_1, zh_2, zh_3, zh_4, zt_i, zt_l, zt_r, zt_n, zn_int, zn_b0, zn_b1, zb_15, zb_16, zb_17, za_18, za_19, za_20, za_21, za_22, zb_23, za_24, za_25, za_26, za_27, za_28, za_29, za_30, za_31, za_32, zb_35, za_36, za_37, za_38, za_39, za_40, zb_377, zb_378, za_379, za_380, za_381, za_382, za_383, zb_384, za_385, za_386, za_387, za_388, za_389, za_390, za_391, za_392, za_393, zb_396, za_397, za_398, za_399, za_400, za_401, zb_738, za_739, za_740, za_741, za_742, za_743, za_744, za_745, za_746, za_747, zb_748, za_749, za_750, zb_751, zb_752, za_753, za_754, za_755, za_756, zb_757, za_758, za_759, za_760, zb_761, za_763, za_764, za_765, zu_0, zu_1, zu_2, zu_3, zu_4, zu_5, zu_6, zu_7, zu_8, zu_9, zu_10, zu_11, zu_12, zu_13, zu_14, zu_15, zu_16, zu_17, zu_18, zu_19, zu_20, zu_21, zu_22, zu_23, zu_24, zu_25, zu_26, zu_27, zu_28, zu_29, zu_30, zu_90, zv_0_9, zv_1_9, zv_2_9, zv_3_9, zv_4_9, zv_5_9, zv_6_9, zv_7_9, zv_8_9, zv_0_330, zv_0_4544, zv_1_4544, zv_2_4544, zv_3_4544, zv_4_4544, zv_5_4544, zv_6_4544, zv_7_4544, zv_8_4544, zv_9_4544, zv_10_4544, zv_11_4544, zv_12_4544, zv_13_4544, zv_14_4544, zv_15_4544, zv_16_4544, zv_17_4544, zv_18_4544, zv_19_4544, zv_20_4544, zv_21_4544, zv_22_4544, zv_23_4544, zv_24_4544, zv_25_4544, zv_26_4544, zv_27_4544, zv_28_4544, zv_29_4544, zv_0_11, zv_1_11, zv_0_160, true_and, and_true, Nat.reduceAdd, ow, A1, A2, A3, A4, A5, A6, A7, A8, A9, i1, i2, a2, j1, j2, mb, zc_cl hlw]
  refine zm_R_eq (c7_has hE (d + 2) (n := n) (by omega) _ h9.2.1) ?_
  rw [zo_is_nI (by omega), decide_eq_true hp]
  simp only [bX0_goUp_0, zw_0, zw_1, zs_aloadn0, zs_aloadNn0, zg_0_9, zg_0_48, zs_aloadn1, zs_aloadNn1, zg_0_53, zs_iloadn2, zs_iaload, zs_istore4, zs_iload4, zi_0_56, zs_ifne, zs_return, zc_none, zc_int, zc_ref, zc_null, zc_long, zh_0, zh_1, zh_2, zh_3, zh_4, zt_i, zt_l, zt_r, zt_n, zn_int, zn_b0, zn_b1, zb_15, zb_16, zb_17, za_18, za_19, za_20, za_21, za_22, zb_23, za_24, za_25, za_26, za_27, za_28, za_29, za_30, za_31, za_32, zb_35, za_36, za_37, za_38, za_39, za_40, zb_377, zb_378, za_379, za_380, za_381, za_382, za_383, zb_384, za_385, za_386, za_387, za_388, za_389, za_390, za_391, za_392, za_393, zb_396, za_397, za_398, za_399, za_400, za_401, zb_738, za_739, za_740, za_741, za_742, za_743, za_744, za_745, za_746, za_747, zb_748, za_749, za_750, zb_751, zb_752, za_753, za_754, za_755, za_756, zb_757, za_758, za_759, za_760, zb_761, za_763, za_764, za_765, zu_0, zu_1, zu_2, zu_3, zu_4, zu_5, zu_6, zu_7, zu_8, zu_9, zu_10, zu_11, zu_12, zu_13, zu_14, zu_15, zu_16, zu_17, zu_18, zu_19, zu_20, zu_21, zu_22, zu_23, zu_24, zu_25, zu_26, zu_27, zu_28, zu_29, zu_30, zu_90, zv_0_9, zv_1_9, zv_2_9, zv_3_9, zv_4_9, zv_5_9, zv_6_9, zv_7_9, zv_8_9, zv_0_330, zv_0_4544, zv_1_4544, zv_2_4544, zv_3_4544, zv_4_4544, zv_5_4544, zv_6_4544, zv_7_4544, zv_8_4544, zv_9_4544, zv_10_4544, zv_11_4544, zv_12_4544, zv_13_4544, zv_14_4544, zv_15_4544, zv_16_4544, zv_17_4544, zv_18_4544, zv_19_4544, zv_20_4544, zv_21_4544, zv_22_4544, zv_23_4544, zv_24_4544, zv_25_4544, zv_26_4544, zv_27_4544, zv_28_4544, zv_29_4544, zv_0_11, zv_1_11, zv_0_160, true_and, and_true, Nat.reduceAdd]
  refine ⟨fun _ => ?_, fun h => absurd h (by decide)⟩
  refine h29 _ _ _ ?_
  simp only [bX0_goUp_29, zw_0, zw_1, zs_aloadn0, zs_aloadNn0, zs_aloadn1, zs_aloadNn1, zs_iloadn2, zs_iload4, zi_0_59, zg_0_15, zg_0_63, zs_bipush, zi_0_68, zs_iastore, zg_0_72, zs_iaload, zs_aloadn3, zs_aloadNn3, zs_iconst, zi_0_75, zs_iadd, zs_sipush, zi_0_79, zg_0_53, zg_0_85, zs_iceq, zs_return, zh_0, zh_1, zh_2, zh_3, zh_4, zt_i, zt_l, zt_r, zt_n, zn_int, zn_b0, zn_b1, zb_15, zb_16, zb_17, za_18, za_19, za_20, za_21, za_22, zb_23, za_24, za_25, za_26, za_27, za_28, za_29, za_30, za_31, za_32, zb_35, za_36, za_37, za_38, za_39, za_40, zb_377, zb_378, za_379, za_380, za_381, za_382, za_383, zb_384, za_385, za_386, za_387, za_388, za_389, za_390, za_391, za_392, za_393, zb_396, za_397, za_398, za_399, za_400, za_401, zb_738, za_739, za_740, za_741, za_742, za_743, za_744, za_745, za_746, za_747, zb_748, za_749, za_750, zb_751, zb_752, za_753, za_754, za_755, za_756, zb_757, za_758, za_759, za_760, zb_761, za_763, za_764, za_765, zu_0, zu_1, zu_2, zu_3, zu_4, zu_5, zu_6, zu_7, zu_8, zu_9, zu_10, zu_11, zu_12, zu_13, zu_14, zu_15, zu_16, zu_17, zu_18, zu_19, zu_20, zu_21, zu_22, zu_23, zu_24, zu_25, zu_26, zu_27, zu_28, zu_29, zu_30, zu_90, zv_0_9, zv_1_9, zv_2_9, zv_3_9, zv_4_9, zv_5_9, zv_6_9, zv_7_9, zv_8_9, zv_0_330, zv_0_4544, zv_1_4544, zv_2_4544, zv_3_4544, zv_4_4544, zv_5_4544, zv_6_4544, zv_7_4544, zv_8_4544, zv_9_4544, zv_10_4544, zv_11_4544, zv_12_4544, zv_13_4544, zv_14_4544, zv_15_4544, zv_16_4544, zv_17_4544, zv_18_4544, zv_19_4544, zv_20_4544, zv_21_4544, zv_22_4544, zv_23_4544, zv_24_4544, zv_25_4544, zv_26_4544, zv_27_4544, zv_28_4544, zv_29_4544, zv_0_11, zv_1_11, zv_0_160, true_and, and_true, Nat.reduceAdd, ow, A1, A2, A3, A4, A5, A6, A7, A8, A9]
  refine c0_nameFor hE (d + 1) hw h9 hs hk hp hS0 (fun M1 e1 e18 f1 => ?_) (by omega)
  simp only [bX0_goUp_29, zw_0, zw_1, zs_aloadn0, zs_aloadNn0, zs_aloadn1, zs_aloadNn1, zs_iloadn2, zs_iload4, zi_0_59, zg_0_15, zg_0_63, zs_bipush, zi_0_68, zs_iastore, zg_0_72, zs_iaload, zs_aloadn3, zs_aloadNn3, zs_iconst, zi_0_75, zs_iadd, zs_sipush, zi_0_79, zg_0_53, zg_0_85, zs_iceq, zs_return, zh_0, zh_1, zh_2, zh_3, zh_4, zt_i, zt_l, zt_r, zt_n, zn_int, zn_b0, zn_b1, zb_15, zb_16, zb_17, za_18, za_19, za_20, za_21, za_22, zb_23, za_24, za_25, za_26, za_27, za_28, za_29, za_30, za_31, za_32, zb_35, za_36, za_37, za_38, za_39, za_40, zb_377, zb_378, za_379, za_380, za_381, za_382, za_383, zb_384, za_385, za_386, za_387, za_388, za_389, za_390, za_391, za_392, za_393, zb_396, za_397, za_398, za_399, za_400, za_401, zb_738, za_739, za_740, za_741, za_742, za_743, za_744, za_745, za_746, za_747, zb_748, za_749, za_750, zb_751, zb_752, za_753, za_754, za_755, za_756, zb_757, za_758, za_759, za_760, zb_761, za_763, za_764, za_765, zu_0, zu_1, zu_2, zu_3, zu_4, zu_5, zu_6, zu_7, zu_8, zu_9, zu_10, zu_11, zu_12, zu_13, zu_14, zu_15, zu_16, zu_17, zu_18, zu_19, zu_20, zu_21, zu_22, zu_23, zu_24, zu_25, zu_26, zu_27, zu_28, zu_29, zu_30, zu_90, zv_0_9, zv_1_9, zv_2_9, zv_3_9, zv_4_9, zv_5_9, zv_6_9, zv_7_9, zv_8_9, zv_0_330, zv_0_4544, zv_1_4544, zv_2_4544, zv_3_4544, zv_4_4544, zv_5_4544, zv_6_4544, zv_7_4544, zv_8_4544, zv_9_4544, zv_10_4544, zv_11_4544, zv_12_4544, zv_13_4544, zv_14_4544, zv_15_4544, zv_16_4544, zv_17_4544, zv_18_4544, zv_19_4544, zv_20_4544, zv_21_4544, zv_22_4544, zv_23_4544, zv_24_4544, zv_25_4544, zv_26_4544, zv_27_4544, zv_28_4544, zv_29_4544, zv_0_11, zv_1_11, zv_0_160, true_and, and_true, Nat.reduceAdd, ow, A1, A2, A3, A4, A5, A6, A7, A8, A9]
  have S1 : zw_c M1 w S := zw_c_o hs hS0 f1 (by simp; omega)
  refine zm_R_eq (c10_desk hE (d + 2) hww (m := zWn S) hs.1 (nI p) (M := M1) S1.2.2.1) ?_
  rw [zx_dk (n := n) (b := b) hs.1 rfl x2 (by omega) (by omega) (by omega) (fun j hj => S1.2.2.2.2.1 2 j (by decide) hj) (fun j hj => S1.2.2.2.2.1 4 j (by decide) hj) hk]
  have nmo := ze_nm_ok (k := k) (p := p) (pr := pr) hbw hi hk hp h9.2.2.2.2
  generalize hM2 : zm_wi M1 749 8 (nI (ze_dk S k p)) = M2
  have f2 : zf [749] M M2 := by rw [← hM2]; exact zf_wi f1 (by decide)
  have e2 : ∀ i, i < 9 → M2.1 749 i = ze_nm b pr S k p i := by
    intro i hi9
    rw [← hM2, zm_wi_same]
    by_cases c : i = 8
    · subst c; rfl
    · rw [if_neg c]; exact e1 i (by omega)
  have S2 : zw_c M2 w S := zw_c_o hs hS0 f2 (by simp; omega)
  have m4 : M2.1 (w + 4) k = nI s := by rw [← x3]; exact S2.2.2.2.2.1 3 k (by decide) hk
  simp only [bX0_goUp_29, zw_0, zw_1, zs_aloadn0, zs_aloadNn0, zs_aloadn1, zs_aloadNn1, zs_iloadn2, zs_iload4, zi_0_59, zg_0_15, zg_0_63, zs_bipush, zi_0_68, zs_iastore, zg_0_72, zs_iaload, zs_aloadn3, zs_aloadNn3, zs_iconst, zi_0_75, zs_iadd, zs_sipush, zi_0_79, zg_0_53, zg_0_85, zs_iceq, zs_return, zh_0, zh_1, zh_2, zh_3, zh_4, zt_i, zt_l, zt_r, zt_n, zn_int, zn_b0, zn_b1, zb_15, zb_16, zb_17, za_18, za_19, za_20, za_21, za_22, zb_23, za_24, za_25, za_26, za_27, za_28, za_29, za_30, za_31, za_32, zb_35, za_36, za_37, za_38, za_39, za_40, zb_377, zb_378, za_379, za_380, za_381, za_382, za_383, zb_384, za_385, za_386, za_387, za_388, za_389, za_390, za_391, za_392, za_393, zb_396, za_397, za_398, za_399, za_400, za_401, zb_738, za_739, za_740, za_741, za_742, za_743, za_744, za_745, za_746, za_747, zb_748, za_749, za_750, zb_751, zb_752, za_753, za_754, za_755, za_756, zb_757, za_758, za_759, za_760, zb_761, za_763, za_764, za_765, zu_0, zu_1, zu_2, zu_3, zu_4, zu_5, zu_6, zu_7, zu_8, zu_9, zu_10, zu_11, zu_12, zu_13, zu_14, zu_15, zu_16, zu_17, zu_18, zu_19, zu_20, zu_21, zu_22, zu_23, zu_24, zu_25, zu_26, zu_27, zu_28, zu_29, zu_30, zu_90, zv_0_9, zv_1_9, zv_2_9, zv_3_9, zv_4_9, zv_5_9, zv_6_9, zv_7_9, zv_8_9, zv_0_330, zv_0_4544, zv_1_4544, zv_2_4544, zv_3_4544, zv_4_4544, zv_5_4544, zv_6_4544, zv_7_4544, zv_8_4544, zv_9_4544, zv_10_4544, zv_11_4544, zv_12_4544, zv_13_4544, zv_14_4544, zv_15_4544, zv_16_4544, zv_17_4544, zv_18_4544, zv_19_4544, zv_20_4544, zv_21_4544, zv_22_4544, zv_23_4544, zv_24_4544, zv_25_4544, zv_26_4544, zv_27_4544, zv_28_4544, zv_29_4544, zv_0_11, zv_1_11, zv_0_160, true_and, and_true, Nat.reduceAdd, ow, A1, A2, A3, A4, A5, A6, A7, A8, A9, hM2, i1, i2, m4, zs_aloadV3 hlw]
  obtain ⟨L, hL⟩ := zc_T_w (zc_T_f hT f2 (by simp)) 0 (by decide)
  have h92 : zc_s9 n b pr M2 := zc_s9_f h9 f2 (by decide) (by decide) (by decide) (by decide)
  refine c2_value hE d (L := L) (n := n) (by decide) h92.1 h92.2.1 (fun i hi9 => by rw [e2 i hi9]; exact nmo i) hL (fun x M3 hx f3 => ?_)
  rw [zc_sy h92 (hTo 0 (by decide)) (fun i hi9 => e2 i hi9)] at hx
  have hsy := ze_sy_in n b T 0 (ze_nm b pr S k p)
  have top0 : zq_top 0 = 999 := rfl
  rw [top0] at hsy
  have hmin : (if (9999 : Int32) < nI s + x then 9999 else nI s + x) = ze_mn ((zWa S 3 k).toInt + ze_sy n b T 0 (ze_nm b pr S k p)) := by
    rw [x3]
    refine zx_min ?_ (by rw [nI_toInt (by omega)]; omega) (by rw [nI_toInt (by omega)]; omega)
    exact zx_addI rfl hx (by rw [nI_toInt (by omega)]; omega) (by rw [nI_toInt (by omega)]; omega)
  have f23 : zf [748, 749, 750] M M3 := zf_trans (zf_sub f2 (by simp)) (zf_sub f3 (by simp))
  have S3 : zw_c M3 w S := zw_c_o hs hS0 f23 (by simp; omega)
  have e3 : ∀ i, i < 9 → M3.1 749 i = ze_nm b pr S k p i := fun i hi9 => by rw [(f3 749 (by decide)).1]; exact e2 i hi9
  simp only [bX0_goUp_29, zw_0, zw_1, zs_aloadn0, zs_aloadNn0, zs_aloadn1, zs_aloadNn1, zs_iloadn2, zs_iload4, zi_0_59, zg_0_15, zg_0_63, zs_bipush, zi_0_68, zs_iastore, zg_0_72, zs_iaload, zs_aloadn3, zs_aloadNn3, zs_iconst, zi_0_75, zs_iadd, zs_sipush, zi_0_79, zg_0_53, zg_0_85, zs_iceq, zs_return, zh_0, zh_1, zh_2, zh_3, zh_4, zt_i, zt_l, zt_r, zt_n, zn_int, zn_b0, zn_b1, zb_15, zb_16, zb_17, za_18, za_19, za_20, za_21, za_22, zb_23, za_24, za_25, za_26, za_27, za_28, za_29, za_30, za_31, za_32, zb_35, za_36, za_37, za_38, za_39, za_40, zb_377, zb_378, za_379, za_380, za_381, za_382, za_383, zb_384, za_385, za_386, za_387, za_388, za_389, za_390, za_391, za_392, za_393, zb_396, za_397, za_398, za_399, za_400, za_401, zb_738, za_739, za_740, za_741, za_742, za_743, za_744, za_745, za_746, za_747, zb_748, za_749, za_750, zb_751, zb_752, za_753, za_754, za_755, za_756, zb_757, za_758, za_759, za_760, zb_761, za_763, za_764, za_765, zu_0, zu_1, zu_2, zu_3, zu_4, zu_5, zu_6, zu_7, zu_8, zu_9, zu_10, zu_11, zu_12, zu_13, zu_14, zu_15, zu_16, zu_17, zu_18, zu_19, zu_20, zu_21, zu_22, zu_23, zu_24, zu_25, zu_26, zu_27, zu_28, zu_29, zu_30, zu_90, zv_0_9, zv_1_9, zv_2_9, zv_3_9, zv_4_9, zv_5_9, zv_6_9, zv_7_9, zv_8_9, zv_0_330, zv_0_4544, zv_1_4544, zv_2_4544, zv_3_4544, zv_4_4544, zv_5_4544, zv_6_4544, zv_7_4544, zv_8_4544, zv_9_4544, zv_10_4544, zv_11_4544, zv_12_4544, zv_13_4544, zv_14_4544, zv_15_4544, zv_16_4544, zv_17_4544, zv_18_4544, zv_19_4544, zv_20_4544, zv_21_4544, zv_22_4544, zv_23_4544, zv_24_4544, zv_25_4544, zv_26_4544, zv_27_4544, zv_28_4544, zv_29_4544, zv_0_11, zv_1_11, zv_0_160, true_and, and_true, Nat.reduceAdd, ow, A1, A2, A3, A4, A5, A6, A7, A8, A9, i1, i2, hmin]
  have S4 : zw_c (zm_wi (zm_wi M3 (w + 4) k (ze_mn ((zWa S 3 k).toInt + ze_sy n b T 0 (ze_nm b pr S k p)))) (w + 3) k (nI p)) w (ze_u1 n b pr T S k p) := zw_c_pt (x := 2) (zw_c_pt (x := 3) S3 (by decide) _) (by decide) _
  have f4 : zf (zF w) M (zm_wi (zm_wi M3 (w + 4) k (ze_mn ((zWa S 3 k).toInt + ze_sy n b T 0 (ze_nm b pr S k p)))) (w + 3) k (nI p)) := zf_wi (zf_wi (zf_sub f23 (fun q hq => zF_m hq)) (zF_w (by simp [zw_L]))) (zF_w (by simp [zw_L]))
  have e4 : ∀ i, i < 9 → (zm_wi (zm_wi M3 (w + 4) k (ze_mn ((zWa S 3 k).toInt + ze_sy n b T 0 (ze_nm b pr S k p)))) (w + 3) k (nI p)).1 749 i = ze_nm b pr S k p i := fun i hi9 => by rw [zm_wi_other (by omega), zm_wi_other (by omega)]; exact e3 i hi9
  generalize hM4 : zm_wi (zm_wi M3 (w + 4) k (ze_mn ((zWa S 3 k).toInt + ze_sy n b T 0 (ze_nm b pr S k p)))) (w + 3) k (nI p) = M4 at *
  have m1 : M4.1 (w + 2) k = zWa S 1 k := S4.2.2.2.2.1 1 k (by decide) hk
  rw [m1]
  have up : ze_up true n b pr T S k = if nI p = zWa S 1 k then (if ze_pd n b pr T (ze_u1 n b pr T S k p) k p then (ze_us true (ze_u1 n b pr T S k p) k, true) else (ze_uf true (ze_u1 n b pr T S k p) k, false)) else (ze_u1 n b pr T S k p, false) := by
    unfold ze_up; rw [ep]
  rw [up] at q
  refine ⟨fun heq => ?_, fun hne => ?_⟩
  · rw [if_pos heq] at q
    have m3 : M4.1 (w + 4) k = zWa (ze_u1 n b pr T S k p) 3 k := S4.2.2.2.2.1 3 k (by decide) hk
    have hsz4 : zw_sz (ze_u1 n b pr T S k p) := hs
    have f5 : zf (zF w) M (zm_wi M4 749 1 (zWa (ze_u1 n b pr T S k p) 3 k)) := zf_wi f4 (zF_m (by decide))
    have S5 : zw_c (zm_wi M4 749 1 (zWa (ze_u1 n b pr T S k p) 3 k)) w (ze_u1 n b pr T S k p) := zw_cong hsz4 S4 (fun q hq => zm_wi_other (by have := zw_L_mem hq; omega))
    have e5 : ∀ i, i < 8 → (zm_wi M4 749 1 (zWa (ze_u1 n b pr T S k p) 3 k)).1 749 i = ze_nm b pr (ze_u1 n b pr T S k p) k p i := by
      intro i hi8
      rw [zm_wi_same]
      by_cases c : i = 1
      · subst c; rfl
      · rw [if_neg c, e4 i (by omega)]
        have q0 : zWa (ze_u1 n b pr T S k p) 0 k = zWa S 0 k := rfl
        rcases (show i = 0 ∨ i = 2 ∨ i = 3 ∨ i = 4 ∨ i = 5 ∨ i = 6 ∨ i = 7 by omega) with rfl | rfl | rfl | rfl | rfl | rfl | rfl <;> rfl
    have n5 : zN (zm_wi M4 749 1 (zWa (ze_u1 n b pr T S k p) 3 k)) := by
      intro i hi9
      rw [zm_wi_same]
      by_cases c : i = 1
      · rw [if_pos c, e3', nI_toInt (by omega)]; exact ⟨by omega, by omega⟩
      · rw [if_neg c, e4 i hi9]; exact nmo i
    generalize hM5 : zm_wi M4 749 1 (zWa (ze_u1 n b pr T S k p) 3 k) = M5 at *
    refine h101 _ _ _ ?_
    simp only [bX0_goUp_101, zw_0, zw_1, zs_aloadn0, zs_aloadNn0, zg_0_15, zg_0_63, zs_iconst, zs_aloadn1, zs_aloadNn1, zg_0_72, zs_iloadn2, zs_iaload, zs_iastore, zi_0_88, zs_bipush, zs_irem, zs_aloadn3, zs_aloadNn3, zi_0_75, zs_icge, zg_0_29, zi_0_92, zs_goto, zh_0, zh_1, zh_2, zh_3, zh_4, zt_i, zt_l, zt_r, zt_n, zb_15, zb_16, zb_17, za_18, za_19, za_20, za_21, za_22, zb_23, za_24, za_25, za_26, za_27, za_28, za_29, za_30, za_31, za_32, zb_35, za_36, za_37, za_38, za_39, za_40, zb_377, zb_378, za_379, za_380, za_381, za_382, za_383, zb_384, za_385, za_386, za_387, za_388, za_389, za_390, za_391, za_392, za_393, zb_396, za_397, za_398, za_399, za_400, za_401, zb_738, za_739, za_740, za_741, za_742, za_743, za_744, za_745, za_746, za_747, zb_748, za_749, za_750, zb_751, zb_752, za_753, za_754, za_755, za_756, zb_757, za_758, za_759, za_760, zb_761, za_763, za_764, za_765, zu_0, zu_1, zu_2, zu_3, zu_4, zu_5, zu_6, zu_7, zu_8, zu_9, zu_10, zu_11, zu_12, zu_13, zu_14, zu_15, zu_16, zu_17, zu_18, zu_19, zu_20, zu_21, zu_22, zu_23, zu_24, zu_25, zu_26, zu_27, zu_28, zu_29, zu_30, zu_90, zv_0_9, zv_1_9, zv_2_9, zv_3_9, zv_4_9, zv_5_9, zv_6_9, zv_7_9, zv_8_9, zv_0_330, zv_0_4544, zv_1_4544, zv_2_4544, zv_3_4544, zv_4_4544, zv_5_4544, zv_6_4544, zv_7_4544, zv_8_4544, zv_9_4544, zv_10_4544, zv_11_4544, zv_12_4544, zv_13_4544, zv_14_4544, zv_15_4544, zv_16_4544, zv_17_4544, zv_18_4544, zv_19_4544, zv_20_4544, zv_21_4544, zv_22_4544, zv_23_4544, zv_24_4544, zv_25_4544, zv_26_4544, zv_27_4544, zv_28_4544, zv_29_4544, zv_0_11, zv_1_11, zv_0_160, true_and, and_true, Nat.reduceAdd, ow, A1, A2, A3, A4, A5, A6, A7, A8, A9, i1, i2, m3, hM5]
    refine c10_draw hE (d + 2) hw S5 (fun M6 S6 f6 => ?_)
    have xx : zWx (ze_u1 n b pr T S k p) = nI X := eX
    have xr : nI X - nI X / 10 * 10 = nI (X % 10) := pk_rem (d := 10) (by omega) (by decide) (by decide)
    rw [xx]
    simp only [bX0_goUp_101, zw_0, zw_1, zs_aloadn0, zs_aloadNn0, zg_0_15, zg_0_63, zs_iconst, zs_aloadn1, zs_aloadNn1, zg_0_72, zs_iloadn2, zs_iaload, zs_iastore, zi_0_88, zs_bipush, zs_irem, zs_aloadn3, zs_aloadNn3, zi_0_75, zs_icge, zg_0_29, zi_0_92, zs_goto, zh_0, zh_1, zh_2, zh_3, zh_4, zt_i, zt_l, zt_r, zt_n, zb_15, zb_16, zb_17, za_18, za_19, za_20, za_21, za_22, zb_23, za_24, za_25, za_26, za_27, za_28, za_29, za_30, za_31, za_32, zb_35, za_36, za_37, za_38, za_39, za_40, zb_377, zb_378, za_379, za_380, za_381, za_382, za_383, zb_384, za_385, za_386, za_387, za_388, za_389, za_390, za_391, za_392, za_393, zb_396, za_397, za_398, za_399, za_400, za_401, zb_738, za_739, za_740, za_741, za_742, za_743, za_744, za_745, za_746, za_747, zb_748, za_749, za_750, zb_751, zb_752, za_753, za_754, za_755, za_756, zb_757, za_758, za_759, za_760, zb_761, za_763, za_764, za_765, zu_0, zu_1, zu_2, zu_3, zu_4, zu_5, zu_6, zu_7, zu_8, zu_9, zu_10, zu_11, zu_12, zu_13, zu_14, zu_15, zu_16, zu_17, zu_18, zu_19, zu_20, zu_21, zu_22, zu_23, zu_24, zu_25, zu_26, zu_27, zu_28, zu_29, zu_30, zu_90, zv_0_9, zv_1_9, zv_2_9, zv_3_9, zv_4_9, zv_5_9, zv_6_9, zv_7_9, zv_8_9, zv_0_330, zv_0_4544, zv_1_4544, zv_2_4544, zv_3_4544, zv_4_4544, zv_5_4544, zv_6_4544, zv_7_4544, zv_8_4544, zv_9_4544, zv_10_4544, zv_11_4544, zv_12_4544, zv_13_4544, zv_14_4544, zv_15_4544, zv_16_4544, zv_17_4544, zv_18_4544, zv_19_4544, zv_20_4544, zv_21_4544, zv_22_4544, zv_23_4544, zv_24_4544, zv_25_4544, zv_26_4544, zv_27_4544, zv_28_4544, zv_29_4544, zv_0_11, zv_1_11, zv_0_160, true_and, and_true, Nat.reduceAdd, xr, zs_aloadV3 hlw]
    refine ⟨by decide, ?_⟩
    have f56 : zf (zF w) M M6 := zf_trans f5 (zf_sub f6 (fun q hq => zF_w hq))
    have h96 : zc_s9 n b pr M6 := zc_s9_f h9 f56 (zF_no (by omega) (by omega)) (zF_no (by omega) (by omega)) (zF_no (by omega) (by omega)) (zF_no (by omega) (by omega))
    have k49 : M6.1 749 = M5.1 749 := (f6 749 (fun z => by have := zw_L_mem z; omega)).1
    obtain ⟨L1, hL1⟩ := zc_T_w (zc_T_f hT f56 (fun q hq => by
      rcases List.mem_append.mp hq with z | z
      · have := zw_L_mem z; omega
      · simp at z; omega)) 1 (by decide)
    refine c2_value hE d (L := L1) (n := n) (w := 1) (by decide) h96.1 h96.2.1 (fun i hi9 => by rw [k49]; exact n5 i hi9) hL1 (fun z M7 hz f7 => ?_)
    rw [zc_sy (f := ze_nm b pr (ze_u1 n b pr T S k p) k p) h96 (hTo 1 (by decide)) (fun i hi8 => by rw [k49]; exact e5 i hi8)] at hz
    have hcmp : (z ≤ nI (X % 10)) = (ze_sy n b T 1 (ze_nm b pr (ze_u1 n b pr T S k p) k p) ≤ ((X % 10 : Nat) : Int)) := by rw [zx_i32le, hz, nI_toInt (by omega)]
    have hpd : ze_pd n b pr T (ze_u1 n b pr T S k p) k p = decide (((X % 10 : Nat) : Int) < ze_sy n b T 1 (ze_nm b pr (ze_u1 n b pr T S k p) k p)) := by
      unfold ze_pd; rw [xx, nI_toInt (by omega)]; congr 1
    have S7 : zw_c M7 w (zw_drw (ze_u1 n b pr T S k p)) := zw_c_o hs S6 f7 (by simp; omega)
    have f67 : zf (zF w) M M7 := zf_trans f56 (zf_sub f7 (fun q hq => zF_m (by simp at hq ⊢; omega)))
    have n7 : zN M7 := fun i hi9 => by rw [(f7 749 (by decide)).1, k49]; exact n5 i hi9
    simp only [bX0_goUp_101, zw_0, zw_1, zs_aloadn0, zs_aloadNn0, zg_0_15, zg_0_63, zs_iconst, zs_aloadn1, zs_aloadNn1, zg_0_72, zs_iloadn2, zs_iaload, zs_iastore, zi_0_88, zs_bipush, zs_irem, zs_aloadn3, zs_aloadNn3, zi_0_75, zs_icge, zg_0_29, zi_0_92, zs_goto, zh_0, zh_1, zh_2, zh_3, zh_4, zt_i, zt_l, zt_r, zt_n, zb_15, zb_16, zb_17, za_18, za_19, za_20, za_21, za_22, zb_23, za_24, za_25, za_26, za_27, za_28, za_29, za_30, za_31, za_32, zb_35, za_36, za_37, za_38, za_39, za_40, zb_377, zb_378, za_379, za_380, za_381, za_382, za_383, zb_384, za_385, za_386, za_387, za_388, za_389, za_390, za_391, za_392, za_393, zb_396, za_397, za_398, za_399, za_400, za_401, zb_738, za_739, za_740, za_741, za_742, za_743, za_744, za_745, za_746, za_747, zb_748, za_749, za_750, zb_751, zb_752, za_753, za_754, za_755, za_756, zb_757, za_758, za_759, za_760, zb_761, za_763, za_764, za_765, zu_0, zu_1, zu_2, zu_3, zu_4, zu_5, zu_6, zu_7, zu_8, zu_9, zu_10, zu_11, zu_12, zu_13, zu_14, zu_15, zu_16, zu_17, zu_18, zu_19, zu_20, zu_21, zu_22, zu_23, zu_24, zu_25, zu_26, zu_27, zu_28, zu_29, zu_30, zu_90, zv_0_9, zv_1_9, zv_2_9, zv_3_9, zv_4_9, zv_5_9, zv_6_9, zv_7_9, zv_8_9, zv_0_330, zv_0_4544, zv_1_4544, zv_2_4544, zv_3_4544, zv_4_4544, zv_5_4544, zv_6_4544, zv_7_4544, zv_8_4544, zv_9_4544, zv_10_4544, zv_11_4544, zv_12_4544, zv_13_4544, zv_14_4544, zv_15_4544, zv_16_4544, zv_17_4544, zv_18_4544, zv_19_4544, zv_20_4544, zv_21_4544, zv_22_4544, zv_23_4544, zv_24_4544, zv_25_4544, zv_26_4544, zv_27_4544, zv_28_4544, zv_29_4544, zv_0_11, zv_1_11, zv_0_160, true_and, and_true, Nat.reduceAdd, ow, A1, A2, A3, A4, A5, A6, A7, A8, A9, i1, i2, hcmp]
    refine ⟨fun hge => ?_, fun hlt => ?_⟩
    · rw [hpd, decide_eq_false (by omega)] at q
      have m3 : M7.1 (w + 4) k = nI s' := by rw [← e3']; exact S7.2.2.2.2.1 3 k (by decide) hk
      have m0 : zWa (ze_u1 n b pr T S k p) 0 k = zWa S 0 k := rfl
      have hmin2 : (if (9999 : Int32) < nI s' * 2 then 9999 else nI s' * 2) = ze_mn ((zWa (ze_u1 n b pr T S k p) 3 k).toInt * 2) := by
        rw [e3']
        refine zx_min ?_ (by rw [nI_toInt (by omega)]; omega) (by rw [nI_toInt (by omega)]; omega)
        rw [show nI s' * 2 = nI (s' * 2) from pk_mul _ 2, nI_toInt (by omega), nI_toInt (by omega)]; omega
      refine h151 _ _ _ ?_
      have r1 : ∀ v, (zm_wi M7 (w + 4) k v).1 (w + 1) k = zWa (ze_u1 n b pr T S k p) 0 k := fun v => by rw [zm_wi_other (by omega)]; exact S7.2.2.2.2.1 0 k (by decide) hk
      simp only [bX0_goUp_151, zw_0, zw_1, zs_aloadn1, zs_aloadNn1, zg_0_72, zs_iloadn2, zs_iaload, zs_iconst, zs_imul, zs_sipush, zi_0_79, zs_iastore, zg_0_53, zg_0_96, zi_0_92, zh_0, zh_1, zh_2, zh_3, zh_4, zt_i, zt_l, zt_r, zt_n, zb_15, zb_16, zb_17, za_18, za_19, za_20, za_21, za_22, zb_23, za_24, za_25, za_26, za_27, za_28, za_29, za_30, za_31, za_32, zb_35, za_36, za_37, za_38, za_39, za_40, zb_377, zb_378, za_379, za_380, za_381, za_382, za_383, zb_384, za_385, za_386, za_387, za_388, za_389, za_390, za_391, za_392, za_393, zb_396, za_397, za_398, za_399, za_400, za_401, zb_738, za_739, za_740, za_741, za_742, za_743, za_744, za_745, za_746, za_747, zb_748, za_749, za_750, zb_751, zb_752, za_753, za_754, za_755, za_756, zb_757, za_758, za_759, za_760, zb_761, za_763, za_764, za_765, zu_0, zu_1, zu_2, zu_3, zu_4, zu_5, zu_6, zu_7, zu_8, zu_9, zu_10, zu_11, zu_12, zu_13, zu_14, zu_15, zu_16, zu_17, zu_18, zu_19, zu_20, zu_21, zu_22, zu_23, zu_24, zu_25, zu_26, zu_27, zu_28, zu_29, zu_30, zu_90, zv_0_9, zv_1_9, zv_2_9, zv_3_9, zv_4_9, zv_5_9, zv_6_9, zv_7_9, zv_8_9, zv_0_330, zv_0_4544, zv_1_4544, zv_2_4544, zv_3_4544, zv_4_4544, zv_5_4544, zv_6_4544, zv_7_4544, zv_8_4544, zv_9_4544, zv_10_4544, zv_11_4544, zv_12_4544, zv_13_4544, zv_14_4544, zv_15_4544, zv_16_4544, zv_17_4544, zv_18_4544, zv_19_4544, zv_20_4544, zv_21_4544, zv_22_4544, zv_23_4544, zv_24_4544, zv_25_4544, zv_26_4544, zv_27_4544, zv_28_4544, zv_29_4544, zv_0_11, zv_1_11, zv_0_160, true_and, and_true, Nat.reduceAdd, ow, A1, A2, A3, A4, A5, A6, A7, A8, A9, i1, i2, m3, hmin2, r1]
      have S8 := zw_c_pt (x := 2) (k := k) (zw_c_pt (x := 3) (k := k) S7 (by decide) (ze_mn ((zWa (ze_u1 n b pr T S k p) 3 k).toInt * 2))) (by decide) (zWa (ze_u1 n b pr T S k p) 0 k)
      refine c10_write hE (d + 2) hw 1 (S := zw_pt (zw_pt (zw_drw (ze_u1 n b pr T S k p)) 3 k (ze_mn ((zWa (ze_u1 n b pr T S k p) 3 k).toInt * 2))) 2 k (zWa (ze_u1 n b pr T S k p) 0 k)) hs hk S8 (fun M9 S9 f9 => ?_)
      simp only [bX0_goUp_151, zw_0, zw_1, zs_aloadn1, zs_aloadNn1, zg_0_72, zs_iloadn2, zs_iaload, zs_iconst, zs_imul, zs_sipush, zi_0_79, zs_iastore, zg_0_53, zg_0_96, zi_0_92, zh_0, zh_1, zh_2, zh_3, zh_4, zt_i, zt_l, zt_r, zt_n, zb_15, zb_16, zb_17, za_18, za_19, za_20, za_21, za_22, zb_23, za_24, za_25, za_26, za_27, za_28, za_29, za_30, za_31, za_32, zb_35, za_36, za_37, za_38, za_39, za_40, zb_377, zb_378, za_379, za_380, za_381, za_382, za_383, zb_384, za_385, za_386, za_387, za_388, za_389, za_390, za_391, za_392, za_393, zb_396, za_397, za_398, za_399, za_400, za_401, zb_738, za_739, za_740, za_741, za_742, za_743, za_744, za_745, za_746, za_747, zb_748, za_749, za_750, zb_751, zb_752, za_753, za_754, za_755, za_756, zb_757, za_758, za_759, za_760, zb_761, za_763, za_764, za_765, zu_0, zu_1, zu_2, zu_3, zu_4, zu_5, zu_6, zu_7, zu_8, zu_9, zu_10, zu_11, zu_12, zu_13, zu_14, zu_15, zu_16, zu_17, zu_18, zu_19, zu_20, zu_21, zu_22, zu_23, zu_24, zu_25, zu_26, zu_27, zu_28, zu_29, zu_30, zu_90, zv_0_9, zv_1_9, zv_2_9, zv_3_9, zv_4_9, zv_5_9, zv_6_9, zv_7_9, zv_8_9, zv_0_330, zv_0_4544, zv_1_4544, zv_2_4544, zv_3_4544, zv_4_4544, zv_5_4544, zv_6_4544, zv_7_4544, zv_8_4544, zv_9_4544, zv_10_4544, zv_11_4544, zv_12_4544, zv_13_4544, zv_14_4544, zv_15_4544, zv_16_4544, zv_17_4544, zv_18_4544, zv_19_4544, zv_20_4544, zv_21_4544, zv_22_4544, zv_23_4544, zv_24_4544, zv_25_4544, zv_26_4544, zv_27_4544, zv_28_4544, zv_29_4544, zv_0_11, zv_1_11, zv_0_160, true_and, and_true, Nat.reduceAdd]
      refine h189 _ _ _ ?_
      simp only [bX0_goUp_189, zw_0, zw_1, zs_return, zn_int, zn_b0, zn_b1, zb_15, zb_16, zb_17, za_18, za_19, za_20, za_21, za_22, zb_23, za_24, za_25, za_26, za_27, za_28, za_29, za_30, za_31, za_32, zb_35, za_36, za_37, za_38, za_39, za_40, zb_377, zb_378, za_379, za_380, za_381, za_382, za_383, zb_384, za_385, za_386, za_387, za_388, za_389, za_390, za_391, za_392, za_393, zb_396, za_397, za_398, za_399, za_400, za_401, zb_738, za_739, za_740, za_741, za_742, za_743, za_744, za_745, za_746, za_747, zb_748, za_749, za_750, zb_751, zb_752, za_753, za_754, za_755, za_756, zb_757, za_758, za_759, za_760, zb_761, za_763, za_764, za_765, true_and, and_true, Nat.reduceAdd]
      refine q M9 S9 (fun i hi9 => ?_) (zf_trans (zf_wi (zf_wi f67 (zF_w (by simp [zw_L]))) (zF_w (by simp [zw_L]))) (zf_sub f9 (fun q hq => zF_w hq)))
      rw [(f9 749 (fun z => by have := zw_L_mem z; omega)).1, zm_wi_other (by omega), zm_wi_other (by omega)]
      exact n7 i hi9
    · rw [hpd, decide_eq_true (by omega)] at q
      have S8 := zw_c_pt (x := 4) (k := k) S7 (by decide) 1
      refine c10_write hE (d + 2) hw 0 (S := zw_pt (zw_drw (ze_u1 n b pr T S k p)) 4 k 1) hs hk S8 (fun M9 S9 f9 => ?_)
      simp only [bX0_goUp_101, zw_0, zw_1, zs_aloadn0, zs_aloadNn0, zg_0_15, zg_0_63, zs_iconst, zs_aloadn1, zs_aloadNn1, zg_0_72, zs_iloadn2, zs_iaload, zs_iastore, zi_0_88, zs_bipush, zs_irem, zs_aloadn3, zs_aloadNn3, zi_0_75, zs_icge, zg_0_29, zi_0_92, zs_goto, zh_0, zh_1, zh_2, zh_3, zh_4, zt_i, zt_l, zt_r, zt_n, zb_15, zb_16, zb_17, za_18, za_19, za_20, za_21, za_22, zb_23, za_24, za_25, za_26, za_27, za_28, za_29, za_30, za_31, za_32, zb_35, za_36, za_37, za_38, za_39, za_40, zb_377, zb_378, za_379, za_380, za_381, za_382, za_383, zb_384, za_385, za_386, za_387, za_388, za_389, za_390, za_391, za_392, za_393, zb_396, za_397, za_398, za_399, za_400, za_401, zb_738, za_739, za_740, za_741, za_742, za_743, za_744, za_745, za_746, za_747, zb_748, za_749, za_750, zb_751, zb_752, za_753, za_754, za_755, za_756, zb_757, za_758, za_759, za_760, zb_761, za_763, za_764, za_765, zu_0, zu_1, zu_2, zu_3, zu_4, zu_5, zu_6, zu_7, zu_8, zu_9, zu_10, zu_11, zu_12, zu_13, zu_14, zu_15, zu_16, zu_17, zu_18, zu_19, zu_20, zu_21, zu_22, zu_23, zu_24, zu_25, zu_26, zu_27, zu_28, zu_29, zu_30, zu_90, zv_0_9, zv_1_9, zv_2_9, zv_3_9, zv_4_9, zv_5_9, zv_6_9, zv_7_9, zv_8_9, zv_0_330, zv_0_4544, zv_1_4544, zv_2_4544, zv_3_4544, zv_4_4544, zv_5_4544, zv_6_4544, zv_7_4544, zv_8_4544, zv_9_4544, zv_10_4544, zv_11_4544, zv_12_4544, zv_13_4544, zv_14_4544, zv_15_4544, zv_16_4544, zv_17_4544, zv_18_4544, zv_19_4544, zv_20_4544, zv_21_4544, zv_22_4544, zv_23_4544, zv_24_4544, zv_25_4544, zv_26_4544, zv_27_4544, zv_28_4544, zv_29_4544, zv_0_11, zv_1_11, zv_0_160, true_and, and_true, Nat.reduceAdd]
      refine h189 _ _ _ ?_
      simp only [bX0_goUp_189, zw_0, zw_1, zs_return, zn_int, zn_b0, zn_b1, zb_15, zb_16, zb_17, za_18, za_19, za_20, za_21, za_22, zb_23, za_24, za_25, za_26, za_27, za_28, za_29, za_30, za_31, za_32, zb_35, za_36, za_37, za_38, za_39, za_40, zb_377, zb_378, za_379, za_380, za_381, za_382, za_383, zb_384, za_385, za_386, za_387, za_388, za_389, za_390, za_391, za_392, za_393, zb_396, za_397, za_398, za_399, za_400, za_401, zb_738, za_739, za_740, za_741, za_742, za_743, za_744, za_745, za_746, za_747, zb_748, za_749, za_750, zb_751, zb_752, za_753, za_754, za_755, za_756, zb_757, za_758, za_759, za_760, zb_761, za_763, za_764, za_765, true_and, and_true, Nat.reduceAdd]
      refine q M9 S9 (fun i hi9 => ?_) (zf_trans (zf_wi f67 (zF_w (by simp [zw_L]))) (zf_sub f9 (fun q hq => zF_w hq)))
      rw [(f9 749 (fun z => by have := zw_L_mem z; omega)).1, zm_wi_other (by omega)]
      exact n7 i hi9
  · rw [if_neg hne] at q
    exact q M4 S4 (fun i hi9 => by rw [e4 i hi9]; exact nmo i) f4
