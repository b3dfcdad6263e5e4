/-! ===== the class: what one adds; of an officer; whose law ===== -/
def zo_ad (n : Nat) (b pr : Nat → Int32) (D : Option zD) (dy : Int32) (p : Nat) : Int := zq_said D 0 (fun i => (zn_l dy 10 (nI p) (pr p) (nI (zt_rk b p)) (nI p) 0 0 0 i).toInt) (zq_rk n b)
theorem zo_ad_in (n : Nat) (b pr : Nat → Int32) (D : Option zD) (dy : Int32) (p : Nat) : 0 ≤ zo_ad n b pr D dy p ∧ zo_ad n b pr D dy p ≤ 999 := zq_bd_in _ _
def zo_ai (n : Nat) (b pr : Nat → Int32) (D : Option zD) (dy : Int32) (p : Nat) : Int32 := nI (zo_ad n b pr D dy p).toNat
theorem zn_l_ok {n : Nat} {b pr : Nat → Int32} {dd p : Nat} (hw : zt_wf n b) (hd : dd ≤ 9999) (hp : p < n) (hpr : ∀ i, i < n → zq_ok (pr i).toInt) (fr to : Nat) (hf : fr ≤ 9999) (ht : to ≤ 9999) (sz : Nat) (hs : sz ≤ 9999) : ∀ i, zq_ok (zn_l (nI dd) (nI sz) (nI p) (pr p) (nI (zt_rk b p)) (nI fr) (nI to) 0 0 i).toInt := by
  have hn := hw.1
  have sm : ∀ m : Nat, m ≤ 9999 → zq_ok (nI m).toInt := fun m hm => by rw [nI_toInt (by omega)]; exact ⟨by omega, by omega⟩
  intro i
  match i with
  | 0 => exact sm dd hd
  | 1 => exact sm sz hs
  | 2 => exact sm p (by omega)
  | 3 => exact hpr p hp
  | 4 => exact sm _ (by have := zt_rk_le hw p hp; omega)
  | 5 => exact sm fr hf
  | 6 => exact sm to ht
  | 7 => exact sm 0 (by omega)
  | i + 8 => exact sm 0 (by omega)
theorem c11_addsOf {E : zm_E} (hE : zm_ok E.2.2.1 E.2.2.2.2) (d : Nat) {n p dd L : Nat} {b pr : Nat → Int32} {D : Option zD} {lw : Value} {M : zm_M} (h9 : zc_s9 n b pr M) (hp : p < n) (hdd : dd ≤ 9999) (hd : M.1 23 0 = nI dd) (hl : (lw = .null ∧ D = none) ∨ (lw = .ref L ∧ zl_ok L ∧ zl_law M L 0 D)) (hD : zDo 0 D) {Q : Option Value → zm_M → Prop} (q : ∀ M', zN M' → zf [748, 749, 750] M M' → Q (some (.int (zo_ai n b pr D (nI dd) p))) M') : zm_R E (d + 4) mX11_addsOf [.ref 15, .int (nI p), lw] M Q := by
  have hlw : lw = .null ∨ ∃ L, lw = .ref L := by
    rcases hl with ⟨h, -⟩ | ⟨h, -⟩
    · exact Or.inl h
    · exact Or.inr ⟨L, h⟩
  refine zX11_addsOf hE (by rcases hlw with e | ⟨L, e⟩ <;> rw [e] <;> rfl) (fun G h0 => ?_)
  have st0 : zm_ent [.ref 15, .int (nI p), lw] 3 = [some (.ref 15), some (.int (nI p)), some lw] := by
    rcases hlw with e | ⟨L, e⟩ <;> rw [e] <;> rfl
  rw [st0]
  have hbw : zt_wf n b := zt_wf_c h9.1.1 h9.2.2.1
  have hn := hbw.1
  have nmo := zn_l_ok (pr := pr) hbw hdd hp h9.2.2.2.2 p 0 (by omega) (by omega) 10 (by omega)
  refine h0 _ _ _ ?_
  simp only [bX11_addsOf_0, zw_0, zw_1, zs_aloadn0, zs_aloadNn0, zg_11_35, zs_iloadn1, zs_iconst, zi_11_255, zg_11_259, zs_bipush, zs_iastore, zg_11_10, zg_11_136, zg_11_167, zs_aloadn2, zs_aloadNn2, zi_11_262, zs_ireturn, zh_0, zh_1, zh_2, zh_3, zh_4, zt_i, zt_l, zt_r, zt_n, zn_int, zn_b0, zn_b1, zb_15, zb_16, zb_17, za_18, za_19, za_20, za_21, za_22, zb_23, za_24, za_25, za_26, za_27, za_28, za_29, za_30, za_31, za_32, zb_35, za_36, za_37, za_38, za_39, za_40, zb_377, zb_378, za_379, za_380, za_381, za_382, za_383, zb_384, za_385, za_386, za_387, za_388, za_389, za_390, za_391, za_392, za_393, zb_396, za_397, za_398, za_399, za_400, za_401, zb_738, za_739, za_740, za_741, za_742, za_743, za_744, za_745, za_746, za_747, zb_748, za_749, za_750, zb_751, zb_752, za_753, za_754, za_755, za_756, zb_757, za_758, za_759, za_760, zb_761, za_763, za_764, za_765, zu_0, zu_1, zu_2, zu_3, zu_4, zu_5, zu_6, zu_7, zu_8, zu_9, zu_10, zu_11, zu_12, zu_13, zu_14, zu_15, zu_16, zu_17, zu_18, zu_19, zu_20, zu_21, zu_22, zu_23, zu_24, zu_25, zu_26, zu_27, zu_28, zu_29, zu_30, zu_90, zv_0_9, zv_1_9, zv_2_9, zv_3_9, zv_4_9, zv_5_9, zv_6_9, zv_7_9, zv_8_9, zv_0_330, zv_0_4544, zv_1_4544, zv_2_4544, zv_3_4544, zv_4_4544, zv_5_4544, zv_6_4544, zv_7_4544, zv_8_4544, zv_9_4544, zv_10_4544, zv_11_4544, zv_12_4544, zv_13_4544, zv_14_4544, zv_15_4544, zv_16_4544, zv_17_4544, zv_18_4544, zv_19_4544, zv_20_4544, zv_21_4544, zv_22_4544, zv_23_4544, zv_24_4544, zv_25_4544, zv_26_4544, zv_27_4544, zv_28_4544, zv_29_4544, zv_0_11, zv_1_11, zv_0_160, true_and, and_true, Nat.reduceAdd, zs_aloadV2 hlw]
  refine c2_name hE (d + 2) (by omega) (nI p) 0 (fun M1 e1 f1 => ?_)
  have r23 : ∀ (M : zm_M) (k : Nat) (v : Int32), (zm_wi M 749 k v).1 23 = M.1 23 := fun M k v => zm_wi_other (by decide)
  have d1 : M1.1 23 0 = nI dd := by rw [(f1 23 (by decide)).1]; exact hd
  simp only [bX11_addsOf_0, zw_0, zw_1, zs_aloadn0, zs_aloadNn0, zg_11_35, zs_iloadn1, zs_iconst, zi_11_255, zg_11_259, zs_bipush, zs_iastore, zg_11_10, zg_11_136, zg_11_167, zs_aloadn2, zs_aloadNn2, zi_11_262, zs_ireturn, zh_0, zh_1, zh_2, zh_3, zh_4, zt_i, zt_l, zt_r, zt_n, zn_int, zn_b0, zn_b1, zb_15, zb_16, zb_17, za_18, za_19, za_20, za_21, za_22, zb_23, za_24, za_25, za_26, za_27, za_28, za_29, za_30, za_31, za_32, zb_35, za_36, za_37, za_38, za_39, za_40, zb_377, zb_378, za_379, za_380, za_381, za_382, za_383, zb_384, za_385, za_386, za_387, za_388, za_389, za_390, za_391, za_392, za_393, zb_396, za_397, za_398, za_399, za_400, za_401, zb_738, za_739, za_740, za_741, za_742, za_743, za_744, za_745, za_746, za_747, zb_748, za_749, za_750, zb_751, zb_752, za_753, za_754, za_755, za_756, zb_757, za_758, za_759, za_760, zb_761, za_763, za_764, za_765, zu_0, zu_1, zu_2, zu_3, zu_4, zu_5, zu_6, zu_7, zu_8, zu_9, zu_10, zu_11, zu_12, zu_13, zu_14, zu_15, zu_16, zu_17, zu_18, zu_19, zu_20, zu_21, zu_22, zu_23, zu_24, zu_25, zu_26, zu_27, zu_28, zu_29, zu_30, zu_90, zv_0_9, zv_1_9, zv_2_9, zv_3_9, zv_4_9, zv_5_9, zv_6_9, zv_7_9, zv_8_9, zv_0_330, zv_0_4544, zv_1_4544, zv_2_4544, zv_3_4544, zv_4_4544, zv_5_4544, zv_6_4544, zv_7_4544, zv_8_4544, zv_9_4544, zv_10_4544, zv_11_4544, zv_12_4544, zv_13_4544, zv_14_4544, zv_15_4544, zv_16_4544, zv_17_4544, zv_18_4544, zv_19_4544, zv_20_4544, zv_21_4544, zv_22_4544, zv_23_4544, zv_24_4544, zv_25_4544, zv_26_4544, zv_27_4544, zv_28_4544, zv_29_4544, zv_0_11, zv_1_11, zv_0_160, true_and, and_true, Nat.reduceAdd, r23, d1, zs_aloadV2 hlw]
  generalize hM2 : zm_wi (zm_wi (zm_wi (zm_wi M1 749 1 10) 749 0 (nI dd)) 749 7 0) 749 8 0 = M2
  have f2 : zf [749] M M2 := by rw [← hM2]; exact zf_wi (zf_wi (zf_wi (zf_wi f1 (by decide)) (by decide)) (by decide)) (by decide)
  have e2 : ∀ i, i < 9 → M2.1 749 i = zn_l (nI dd) 10 (nI p) (pr p) (nI (zt_rk b p)) (nI p) 0 0 0 i := by
    intro i hi
    have e19 : M.1 19 p = pr p := h9.2.2.2.1 p hp
    have e20 : M.1 20 p = nI (zt_rk b p) := by rw [h9.1.2 p hp, zt_rk_c h9.1.1 h9.2.2.1 p hp]
    rw [← hM2]
    rcases (show i = 0 ∨ i = 1 ∨ i = 2 ∨ i = 3 ∨ i = 4 ∨ i = 5 ∨ i = 6 ∨ i = 7 ∨ i = 8 by omega) with rfl | rfl | rfl | rfl | rfl | rfl | rfl | rfl | rfl <;> simp [zm_wi_same, e1, zn_l, e19, e20]
  have n2 : zN M2 := fun i hi => by rw [e2 i hi]; exact nmo i
  have h92 : zc_s9 n b pr M2 := zc_s9_f h9 f2 (by decide) (by decide) (by decide) (by decide)
  have hl2 : (lw = .null ∧ D = none) ∨ (lw = .ref L ∧ zl_ok L ∧ zl_law M2 L 0 D) := by
    rcases hl with h | ⟨h1, h2, h3⟩
    · exact Or.inl h
    · refine Or.inr ⟨h1, h2, zl_law_c h3 (fun j a b => (f2 _ ?_).1)⟩
      have := h2.1
      simp; omega
  refine c2_value hE d (L := L) (n := n) (w := 0) (by decide) h92.1 h92.2.1 n2 hl2 (fun x M3 hx f3 => ?_)
  simp only [bX11_addsOf_0, zw_0, zw_1, zs_aloadn0, zs_aloadNn0, zg_11_35, zs_iloadn1, zs_iconst, zi_11_255, zg_11_259, zs_bipush, zs_iastore, zg_11_10, zg_11_136, zg_11_167, zs_aloadn2, zs_aloadNn2, zi_11_262, zs_ireturn, zh_0, zh_1, zh_2, zh_3, zh_4, zt_i, zt_l, zt_r, zt_n, zn_int, zn_b0, zn_b1, zb_15, zb_16, zb_17, za_18, za_19, za_20, za_21, za_22, zb_23, za_24, za_25, za_26, za_27, za_28, za_29, za_30, za_31, za_32, zb_35, za_36, za_37, za_38, za_39, za_40, zb_377, zb_378, za_379, za_380, za_381, za_382, za_383, zb_384, za_385, za_386, za_387, za_388, za_389, za_390, za_391, za_392, za_393, zb_396, za_397, za_398, za_399, za_400, za_401, zb_738, za_739, za_740, za_741, za_742, za_743, za_744, za_745, za_746, za_747, zb_748, za_749, za_750, zb_751, zb_752, za_753, za_754, za_755, za_756, zb_757, za_758, za_759, za_760, zb_761, za_763, za_764, za_765, zu_0, zu_1, zu_2, zu_3, zu_4, zu_5, zu_6, zu_7, zu_8, zu_9, zu_10, zu_11, zu_12, zu_13, zu_14, zu_15, zu_16, zu_17, zu_18, zu_19, zu_20, zu_21, zu_22, zu_23, zu_24, zu_25, zu_26, zu_27, zu_28, zu_29, zu_30, zu_90, zv_0_9, zv_1_9, zv_2_9, zv_3_9, zv_4_9, zv_5_9, zv_6_9, zv_7_9, zv_8_9, zv_0_330, zv_0_4544, zv_1_4544, zv_2_4544, zv_3_4544, zv_4_4544, zv_5_4544, zv_6_4544, zv_7_4544, zv_8_4544, zv_9_4544, zv_10_4544, zv_11_4544, zv_12_4544, zv_13_4544, zv_14_4544, zv_15_4544, zv_16_4544, zv_17_4544, zv_18_4544, zv_19_4544, zv_20_4544, zv_21_4544, zv_22_4544, zv_23_4544, zv_24_4544, zv_25_4544, zv_26_4544, zv_27_4544, zv_28_4544, zv_29_4544, zv_0_11, zv_1_11, zv_0_160, true_and, and_true, Nat.reduceAdd]
  have hx2 : x.toInt = zo_ad n b pr D (nI dd) p := by
    rw [hx]
    unfold zo_ad
    rw [zq_rk_e h92.1.1 h92.2.2.1]
    exact zq_said_c hD (fun i hi => by rw [e2 i (by have : zn_k 0 = 9 := rfl; omega)])
  have hin := zo_ad_in n b pr D (nI dd) p
  rw [zx_toInt hx2 (by omega) (by omega)]
  exact q M3 (fun i hi => by rw [(f3 749 (by decide)).1]; exact n2 i hi) (zf_trans (zf_sub f2 (by simp)) (zf_sub f3 (by simp)))
theorem zt_val {v : Value} {st : List Value} : (some v).toList ++ st = v :: st := rfl
/-- of an officer -/
def zo_qo (n : Nat) (b pr cs : Nat → Int32) (D : Option zD) (S : zW) (p : Nat) (w : Int32) : Int32 :=
  if w = 0 then b p else if w = 1 then pr p else if w = 2 then nI (zt_rk b p) else if w = 3 then zWo S p else if w = 4 then zo_ai n b pr D (zWd S) p else if w = 5 then nI (zc_n (zc_desk (zWa S 2) (zWa S 4) (nI p)) (zWn S)) else if w = 6 then cs p else if w = 7 then nI (zb_set (zt_ae b p) n) else -2
theorem zb_set_e {n : Nat} {b c : Nat → Int32} (h : zt_wf n b) (e : ∀ i, i < n → b i = c i) {p : Nat} (hp : p < n) : zb_set (zt_ae b p) n = zb_set (zt_ae c p) n := zb_set_c n (fun i hi => zt_ae_c h e hp hi)
theorem c11_of {E : zm_E} (hE : zm_ok E.2.2.1 E.2.2.2.2) (d : Nat) {n tn : Nat} {b pr cs : Nat → Int32} {T : Nat → Option zD} (o w : Int32) {M : zm_M} {S : zW} (h9 : zc_s9 n b pr M) (hcs : ∀ i, i < n → M.1 21 i = cs i) (hN : zN M) (htn : tn ≤ 4) (h16 : M.1 16 6 = nI tn) (hT : zc_T M (zr_law M) T) (hTo : ∀ w, w ≤ 2 → zDo w (T w)) (hi : zw_i n b S) (hS : zw_c M 23 S) {Q : Option Value → zm_M → Prop} (q1 : zo_is n o = false → Q (some (.int (-2))) M) (q2 : ∀ p M', p < n → o = nI p → zN M' → zf [748, 749, 750] M M' → Q (some (.int (zo_qo n b pr cs (T 0) S p w))) M') : zm_R E (d + 5) mX11_of [.ref 15, .int o, .int w] M Q := by
  refine zX11_of hE rfl (fun G h0 h19 h68 h75 h82 h89 h102 h115 h127 h134 h140 => ?_)
  show G 0 [some (.ref 15), some (.int o), some (.int w), none] [] M
  have hbw : zt_wf n b := zt_wf_c h9.1.1 h9.2.2.1
  have hn := hbw.1
  refine h0 _ _ _ ?_
  simp only [bX11_of_0, zw_0, zw_1, zs_aloadn0, zs_aloadNn0, zg_11_10, zg_11_28, zs_astoren3, zs_astoreNn3, zs_aloadn3, zs_aloadNn3, zs_iloadn1, zi_11_82, zs_ifne, zs_bipush, zs_ireturn, zc_none, zc_int, zc_ref, zc_null, zc_long, zh_0, zh_1, zh_2, zh_3, zh_4, zt_i, zt_l, zt_r, zt_n, zn_int, zn_b0, zn_b1, zb_15, zb_16, zb_17, za_18, za_19, za_20, za_21, za_22, zb_23, za_24, za_25, za_26, za_27, za_28, za_29, za_30, za_31, za_32, zb_35, za_36, za_37, za_38, za_39, za_40, zb_377, zb_378, za_379, za_380, za_381, za_382, za_383, zb_384, za_385, za_386, za_387, za_388, za_389, za_390, za_391, za_392, za_393, zb_396, za_397, za_398, za_399, za_400, za_401, zb_738, za_739, za_740, za_741, za_742, za_743, za_744, za_745, za_746, za_747, zb_748, za_749, za_750, zb_751, zb_752, za_753, za_754, za_755, za_756, zb_757, za_758, za_759, za_760, zb_761, za_763, za_764, za_765, true_and, and_true, Nat.reduceAdd]
  refine zm_R_eq (c7_has hE (d + 3) (n := n) (by omega) o h9.2.1) ?_
  simp only [bX11_of_0, zw_0, zw_1, zs_aloadn0, zs_aloadNn0, zg_11_10, zg_11_28, zs_astoren3, zs_astoreNn3, zs_aloadn3, zs_aloadNn3, zs_iloadn1, zi_11_82, zs_ifne, zs_bipush, zs_ireturn, zc_none, zc_int, zc_ref, zc_null, zc_long, zh_0, zh_1, zh_2, zh_3, zh_4, zt_i, zt_l, zt_r, zt_n, zn_int, zn_b0, zn_b1, zb_15, zb_16, zb_17, za_18, za_19, za_20, za_21, za_22, zb_23, za_24, za_25, za_26, za_27, za_28, za_29, za_30, za_31, za_32, zb_35, za_36, za_37, za_38, za_39, za_40, zb_377, zb_378, za_379, za_380, za_381, za_382, za_383, zb_384, za_385, za_386, za_387, za_388, za_389, za_390, za_391, za_392, za_393, zb_396, za_397, za_398, za_399, za_400, za_401, zb_738, za_739, za_740, za_741, za_742, za_743, za_744, za_745, za_746, za_747, zb_748, za_749, za_750, zb_751, zb_752, za_753, za_754, za_755, za_756, zb_757, za_758, za_759, za_760, zb_761, za_763, za_764, za_765, true_and, and_true, Nat.reduceAdd, zi_b1, zi_b0]
  refine ⟨fun h => ?_, fun h => q1 h⟩
  have h : zo_is n o = true := by simpa using h
  obtain ⟨p, hp, rfl⟩ := zo_of h (by omega)
  have q2 := fun M' => q2 p M' hp rfl
  have v1 : vp_in (nI p) 10 := vp_in_nI (by omega) (by decide)
  have v2 : (nI p).toNatClampNeg = p := nI_clamp (by omega)
  have m18 : M.1 18 p = b p := h9.2.2.1 p hp
  have m19 : M.1 19 p = pr p := h9.2.2.2.1 p hp
  have m20 : M.1 20 p = nI (zt_rk b p) := by rw [h9.1.2 p hp, zt_rk_c h9.1.1 h9.2.2.1 p hp]
  have m21 : M.1 21 p = cs p := hcs p hp
  have m31 : M.1 31 p = zWo S p := hS.2.2.2.2.2.1 p (by omega)
  have w0 : ∀ k, k ≠ w → ¬ w = k := fun k h z => h z.symm
  refine h19 _ _ _ ?_
  simp only [bX11_of_19, zw_0, zw_1, zs_iloadn2, zs_tsw, zm_sw, zb_15, zb_16, zb_17, za_18, za_19, za_20, za_21, za_22, zb_23, za_24, za_25, za_26, za_27, za_28, za_29, za_30, za_31, za_32, zb_35, za_36, za_37, za_38, za_39, za_40, zb_377, zb_378, za_379, za_380, za_381, za_382, za_383, zb_384, za_385, za_386, za_387, za_388, za_389, za_390, za_391, za_392, za_393, zb_396, za_397, za_398, za_399, za_400, za_401, zb_738, za_739, za_740, za_741, za_742, za_743, za_744, za_745, za_746, za_747, zb_748, za_749, za_750, zb_751, zb_752, za_753, za_754, za_755, za_756, zb_757, za_758, za_759, za_760, zb_761, za_763, za_764, za_765, true_and, and_true, Nat.reduceAdd]
  refine ⟨fun h => ?_, fun n0 => ⟨fun h => ?_, fun n1 => ⟨fun h => ?_, fun n2 => ⟨fun h => ?_, fun n3 => ⟨fun h => ?_, fun n4 => ⟨fun h => ?_, fun n5 => ⟨fun h => ?_, fun n6 => ⟨fun h => ?_, fun n7 => ?_⟩⟩⟩⟩⟩⟩⟩⟩
  · refine h68 _ _ _ ?_
    simp only [bX11_of_68, zw_0, zw_1, zs_aloadn3, zs_aloadNn3, zg_11_234, zs_iloadn1, zs_iaload, zs_ireturn, zn_int, zn_b0, zn_b1, zb_15, zb_16, zb_17, za_18, za_19, za_20, za_21, za_22, zb_23, za_24, za_25, za_26, za_27, za_28, za_29, za_30, za_31, za_32, zb_35, za_36, za_37, za_38, za_39, za_40, zb_377, zb_378, za_379, za_380, za_381, za_382, za_383, zb_384, za_385, za_386, za_387, za_388, za_389, za_390, za_391, za_392, za_393, zb_396, za_397, za_398, za_399, za_400, za_401, zb_738, za_739, za_740, za_741, za_742, za_743, za_744, za_745, za_746, za_747, zb_748, za_749, za_750, zb_751, zb_752, za_753, za_754, za_755, za_756, zb_757, za_758, za_759, za_760, zb_761, za_763, za_764, za_765, zu_0, zu_1, zu_2, zu_3, zu_4, zu_5, zu_6, zu_7, zu_8, zu_9, zu_10, zu_11, zu_12, zu_13, zu_14, zu_15, zu_16, zu_17, zu_18, zu_19, zu_20, zu_21, zu_22, zu_23, zu_24, zu_25, zu_26, zu_27, zu_28, zu_29, zu_30, zu_90, zv_0_9, zv_1_9, zv_2_9, zv_3_9, zv_4_9, zv_5_9, zv_6_9, zv_7_9, zv_8_9, zv_0_330, zv_0_4544, zv_1_4544, zv_2_4544, zv_3_4544, zv_4_4544, zv_5_4544, zv_6_4544, zv_7_4544, zv_8_4544, zv_9_4544, zv_10_4544, zv_11_4544, zv_12_4544, zv_13_4544, zv_14_4544, zv_15_4544, zv_16_4544, zv_17_4544, zv_18_4544, zv_19_4544, zv_20_4544, zv_21_4544, zv_22_4544, zv_23_4544, zv_24_4544, zv_25_4544, zv_26_4544, zv_27_4544, zv_28_4544, zv_29_4544, zv_0_11, zv_1_11, zv_0_160, true_and, and_true, Nat.reduceAdd, v1, v2, m18]
    have := q2 M hN zf_refl
    rw [show zo_qo n b pr cs (T 0) S p w = b p by unfold zo_qo; rw [if_pos h]] at this
    exact this
  · refine h75 _ _ _ ?_
    simp only [bX11_of_75, zw_0, zw_1, zs_aloadn3, zs_aloadNn3, zg_11_237, zs_iloadn1, zs_iaload, zs_ireturn, zn_int, zn_b0, zn_b1, zb_15, zb_16, zb_17, za_18, za_19, za_20, za_21, za_22, zb_23, za_24, za_25, za_26, za_27, za_28, za_29, za_30, za_31, za_32, zb_35, za_36, za_37, za_38, za_39, za_40, zb_377, zb_378, za_379, za_380, za_381, za_382, za_383, zb_384, za_385, za_386, za_387, za_388, za_389, za_390, za_391, za_392, za_393, zb_396, za_397, za_398, za_399, za_400, za_401, zb_738, za_739, za_740, za_741, za_742, za_743, za_744, za_745, za_746, za_747, zb_748, za_749, za_750, zb_751, zb_752, za_753, za_754, za_755, za_756, zb_757, za_758, za_759, za_760, zb_761, za_763, za_764, za_765, zu_0, zu_1, zu_2, zu_3, zu_4, zu_5, zu_6, zu_7, zu_8, zu_9, zu_10, zu_11, zu_12, zu_13, zu_14, zu_15, zu_16, zu_17, zu_18, zu_19, zu_20, zu_21, zu_22, zu_23, zu_24, zu_25, zu_26, zu_27, zu_28, zu_29, zu_30, zu_90, zv_0_9, zv_1_9, zv_2_9, zv_3_9, zv_4_9, zv_5_9, zv_6_9, zv_7_9, zv_8_9, zv_0_330, zv_0_4544, zv_1_4544, zv_2_4544, zv_3_4544, zv_4_4544, zv_5_4544, zv_6_4544, zv_7_4544, zv_8_4544, zv_9_4544, zv_10_4544, zv_11_4544, zv_12_4544, zv_13_4544, zv_14_4544, zv_15_4544, zv_16_4544, zv_17_4544, zv_18_4544, zv_19_4544, zv_20_4544, zv_21_4544, zv_22_4544, zv_23_4544, zv_24_4544, zv_25_4544, zv_26_4544, zv_27_4544, zv_28_4544, zv_29_4544, zv_0_11, zv_1_11, zv_0_160, true_and, and_true, Nat.reduceAdd, v1, v2, m19]
    have := q2 M hN zf_refl
    rw [show zo_qo n b pr cs (T 0) S p w = pr p by unfold zo_qo; rw [if_neg n0, if_pos h]] at this
    exact this
  · refine h82 _ _ _ ?_
    simp only [bX11_of_82, zw_0, zw_1, zs_aloadn3, zs_aloadNn3, zg_11_240, zs_iloadn1, zs_iaload, zs_ireturn, zn_int, zn_b0, zn_b1, zb_15, zb_16, zb_17, za_18, za_19, za_20, za_21, za_22, zb_23, za_24, za_25, za_26, za_27, za_28, za_29, za_30, za_31, za_32, zb_35, za_36, za_37, za_38, za_39, za_40, zb_377, zb_378, za_379, za_380, za_381, za_382, za_383, zb_384, za_385, za_386, za_387, za_388, za_389, za_390, za_391, za_392, za_393, zb_396, za_397, za_398, za_399, za_400, za_401, zb_738, za_739, za_740, za_741, za_742, za_743, za_744, za_745, za_746, za_747, zb_748, za_749, za_750, zb_751, zb_752, za_753, za_754, za_755, za_756, zb_757, za_758, za_759, za_760, zb_761, za_763, za_764, za_765, zu_0, zu_1, zu_2, zu_3, zu_4, zu_5, zu_6, zu_7, zu_8, zu_9, zu_10, zu_11, zu_12, zu_13, zu_14, zu_15, zu_16, zu_17, zu_18, zu_19, zu_20, zu_21, zu_22, zu_23, zu_24, zu_25, zu_26, zu_27, zu_28, zu_29, zu_30, zu_90, zv_0_9, zv_1_9, zv_2_9, zv_3_9, zv_4_9, zv_5_9, zv_6_9, zv_7_9, zv_8_9, zv_0_330, zv_0_4544, zv_1_4544, zv_2_4544, zv_3_4544, zv_4_4544, zv_5_4544, zv_6_4544, zv_7_4544, zv_8_4544, zv_9_4544, zv_10_4544, zv_11_4544, zv_12_4544, zv_13_4544, zv_14_4544, zv_15_4544, zv_16_4544, zv_17_4544, zv_18_4544, zv_19_4544, zv_20_4544, zv_21_4544, zv_22_4544, zv_23_4544, zv_24_4544, zv_25_4544, zv_26_4544, zv_27_4544, zv_28_4544, zv_29_4544, zv_0_11, zv_1_11, zv_0_160, true_and, and_true, Nat.reduceAdd, v1, v2, m20]
    have := q2 M hN zf_refl
    rw [show zo_qo n b pr cs (T 0) S p w = nI (zt_rk b p) by unfold zo_qo; rw [if_neg n0, if_neg n1, if_pos h]] at this
    exact this
  · refine h89 _ _ _ ?_
    simp only [bX11_of_89, zw_0, zw_1, zs_aloadn0, zs_aloadNn0, zg_11_10, zg_11_136, zg_11_243, zs_iloadn1, zs_iaload, zs_ireturn, zn_int, zn_b0, zn_b1, zb_15, zb_16, zb_17, za_18, za_19, za_20, za_21, za_22, zb_23, za_24, za_25, za_26, za_27, za_28, za_29, za_30, za_31, za_32, zb_35, za_36, za_37, za_38, za_39, za_40, zb_377, zb_378, za_379, za_380, za_381, za_382, za_383, zb_384, za_385, za_386, za_387, za_388, za_389, za_390, za_391, za_392, za_393, zb_396, za_397, za_398, za_399, za_400, za_401, zb_738, za_739, za_740, za_741, za_742, za_743, za_744, za_745, za_746, za_747, zb_748, za_749, za_750, zb_751, zb_752, za_753, za_754, za_755, za_756, zb_757, za_758, za_759, za_760, zb_761, za_763, za_764, za_765, zu_0, zu_1, zu_2, zu_3, zu_4, zu_5, zu_6, zu_7, zu_8, zu_9, zu_10, zu_11, zu_12, zu_13, zu_14, zu_15, zu_16, zu_17, zu_18, zu_19, zu_20, zu_21, zu_22, zu_23, zu_24, zu_25, zu_26, zu_27, zu_28, zu_29, zu_30, zu_90, zv_0_9, zv_1_9, zv_2_9, zv_3_9, zv_4_9, zv_5_9, zv_6_9, zv_7_9, zv_8_9, zv_0_330, zv_0_4544, zv_1_4544, zv_2_4544, zv_3_4544, zv_4_4544, zv_5_4544, zv_6_4544, zv_7_4544, zv_8_4544, zv_9_4544, zv_10_4544, zv_11_4544, zv_12_4544, zv_13_4544, zv_14_4544, zv_15_4544, zv_16_4544, zv_17_4544, zv_18_4544, zv_19_4544, zv_20_4544, zv_21_4544, zv_22_4544, zv_23_4544, zv_24_4544, zv_25_4544, zv_26_4544, zv_27_4544, zv_28_4544, zv_29_4544, zv_0_11, zv_1_11, zv_0_160, true_and, and_true, Nat.reduceAdd, v1, v2, m31]
    have := q2 M hN zf_refl
    rw [show zo_qo n b pr cs (T 0) S p w = zWo S p by unfold zo_qo; rw [if_neg n0, if_neg n1, if_neg n2, if_pos h]] at this
    exact this
  · refine h102 _ _ _ ?_
    simp only [bX11_of_102, zw_0, zw_1, zs_aloadn0, zs_aloadNn0, zs_iloadn1, zg_11_10, zi_11_174, zi_11_245, zs_ireturn, zh_0, zh_1, zh_2, zh_3, zh_4, zt_i, zt_l, zt_r, zt_n, zn_int, zn_b0, zn_b1, zb_15, zb_16, zb_17, za_18, za_19, za_20, za_21, za_22, zb_23, za_24, za_25, za_26, za_27, za_28, za_29, za_30, za_31, za_32, zb_35, za_36, za_37, za_38, za_39, za_40, zb_377, zb_378, za_379, za_380, za_381, za_382, za_383, zb_384, za_385, za_386, za_387, za_388, za_389, za_390, za_391, za_392, za_393, zb_396, za_397, za_398, za_399, za_400, za_401, zb_738, za_739, za_740, za_741, za_742, za_743, za_744, za_745, za_746, za_747, zb_748, za_749, za_750, zb_751, zb_752, za_753, za_754, za_755, za_756, zb_757, za_758, za_759, za_760, zb_761, za_763, za_764, za_765, true_and, and_true, Nat.reduceAdd]
    refine zm_R_eq (c6_law hE (d + 2) htn h16) ?_
    obtain ⟨dd, hdd, ed⟩ := hi.2.1
    obtain ⟨L, hL⟩ := zc_T_w hT 0 (by decide)
    simp only [bX11_of_102, zw_0, zw_1, zs_aloadn0, zs_aloadNn0, zs_iloadn1, zg_11_10, zi_11_174, zi_11_245, zs_ireturn, zh_0, zh_1, zh_2, zh_3, zh_4, zt_i, zt_l, zt_r, zt_n, zn_int, zn_b0, zn_b1, zb_15, zb_16, zb_17, za_18, za_19, za_20, za_21, za_22, zb_23, za_24, za_25, za_26, za_27, za_28, za_29, za_30, za_31, za_32, zb_35, za_36, za_37, za_38, za_39, za_40, zb_377, zb_378, za_379, za_380, za_381, za_382, za_383, zb_384, za_385, za_386, za_387, za_388, za_389, za_390, za_391, za_392, za_393, zb_396, za_397, za_398, za_399, za_400, za_401, zb_738, za_739, za_740, za_741, za_742, za_743, za_744, za_745, za_746, za_747, zb_748, za_749, za_750, zb_751, zb_752, za_753, za_754, za_755, za_756, zb_757, za_758, za_759, za_760, zb_761, za_763, za_764, za_765, true_and, and_true, Nat.reduceAdd, zt_val]
    refine c11_addsOf hE d (L := L) h9 hp hdd (by rw [← ed]; exact hS.1) hL (hTo 0 (by decide)) (fun M1 n1 f1 => ?_)
    simp only [bX11_of_102, zw_0, zw_1, zs_aloadn0, zs_aloadNn0, zs_iloadn1, zg_11_10, zi_11_174, zi_11_245, zs_ireturn, zh_0, zh_1, zh_2, zh_3, zh_4, zt_i, zt_l, zt_r, zt_n, zn_int, zn_b0, zn_b1, zb_15, zb_16, zb_17, za_18, za_19, za_20, za_21, za_22, zb_23, za_24, za_25, za_26, za_27, za_28, za_29, za_30, za_31, za_32, zb_35, za_36, za_37, za_38, za_39, za_40, zb_377, zb_378, za_379, za_380, za_381, za_382, za_383, zb_384, za_385, za_386, za_387, za_388, za_389, za_390, za_391, za_392, za_393, zb_396, za_397, za_398, za_399, za_400, za_401, zb_738, za_739, za_740, za_741, za_742, za_743, za_744, za_745, za_746, za_747, zb_748, za_749, za_750, zb_751, zb_752, za_753, za_754, za_755, za_756, zb_757, za_758, za_759, za_760, zb_761, za_763, za_764, za_765, true_and, and_true, Nat.reduceAdd]
    have := q2 M1 n1 f1
    rw [show zo_qo n b pr cs (T 0) S p w = zo_ai n b pr (T 0) (zWd S) p by unfold zo_qo; rw [if_neg n0, if_neg (by assumption), if_neg n2, if_neg n3, if_pos h], ed] at this
    exact this
  · refine h115 _ _ _ ?_
    simp only [bX11_of_115, zw_0, zw_1, zs_aloadn0, zs_aloadNn0, zg_11_10, zg_11_136, zs_iloadn1, zi_11_249, zs_ireturn, zh_0, zh_1, zh_2, zh_3, zh_4, zt_i, zt_l, zt_r, zt_n, zn_int, zn_b0, zn_b1, zb_15, zb_16, zb_17, za_18, za_19, za_20, za_21, za_22, zb_23, za_24, za_25, za_26, za_27, za_28, za_29, za_30, za_31, za_32, zb_35, za_36, za_37, za_38, za_39, za_40, zb_377, zb_378, za_379, za_380, za_381, za_382, za_383, zb_384, za_385, za_386, za_387, za_388, za_389, za_390, za_391, za_392, za_393, zb_396, za_397, za_398, za_399, za_400, za_401, zb_738, za_739, za_740, za_741, za_742, za_743, za_744, za_745, za_746, za_747, zb_748, za_749, za_750, zb_751, zb_752, za_753, za_754, za_755, za_756, zb_757, za_758, za_759, za_760, zb_761, za_763, za_764, za_765, true_and, and_true, Nat.reduceAdd]
    refine zm_R_eq (c10_desk hE (d + 3) (Or.inl rfl) (m := zWn S) hi.1.1 (nI p) hS.2.2.1) ?_
    simp only [bX11_of_115, zw_0, zw_1, zs_aloadn0, zs_aloadNn0, zg_11_10, zg_11_136, zs_iloadn1, zi_11_249, zs_ireturn, zh_0, zh_1, zh_2, zh_3, zh_4, zt_i, zt_l, zt_r, zt_n, zn_int, zn_b0, zn_b1, zb_15, zb_16, zb_17, za_18, za_19, za_20, za_21, za_22, zb_23, za_24, za_25, za_26, za_27, za_28, za_29, za_30, za_31, za_32, zb_35, za_36, za_37, za_38, za_39, za_40, zb_377, zb_378, za_379, za_380, za_381, za_382, za_383, zb_384, za_385, za_386, za_387, za_388, za_389, za_390, za_391, za_392, za_393, zb_396, za_397, za_398, za_399, za_400, za_401, zb_738, za_739, za_740, za_741, za_742, za_743, za_744, za_745, za_746, za_747, zb_748, za_749, za_750, zb_751, zb_752, za_753, za_754, za_755, za_756, zb_757, za_758, za_759, za_760, zb_761, za_763, za_764, za_765, true_and, and_true, Nat.reduceAdd]
    have := q2 M hN zf_refl
    rw [show zo_qo n b pr cs (T 0) S p w = nI (zc_n (zc_desk (zWa S 2) (zWa S 4) (nI p)) (zWn S)) by unfold zo_qo; rw [if_neg n0, if_neg n1, if_neg n2, if_neg n3, if_neg n4, if_pos h]] at this
    have e : zc_n (zc_desk (M.1 (23 + 3)) (M.1 (23 + 5)) (nI p)) (zWn S) = zc_n (zc_desk (zWa S 2) (zWa S 4) (nI p)) (zWn S) := zc_n_c _ (fun j hj => by
      unfold zc_desk
      rw [show M.1 (23 + 3) j = zWa S 2 j from hS.2.2.2.2.1 2 j (by decide) hj, show M.1 (23 + 5) j = zWa S 4 j from hS.2.2.2.2.1 4 j (by decide) hj])
    rw [← e] at this
    exact this
  · refine h127 _ _ _ ?_
    simp only [bX11_of_127, zw_0, zw_1, zs_aloadn3, zs_aloadNn3, zg_11_98, zs_iloadn1, zs_iaload, zs_ireturn, zn_int, zn_b0, zn_b1, zb_15, zb_16, zb_17, za_18, za_19, za_20, za_21, za_22, zb_23, za_24, za_25, za_26, za_27, za_28, za_29, za_30, za_31, za_32, zb_35, za_36, za_37, za_38, za_39, za_40, zb_377, zb_378, za_379, za_380, za_381, za_382, za_383, zb_384, za_385, za_386, za_387, za_388, za_389, za_390, za_391, za_392, za_393, zb_396, za_397, za_398, za_399, za_400, za_401, zb_738, za_739, za_740, za_741, za_742, za_743, za_744, za_745, za_746, za_747, zb_748, za_749, za_750, zb_751, zb_752, za_753, za_754, za_755, za_756, zb_757, za_758, za_759, za_760, zb_761, za_763, za_764, za_765, zu_0, zu_1, zu_2, zu_3, zu_4, zu_5, zu_6, zu_7, zu_8, zu_9, zu_10, zu_11, zu_12, zu_13, zu_14, zu_15, zu_16, zu_17, zu_18, zu_19, zu_20, zu_21, zu_22, zu_23, zu_24, zu_25, zu_26, zu_27, zu_28, zu_29, zu_30, zu_90, zv_0_9, zv_1_9, zv_2_9, zv_3_9, zv_4_9, zv_5_9, zv_6_9, zv_7_9, zv_8_9, zv_0_330, zv_0_4544, zv_1_4544, zv_2_4544, zv_3_4544, zv_4_4544, zv_5_4544, zv_6_4544, zv_7_4544, zv_8_4544, zv_9_4544, zv_10_4544, zv_11_4544, zv_12_4544, zv_13_4544, zv_14_4544, zv_15_4544, zv_16_4544, zv_17_4544, zv_18_4544, zv_19_4544, zv_20_4544, zv_21_4544, zv_22_4544, zv_23_4544, zv_24_4544, zv_25_4544, zv_26_4544, zv_27_4544, zv_28_4544, zv_29_4544, zv_0_11, zv_1_11, zv_0_160, true_and, and_true, Nat.reduceAdd, v1, v2, m21]
    have := q2 M hN zf_refl
    rw [show zo_qo n b pr cs (T 0) S p w = cs p by unfold zo_qo; rw [if_neg n0, if_neg n1, if_neg n2, if_neg n3, if_neg n4, if_neg n5, if_pos h]] at this
    exact this
  · refine h134 _ _ _ ?_
    simp only [bX11_of_134, zw_0, zw_1, zs_aloadn3, zs_aloadNn3, zs_iloadn1, zi_11_252, zs_ireturn, zh_0, zh_1, zh_2, zh_3, zh_4, zt_i, zt_l, zt_r, zt_n, zn_int, zn_b0, zn_b1, zb_15, zb_16, zb_17, za_18, za_19, za_20, za_21, za_22, zb_23, za_24, za_25, za_26, za_27, za_28, za_29, za_30, za_31, za_32, zb_35, za_36, za_37, za_38, za_39, za_40, zb_377, zb_378, za_379, za_380, za_381, za_382, za_383, zb_384, za_385, za_386, za_387, za_388, za_389, za_390, za_391, za_392, za_393, zb_396, za_397, za_398, za_399, za_400, za_401, zb_738, za_739, za_740, za_741, za_742, za_743, za_744, za_745, za_746, za_747, zb_748, za_749, za_750, zb_751, zb_752, za_753, za_754, za_755, za_756, zb_757, za_758, za_759, za_760, zb_761, za_763, za_764, za_765, true_and, and_true, Nat.reduceAdd]
    refine zm_R_eq (c7_bitsBelow hE (d + 2) h9.1.1 h9.2.1 hp) ?_
    simp only [bX11_of_134, zw_0, zw_1, zs_aloadn3, zs_aloadNn3, zs_iloadn1, zi_11_252, zs_ireturn, zh_0, zh_1, zh_2, zh_3, zh_4, zt_i, zt_l, zt_r, zt_n, zn_int, zn_b0, zn_b1, zb_15, zb_16, zb_17, za_18, za_19, za_20, za_21, za_22, zb_23, za_24, za_25, za_26, za_27, za_28, za_29, za_30, za_31, za_32, zb_35, za_36, za_37, za_38, za_39, za_40, zb_377, zb_378, za_379, za_380, za_381, za_382, za_383, zb_384, za_385, za_386, za_387, za_388, za_389, za_390, za_391, za_392, za_393, zb_396, za_397, za_398, za_399, za_400, za_401, zb_738, za_739, za_740, za_741, za_742, za_743, za_744, za_745, za_746, za_747, zb_748, za_749, za_750, zb_751, zb_752, za_753, za_754, za_755, za_756, zb_757, za_758, za_759, za_760, zb_761, za_763, za_764, za_765, true_and, and_true, Nat.reduceAdd]
    have := q2 M hN zf_refl
    rw [show zo_qo n b pr cs (T 0) S p w = nI (zb_set (zt_ae b p) n) by unfold zo_qo; rw [if_neg n0, if_neg n1, if_neg n2, if_neg n3, if_neg n4, if_neg n5, if_neg n6, if_pos h], ← zb_set_e h9.1.1 h9.2.2.1 hp] at this
    exact this
  · refine h140 _ _ _ ?_
    simp only [bX11_of_140, zw_0, zw_1, zs_bipush, zs_ireturn, zn_int, zn_b0, zn_b1, zb_15, zb_16, zb_17, za_18, za_19, za_20, za_21, za_22, zb_23, za_24, za_25, za_26, za_27, za_28, za_29, za_30, za_31, za_32, zb_35, za_36, za_37, za_38, za_39, za_40, zb_377, zb_378, za_379, za_380, za_381, za_382, za_383, zb_384, za_385, za_386, za_387, za_388, za_389, za_390, za_391, za_392, za_393, zb_396, za_397, za_398, za_399, za_400, za_401, zb_738, za_739, za_740, za_741, za_742, za_743, za_744, za_745, za_746, za_747, zb_748, za_749, za_750, zb_751, zb_752, za_753, za_754, za_755, za_756, zb_757, za_758, za_759, za_760, zb_761, za_763, za_764, za_765, true_and, and_true, Nat.reduceAdd]
    have := q2 M hN zf_refl
    rw [show zo_qo n b pr cs (T 0) S p w = -2 by unfold zo_qo; rw [if_neg n0, if_neg n1, if_neg n2, if_neg n3, if_neg n4, if_neg n5, if_neg n6, if_neg n7]] at this
    exact this
/-- the texts by whose adds all are so -/
def zo_ex (n : Nat) (b pr : Nat → Int32) (D : Option zD) (dy : Int32) (ao : Nat → Nat) (ab : Nat → Int32) : Nat → Bool
  | 0 => true
  | k + 1 => zo_ex n b pr D dy ao ab k && decide (zo_ai n b pr D dy (ao k) = ab k)
theorem zo_ex_no {n : Nat} {b pr : Nat → Int32} {D : Option zD} {dy : Int32} {ao : Nat → Nat} {ab : Nat → Int32} {i : Nat} (h : ¬ zo_ai n b pr D dy (ao i) = ab i) : ∀ m, i < m → zo_ex n b pr D dy ao ab m = false := by
  intro m
  induction m with
  | zero => intro h; omega
  | succ m ih =>
    intro hm
    simp only [zo_ex]
    by_cases c : i = m
    · subst c; simp [h]
    · rw [ih (by omega)]; rfl
theorem c11_explainsAdded {E : zm_E} (hE : zm_ok E.2.2.1 E.2.2.2.2) (d : Nat) {n dd L m : Nat} {b pr : Nat → Int32} {D : Option zD} {M : zm_M} {ao : Nat → Nat} {ab : Nat → Int32} (h9 : zc_s9 n b pr M) (hN : zN M) (hdd : dd ≤ 9999) (hd : M.1 23 0 = nI dd) (hL : zl_ok L) (hl : zl_law M L 0 D) (hD : zDo 0 D) (hm : m ≤ 8) (h10 : M.1 16 10 = nI m) (ho : ∀ i, i < m → M.1 39 i = nI (ao i) ∧ ao i < n ∧ M.1 40 i = ab i) {Q : Option Value → zm_M → Prop} (q : ∀ M', zN M' → zf [748, 749, 750] M M' → Q (some (.int (zi_b (zo_ex n b pr D (nI dd) ao ab m)))) M') : zm_R E (d + 5) mX11_explainsAdded [.ref 15, .ref L] M Q := by
  refine zX11_explainsAdded hE rfl (fun G h0 h2 h41 h47 => ?_)
  show G 0 [some (.ref 15), some (.ref L), none] [] M
  have hL1 := hL.1
  have loop : ∀ (f k : Nat) (M1 : zm_M), k + f = m → zN M1 → zf [748, 749, 750] M M1 → zo_ex n b pr D (nI dd) ao ab k = true → G 2 [some (.ref 15), some (.ref L), some (.int (nI k))] [] M1 := by
    intro f
    induction f with
    | zero =>
      intro k M1 hk hN1 f1 hex
      obtain rfl : k = m := by omega
      have m10 : M1.1 16 10 = nI k := by rw [(f1 16 (by decide)).1]; exact h10
      refine h2 _ _ _ ?_
      simp only [bX11_explainsAdded_2, zw_0, zw_1, zs_iloadn2, zs_aloadn0, zs_aloadNn0, zg_11_10, zg_11_364, zs_icge, zg_11_367, zs_iaload, zs_aloadn1, zs_aloadNn1, zi_11_245, zg_11_370, zs_iceq, zs_iconst, zs_ireturn, zh_0, zh_1, zh_2, zh_3, zh_4, zt_i, zt_l, zt_r, zt_n, zn_int, zn_b0, zn_b1, zb_15, zb_16, zb_17, za_18, za_19, za_20, za_21, za_22, zb_23, za_24, za_25, za_26, za_27, za_28, za_29, za_30, za_31, za_32, zb_35, za_36, za_37, za_38, za_39, za_40, zb_377, zb_378, za_379, za_380, za_381, za_382, za_383, zb_384, za_385, za_386, za_387, za_388, za_389, za_390, za_391, za_392, za_393, zb_396, za_397, za_398, za_399, za_400, za_401, zb_738, za_739, za_740, za_741, za_742, za_743, za_744, za_745, za_746, za_747, zb_748, za_749, za_750, zb_751, zb_752, za_753, za_754, za_755, za_756, zb_757, za_758, za_759, za_760, zb_761, za_763, za_764, za_765, zu_0, zu_1, zu_2, zu_3, zu_4, zu_5, zu_6, zu_7, zu_8, zu_9, zu_10, zu_11, zu_12, zu_13, zu_14, zu_15, zu_16, zu_17, zu_18, zu_19, zu_20, zu_21, zu_22, zu_23, zu_24, zu_25, zu_26, zu_27, zu_28, zu_29, zu_30, zu_90, zv_0_9, zv_1_9, zv_2_9, zv_3_9, zv_4_9, zv_5_9, zv_6_9, zv_7_9, zv_8_9, zv_0_330, zv_0_4544, zv_1_4544, zv_2_4544, zv_3_4544, zv_4_4544, zv_5_4544, zv_6_4544, zv_7_4544, zv_8_4544, zv_9_4544, zv_10_4544, zv_11_4544, zv_12_4544, zv_13_4544, zv_14_4544, zv_15_4544, zv_16_4544, zv_17_4544, zv_18_4544, zv_19_4544, zv_20_4544, zv_21_4544, zv_22_4544, zv_23_4544, zv_24_4544, zv_25_4544, zv_26_4544, zv_27_4544, zv_28_4544, zv_29_4544, zv_0_11, zv_1_11, zv_0_160, true_and, and_true, Nat.reduceAdd, m10]
      refine ⟨fun _ => ?_, fun h => absurd (nI_le (Nat.le_refl _) (by omega)) h⟩
      refine h47 _ _ _ ?_
      simp only [bX11_explainsAdded_47, zw_0, zw_1, zs_iconst, zs_ireturn, zn_int, zn_b0, zn_b1, zb_15, zb_16, zb_17, za_18, za_19, za_20, za_21, za_22, zb_23, za_24, za_25, za_26, za_27, za_28, za_29, za_30, za_31, za_32, zb_35, za_36, za_37, za_38, za_39, za_40, zb_377, zb_378, za_379, za_380, za_381, za_382, za_383, zb_384, za_385, za_386, za_387, za_388, za_389, za_390, za_391, za_392, za_393, zb_396, za_397, za_398, za_399, za_400, za_401, zb_738, za_739, za_740, za_741, za_742, za_743, za_744, za_745, za_746, za_747, zb_748, za_749, za_750, zb_751, zb_752, za_753, za_754, za_755, za_756, zb_757, za_758, za_759, za_760, zb_761, za_763, za_764, za_765, true_and, and_true, Nat.reduceAdd]
      have := q M1 hN1 f1
      rw [hex] at this
      exact this
    | succ f ih =>
      intro k M1 hk hN1 f1 hex
      have m10 : M1.1 16 10 = nI m := by rw [(f1 16 (by decide)).1]; exact h10
      obtain ⟨o1, o2, o3⟩ := ho k (by omega)
      have m39 : M1.1 39 k = nI (ao k) := by rw [(f1 39 (by decide)).1]; exact o1
      have v1 : vp_in (nI k) 8 := vp_in_nI (by omega) (by decide)
      have v2 : (nI k).toNatClampNeg = k := nI_clamp (by omega)
      have h91 : zc_s9 n b pr M1 := zc_s9_f h9 f1 (by decide) (by decide) (by decide) (by decide)
      refine h2 _ _ _ ?_
      simp only [bX11_explainsAdded_2, zw_0, zw_1, zs_iloadn2, zs_aloadn0, zs_aloadNn0, zg_11_10, zg_11_364, zs_icge, zg_11_367, zs_iaload, zs_aloadn1, zs_aloadNn1, zi_11_245, zg_11_370, zs_iceq, zs_iconst, zs_ireturn, zh_0, zh_1, zh_2, zh_3, zh_4, zt_i, zt_l, zt_r, zt_n, zn_int, zn_b0, zn_b1, zb_15, zb_16, zb_17, za_18, za_19, za_20, za_21, za_22, zb_23, za_24, za_25, za_26, za_27, za_28, za_29, za_30, za_31, za_32, zb_35, za_36, za_37, za_38, za_39, za_40, zb_377, zb_378, za_379, za_380, za_381, za_382, za_383, zb_384, za_385, za_386, za_387, za_388, za_389, za_390, za_391, za_392, za_393, zb_396, za_397, za_398, za_399, za_400, za_401, zb_738, za_739, za_740, za_741, za_742, za_743, za_744, za_745, za_746, za_747, zb_748, za_749, za_750, zb_751, zb_752, za_753, za_754, za_755, za_756, zb_757, za_758, za_759, za_760, zb_761, za_763, za_764, za_765, zu_0, zu_1, zu_2, zu_3, zu_4, zu_5, zu_6, zu_7, zu_8, zu_9, zu_10, zu_11, zu_12, zu_13, zu_14, zu_15, zu_16, zu_17, zu_18, zu_19, zu_20, zu_21, zu_22, zu_23, zu_24, zu_25, zu_26, zu_27, zu_28, zu_29, zu_30, zu_90, zv_0_9, zv_1_9, zv_2_9, zv_3_9, zv_4_9, zv_5_9, zv_6_9, zv_7_9, zv_8_9, zv_0_330, zv_0_4544, zv_1_4544, zv_2_4544, zv_3_4544, zv_4_4544, zv_5_4544, zv_6_4544, zv_7_4544, zv_8_4544, zv_9_4544, zv_10_4544, zv_11_4544, zv_12_4544, zv_13_4544, zv_14_4544, zv_15_4544, zv_16_4544, zv_17_4544, zv_18_4544, zv_19_4544, zv_20_4544, zv_21_4544, zv_22_4544, zv_23_4544, zv_24_4544, zv_25_4544, zv_26_4544, zv_27_4544, zv_28_4544, zv_29_4544, zv_0_11, zv_1_11, zv_0_160, true_and, and_true, Nat.reduceAdd, m10, v1, v2, m39]
      refine ⟨fun h => absurd h (nI_ge (by omega) (by omega)), fun _ => ?_⟩
      refine c11_addsOf hE d (L := L) (D := D) h91 o2 hdd (by rw [(f1 23 (by decide)).1]; exact hd) (Or.inr ⟨rfl, hL, zl_law_c hl (fun j a b => (f1 _ (by simp; omega)).1)⟩) hD (fun M2 n2 f2 => ?_)
      have f12 := zf_trans f1 f2
      have m40 : M2.1 40 k = ab k := by rw [(f12 40 (by decide)).1]; exact o3
      simp only [bX11_explainsAdded_2, zw_0, zw_1, zs_iloadn2, zs_aloadn0, zs_aloadNn0, zg_11_10, zg_11_364, zs_icge, zg_11_367, zs_iaload, zs_aloadn1, zs_aloadNn1, zi_11_245, zg_11_370, zs_iceq, zs_iconst, zs_ireturn, zh_0, zh_1, zh_2, zh_3, zh_4, zt_i, zt_l, zt_r, zt_n, zn_int, zn_b0, zn_b1, zb_15, zb_16, zb_17, za_18, za_19, za_20, za_21, za_22, zb_23, za_24, za_25, za_26, za_27, za_28, za_29, za_30, za_31, za_32, zb_35, za_36, za_37, za_38, za_39, za_40, zb_377, zb_378, za_379, za_380, za_381, za_382, za_383, zb_384, za_385, za_386, za_387, za_388, za_389, za_390, za_391, za_392, za_393, zb_396, za_397, za_398, za_399, za_400, za_401, zb_738, za_739, za_740, za_741, za_742, za_743, za_744, za_745, za_746, za_747, zb_748, za_749, za_750, zb_751, zb_752, za_753, za_754, za_755, za_756, zb_757, za_758, za_759, za_760, zb_761, za_763, za_764, za_765, zu_0, zu_1, zu_2, zu_3, zu_4, zu_5, zu_6, zu_7, zu_8, zu_9, zu_10, zu_11, zu_12, zu_13, zu_14, zu_15, zu_16, zu_17, zu_18, zu_19, zu_20, zu_21, zu_22, zu_23, zu_24, zu_25, zu_26, zu_27, zu_28, zu_29, zu_30, zu_90, zv_0_9, zv_1_9, zv_2_9, zv_3_9, zv_4_9, zv_5_9, zv_6_9, zv_7_9, zv_8_9, zv_0_330, zv_0_4544, zv_1_4544, zv_2_4544, zv_3_4544, zv_4_4544, zv_5_4544, zv_6_4544, zv_7_4544, zv_8_4544, zv_9_4544, zv_10_4544, zv_11_4544, zv_12_4544, zv_13_4544, zv_14_4544, zv_15_4544, zv_16_4544, zv_17_4544, zv_18_4544, zv_19_4544, zv_20_4544, zv_21_4544, zv_22_4544, zv_23_4544, zv_24_4544, zv_25_4544, zv_26_4544, zv_27_4544, zv_28_4544, zv_29_4544, zv_0_11, zv_1_11, zv_0_160, true_and, and_true, Nat.reduceAdd, v1, v2, m40]
      refine ⟨fun heq => ?_, fun hne => ?_⟩
      · refine h41 _ _ _ ?_
        simp only [bX11_explainsAdded_41, zw_0, zw_1, zs_iinc2, zs_goto, zc_none, zc_int, zc_ref, zc_null, zc_long, zb_15, zb_16, zb_17, za_18, za_19, za_20, za_21, za_22, zb_23, za_24, za_25, za_26, za_27, za_28, za_29, za_30, za_31, za_32, zb_35, za_36, za_37, za_38, za_39, za_40, zb_377, zb_378, za_379, za_380, za_381, za_382, za_383, zb_384, za_385, za_386, za_387, za_388, za_389, za_390, za_391, za_392, za_393, zb_396, za_397, za_398, za_399, za_400, za_401, zb_738, za_739, za_740, za_741, za_742, za_743, za_744, za_745, za_746, za_747, zb_748, za_749, za_750, zb_751, zb_752, za_753, za_754, za_755, za_756, zb_757, za_758, za_759, za_760, zb_761, za_763, za_764, za_765, true_and, and_true, Nat.reduceAdd, nI_1]
        refine ih (k + 1) M2 (by omega) n2 f12 ?_
        simp only [zo_ex, hex, heq]; rfl
      · have := q M2 n2 f12
        rw [zo_ex_no hne m (by omega)] at this
        exact this
  refine h0 _ _ _ ?_
  simp only [bX11_explainsAdded_0, zw_0, zw_1, zs_iconst, zs_istoren2, zc_none, zc_int, zc_ref, zc_null, zc_long, zb_15, zb_16, zb_17, za_18, za_19, za_20, za_21, za_22, zb_23, za_24, za_25, za_26, za_27, za_28, za_29, za_30, za_31, za_32, zb_35, za_36, za_37, za_38, za_39, za_40, zb_377, zb_378, za_379, za_380, za_381, za_382, za_383, zb_384, za_385, za_386, za_387, za_388, za_389, za_390, za_391, za_392, za_393, zb_396, za_397, za_398, za_399, za_400, za_401, zb_738, za_739, za_740, za_741, za_742, za_743, za_744, za_745, za_746, za_747, zb_748, za_749, za_750, zb_751, zb_752, za_753, za_754, za_755, za_756, zb_757, za_758, za_759, za_760, zb_761, za_763, za_764, za_765, true_and, and_true, Nat.reduceAdd]
  exact loop m 0 M (by omega) hN zf_refl rfl
theorem c11_whose {E : zm_E} (hE : zm_ok E.2.2.1 E.2.2.2.2) (d : Nat) {n dd m tn : Nat} {b pr : Nat → Int32} {TT : Nat → Nat → Option zD} {M : zm_M} {ao : Nat → Nat} {ab : Nat → Int32} (h9 : zc_s9 n b pr M) (hN : zN M) (hdd : dd ≤ 9999) (hd : M.1 23 0 = nI dd) (htn : tn ≤ 4) (h16 : M.1 16 6 = nI tn) (hl : ∀ t, t < tn → zl_law M (41 + 9 * t) 0 (TT t 0)) (hD : ∀ t, t < tn → zDo 0 (TT t 0)) (hm : m ≤ 8) (h10 : M.1 16 10 = nI m) (ho : ∀ i, i < m → M.1 39 i = nI (ao i) ∧ ao i < n ∧ M.1 40 i = ab i) {Q : Option Value → zm_M → Prop} (q : ∀ M', zN M' → zf [748, 749, 750] M M' → Q (some (.int (nI (zb_set (fun t => zo_ex n b pr (TT t 0) (nI dd) ao ab m) tn)))) M') : zm_R E (d + 6) mX11_whose [.ref 15] M Q := by
  refine zX11_whose hE rfl (fun G h0 h4 h37 h43 => ?_)
  show G 0 [some (.ref 15), none, none] [] M
  have loop : ∀ (f k : Nat) (M1 : zm_M), k + f = tn → zN M1 → zf [748, 749, 750] M M1 → G 4 [some (.ref 15), some (.int (nI (zb_set (fun t => zo_ex n b pr (TT t 0) (nI dd) ao ab m) k))), some (.int (nI k))] [] M1 := by
    intro f
    induction f with
    | zero =>
      intro k M1 hk hN1 f1
      obtain rfl : k = tn := by omega
      have m6 : M1.1 16 6 = nI k := by rw [(f1 16 (by decide)).1]; exact h16
      refine h4 _ _ _ ?_
      simp only [bX11_whose_4, zw_0, zw_1, zs_iloadn2, zs_aloadn0, zs_aloadNn0, zg_11_10, zg_11_106, zs_icge, zg_11_109, zs_aaload, zi_11_373, zs_ifeq, zs_iloadn1, zs_iconst, zs_ishl, zs_ior, zs_istoren1, zc_none, zc_int, zc_ref, zc_null, zc_long, zh_0, zh_1, zh_2, zh_3, zh_4, zt_i, zt_l, zt_r, zt_n, zb_15, zb_16, zb_17, za_18, za_19, za_20, za_21, za_22, zb_23, za_24, za_25, za_26, za_27, za_28, za_29, za_30, za_31, za_32, zb_35, za_36, za_37, za_38, za_39, za_40, zb_377, zb_378, za_379, za_380, za_381, za_382, za_383, zb_384, za_385, za_386, za_387, za_388, za_389, za_390, za_391, za_392, za_393, zb_396, za_397, za_398, za_399, za_400, za_401, zb_738, za_739, za_740, za_741, za_742, za_743, za_744, za_745, za_746, za_747, zb_748, za_749, za_750, zb_751, zb_752, za_753, za_754, za_755, za_756, zb_757, za_758, za_759, za_760, zb_761, za_763, za_764, za_765, true_and, and_true, Nat.reduceAdd, m6]
      refine ⟨fun _ => ?_, fun h => absurd (nI_le (Nat.le_refl _) (by omega)) h⟩
      refine h43 _ _ _ ?_
      simp only [bX11_whose_43, zw_0, zw_1, zs_iloadn1, zs_ireturn, zn_int, zn_b0, zn_b1, zb_15, zb_16, zb_17, za_18, za_19, za_20, za_21, za_22, zb_23, za_24, za_25, za_26, za_27, za_28, za_29, za_30, za_31, za_32, zb_35, za_36, za_37, za_38, za_39, za_40, zb_377, zb_378, za_379, za_380, za_381, za_382, za_383, zb_384, za_385, za_386, za_387, za_388, za_389, za_390, za_391, za_392, za_393, zb_396, za_397, za_398, za_399, za_400, za_401, zb_738, za_739, za_740, za_741, za_742, za_743, za_744, za_745, za_746, za_747, zb_748, za_749, za_750, zb_751, zb_752, za_753, za_754, za_755, za_756, zb_757, za_758, za_759, za_760, zb_761, za_763, za_764, za_765, true_and, and_true, Nat.reduceAdd]
      exact q M1 hN1 f1
    | succ f ih =>
      intro k M1 hk hN1 f1
      have m6 : M1.1 16 6 = nI tn := by rw [(f1 16 (by decide)).1]; exact h16
      have v1 : vp_in (nI k) 4 := vp_in_nI (by omega) (by decide)
      have v2 : (nI k).toNatClampNeg = k := nI_clamp (by omega)
      have hL := zl_now (t := k) (by omega)
      have h91 : zc_s9 n b pr M1 := zc_s9_f h9 f1 (by decide) (by decide) (by decide) (by decide)
      have go : ∀ (M2 : zm_M) (x : Nat), x = zb_set (fun t => zo_ex n b pr (TT t 0) (nI dd) ao ab m) (k + 1) → zN M2 → zf [748, 749, 750] M M2 → G 37 [some (.ref 15), some (.int (nI x)), some (.int (nI k))] [] M2 := by
        intro M2 x hx n2 f2
        refine h37 _ _ _ ?_
        simp only [bX11_whose_37, zw_0, zw_1, zs_iinc2, zs_goto, zc_none, zc_int, zc_ref, zc_null, zc_long, zb_15, zb_16, zb_17, za_18, za_19, za_20, za_21, za_22, zb_23, za_24, za_25, za_26, za_27, za_28, za_29, za_30, za_31, za_32, zb_35, za_36, za_37, za_38, za_39, za_40, zb_377, zb_378, za_379, za_380, za_381, za_382, za_383, zb_384, za_385, za_386, za_387, za_388, za_389, za_390, za_391, za_392, za_393, zb_396, za_397, za_398, za_399, za_400, za_401, zb_738, za_739, za_740, za_741, za_742, za_743, za_744, za_745, za_746, za_747, zb_748, za_749, za_750, zb_751, zb_752, za_753, za_754, za_755, za_756, zb_757, za_758, za_759, za_760, zb_761, za_763, za_764, za_765, true_and, and_true, Nat.reduceAdd, nI_1]
        rw [hx]
        exact ih (k + 1) M2 (by omega) n2 f2
      refine h4 _ _ _ ?_
      simp only [bX11_whose_4, zw_0, zw_1, zs_iloadn2, zs_aloadn0, zs_aloadNn0, zg_11_10, zg_11_106, zs_icge, zg_11_109, zs_aaload, zi_11_373, zs_ifeq, zs_iloadn1, zs_iconst, zs_ishl, zs_ior, zs_istoren1, zc_none, zc_int, zc_ref, zc_null, zc_long, zh_0, zh_1, zh_2, zh_3, zh_4, zt_i, zt_l, zt_r, zt_n, zb_15, zb_16, zb_17, za_18, za_19, za_20, za_21, za_22, zb_23, za_24, za_25, za_26, za_27, za_28, za_29, za_30, za_31, za_32, zb_35, za_36, za_37, za_38, za_39, za_40, zb_377, zb_378, za_379, za_380, za_381, za_382, za_383, zb_384, za_385, za_386, za_387, za_388, za_389, za_390, za_391, za_392, za_393, zb_396, za_397, za_398, za_399, za_400, za_401, zb_738, za_739, za_740, za_741, za_742, za_743, za_744, za_745, za_746, za_747, zb_748, za_749, za_750, zb_751, zb_752, za_753, za_754, za_755, za_756, zb_757, za_758, za_759, za_760, zb_761, za_763, za_764, za_765, true_and, and_true, Nat.reduceAdd, m6, zm_a34, v1, v2, zm_ao_34]
      refine ⟨fun h => absurd h (nI_ge (by omega) (by omega)), fun _ => ?_⟩
      refine c11_explainsAdded hE d (D := TT k 0) h91 hN1 hdd (by rw [(f1 23 (by decide)).1]; exact hd) hL (zl_law_c (hl k (by omega)) (fun j a b => (f1 _ (by simp; omega)).1)) (hD k (by omega)) hm (by rw [(f1 16 (by decide)).1]; exact h10) (fun i hi => by rw [(f1 39 (by decide)).1, (f1 40 (by decide)).1]; exact ho i hi) (fun M2 n2 f2 => ?_)
      have sh := zx_1s k (by omega)
      simp only [bX11_whose_4, zw_0, zw_1, zs_iloadn2, zs_aloadn0, zs_aloadNn0, zg_11_10, zg_11_106, zs_icge, zg_11_109, zs_aaload, zi_11_373, zs_ifeq, zs_iloadn1, zs_iconst, zs_ishl, zs_ior, zs_istoren1, zc_none, zc_int, zc_ref, zc_null, zc_long, zh_0, zh_1, zh_2, zh_3, zh_4, zt_i, zt_l, zt_r, zt_n, zb_15, zb_16, zb_17, za_18, za_19, za_20, za_21, za_22, zb_23, za_24, za_25, za_26, za_27, za_28, za_29, za_30, za_31, za_32, zb_35, za_36, za_37, za_38, za_39, za_40, zb_377, zb_378, za_379, za_380, za_381, za_382, za_383, zb_384, za_385, za_386, za_387, za_388, za_389, za_390, za_391, za_392, za_393, zb_396, za_397, za_398, za_399, za_400, za_401, zb_738, za_739, za_740, za_741, za_742, za_743, za_744, za_745, za_746, za_747, zb_748, za_749, za_750, zb_751, zb_752, za_753, za_754, za_755, za_756, zb_757, za_758, za_759, za_760, zb_761, za_763, za_764, za_765, true_and, and_true, Nat.reduceAdd, zi_b0, sh, nx_or]
      refine ⟨fun h => go M2 _ ?_ n2 (zf_trans f1 f2), fun h => go M2 _ ?_ n2 (zf_trans f1 f2)⟩
      · simp only [zb_set, h]; simp
      · have h : zo_ex n b pr (TT k 0) (nI dd) ao ab m = true := by simpa using h
        simp only [zb_set, h]; simp
  refine h0 _ _ _ ?_
  simp only [bX11_whose_0, zw_0, zw_1, zs_iconst, zs_istoren1, zs_istoren2, zc_none, zc_int, zc_ref, zc_null, zc_long, zb_15, zb_16, zb_17, za_18, za_19, za_20, za_21, za_22, zb_23, za_24, za_25, za_26, za_27, za_28, za_29, za_30, za_31, za_32, zb_35, za_36, za_37, za_38, za_39, za_40, zb_377, zb_378, za_379, za_380, za_381, za_382, za_383, zb_384, za_385, za_386, za_387, za_388, za_389, za_390, za_391, za_392, za_393, zb_396, za_397, za_398, za_399, za_400, za_401, zb_738, za_739, za_740, za_741, za_742, za_743, za_744, za_745, za_746, za_747, zb_748, za_749, za_750, zb_751, zb_752, za_753, za_754, za_755, za_756, zb_757, za_758, za_759, za_760, zb_761, za_763, za_764, za_765, true_and, and_true, Nat.reduceAdd]
  exact loop tn 0 M (by omega) hN zf_refl
