/-! ===== the route: the class's walk ===== -/
def zP_b (best : Nat × List Nat) (M : zm_M) : Prop := M.1 757 3 = nI best.1 ∧ M.1 757 2 = nI best.2.length ∧ best.1 ≤ 10000 ∧ best.2.length ≤ 9 ∧ ∀ i, i < best.2.length → M.1 759 i = nI (best.2.getD i 0)
def zP_p (path : List Nat) (M : zm_M) : Prop := ∀ i, i < path.length → M.1 760 i = nI (path.getD i 0)
def zP_w (M M' : zm_M) : Prop := zf [748, 749, 750, 757, 759, 760] M M' ∧ zg 757 [2, 3] M M' ∧ M'.2.2 757 = M.2.2 757
theorem zP_w_refl {M : zm_M} : zP_w M M := ⟨zf_refl, zg_refl, rfl⟩
theorem zP_w_trans {M M' M'' : zm_M} (h : zP_w M M') (h2 : zP_w M' M'') : zP_w M M'' := ⟨zf_trans h.1 h2.1, zg_trans h.2.1 h2.2.1, h2.2.2.trans h.2.2⟩
theorem zr_c_1 {b cs : Nat → Int32} {to p e : Nat} (h : 0 < zr_c b cs to p e) : (zr_c b cs to p e = 1) = (b p = nI e) := by
  unfold zr_c at h ⊢
  split at h
  · next h1 =>
    rw [if_pos h1]
    split at h
    · next h2 => rw [if_pos h2]; exact propext ⟨fun _ => h2, fun _ => rfl⟩
    · next h2 =>
      rw [if_neg h2]
      refine propext ⟨fun z => ?_, fun z => absurd z h2⟩
      split at z <;> omega
  · omega
theorem zr_lp_inv {α : Type} {g : Nat → α → α} {P : α → Prop} (hg : ∀ k x, P x → P (g k x)) : ∀ (f k : Nat) (x : α), P x → P (zr_lp g f k x) := by
  intro f
  induction f with
  | zero => intro k x h; exact h
  | succ f ih => intro k x h; exact ih _ _ (hg k x h)
set_option maxHeartbeats 4000000 in
theorem c3_walk {E : zm_E} (hE : zm_ok E.2.2.1 E.2.2.2.2) (d : Nat) {n fr to dd : Nat} {b pr cs : Nat → Int32} {D : Option zD} {lw : Option Nat} (hD : zDo 0 D) (hfr : fr < n) (hto : to < n) (hdd : dd ≤ 9999) : ∀ (f p sz : Nat) (path : List Nat) (best : Nat × List Nat) (M : zm_M), zP_f n b pr cs fr to dd D lw M → zP_dy n (zr_ds n b cs to) M → p < n → sz ≤ 9999 → zr_rk (zr_ds n b cs to) n p ≤ f → path.length + f ≤ 9 → zP_p path M → zP_b best M → ∀ {Q : Option Value → zm_M → Prop}, (∀ M', zP_f n b pr cs fr to dd D lw M' → zP_dy n (zr_ds n b cs to) M' → zP_p path M' → zP_b (zr_dfs n to (zr_ok (zr_c b cs to) (zr_ds n b cs to)) (zr_gr n b pr D (nI dd) fr to) f p sz path best) M' → zP_w M M' → Q none M') → zm_R E (d + f + 5) mX3_walk [.ref 757, .int (nI p), .int (nI sz), .int (nI path.length)] M Q := by
  intro f
  induction f with
  | zero =>
    intro p sz path best M hF hd hp hsz hrk hpl hpp hpb Q q
    refine zX3_walk hE rfl (fun G h0 h40 h41 h48 h51 h126 h127 h133 h139 => ?_)
    show G 0 [some (.ref 757), some (.int (nI p)), some (.int (nI sz)), some (.int (nI path.length)), none, none] [] M
    have hF0 := hF
    obtain ⟨h9, hcs, h8', h9', h10, h7, d0, d7, d8, hN, hlw⟩ := hF
    have hw : zt_wf n b := zt_wf_c h9.1.1 h9.2.2.1
    have hn := hw.1
    have hdi := zr_ds_i (b := b) (cs := cs) hn hto
    obtain ⟨p1, p2, p3, p4, p5⟩ := hpb
    have ep : (nI p = nI to) = (p = to) := propext (nI_eq (by omega) (by omega))
    have es : (nI best.1 ≤ nI sz) = (best.1 ≤ sz) := propext (nI_leI (by omega) (by omega))
    have r40 : zr_tk sz path best = best → p = to → G 40 [some (.ref 757), some (.int (nI p)), some (.int (nI sz)), some (.int (nI path.length)), none, none] [] M := by
      intro ht hpt
      refine h40 _ _ _ ?_
      simp only [bX3_walk_40, zw_0, zw_1, zs_return, zn_int, zn_b0, zn_b1, zb_15, zb_16, zb_17, za_18, za_19, za_20, za_21, za_22, zb_23, za_24, za_25, za_26, za_27, za_28, za_29, za_30, za_31, za_32, zb_35, za_36, za_37, za_38, za_39, za_40, zb_377, zb_378, za_379, za_380, za_381, za_382, za_383, zb_384, za_385, za_386, za_387, za_388, za_389, za_390, za_391, za_392, za_393, zb_396, za_397, za_398, za_399, za_400, za_401, zb_738, za_739, za_740, za_741, za_742, za_743, za_744, za_745, za_746, za_747, zb_748, za_749, za_750, zb_751, zb_752, za_753, za_754, za_755, za_756, zb_757, za_758, za_759, za_760, zb_761, za_763, za_764, za_765, true_and, and_true, Nat.reduceAdd]
      refine q M hF0 hd hpp ?_ zP_w_refl
      simp only [zr_dfs]
      rw [if_pos hpt, ht]
      exact ⟨p1, p2, p3, p4, p5⟩
    refine h0 _ _ _ ?_
    simp only [bX3_walk_0, zw_0, zw_1, zs_iloadn1, zs_aloadn0, zs_aloadNn0, zg_3_35, zs_icne, zs_iloadn2, zg_3_22, zs_icge, zq_3_22, zs_iloadn3, zq_3_18, zg_3_25, zs_iconst, zg_3_15, zi_3_96, zh_0, zh_1, zh_2, zh_3, zh_4, zt_i, zt_l, zt_r, zt_n, zb_15, zb_16, zb_17, za_18, za_19, za_20, za_21, za_22, zb_23, za_24, za_25, za_26, za_27, za_28, za_29, za_30, za_31, za_32, zb_35, za_36, za_37, za_38, za_39, za_40, zb_377, zb_378, za_379, za_380, za_381, za_382, za_383, zb_384, za_385, za_386, za_387, za_388, za_389, za_390, za_391, za_392, za_393, zb_396, za_397, za_398, za_399, za_400, za_401, zb_738, za_739, za_740, za_741, za_742, za_743, za_744, za_745, za_746, za_747, zb_748, za_749, za_750, zb_751, zb_752, za_753, za_754, za_755, za_756, zb_757, za_758, za_759, za_760, zb_761, za_763, za_764, za_765, true_and, and_true, Nat.reduceAdd, h9', ep, p1, es]
    refine ⟨fun hne => ?_, fun heq => ⟨fun hge => r40 (by unfold zr_tk; rw [if_neg (by omega)]) heq, fun hlt => ?_⟩⟩
    · refine h41 _ _ _ ?_
      simp only [bX3_walk_41, zw_0, zw_1, zs_iloadn3, zs_bipush, zs_iclt, zs_return, zn_int, zn_b0, zn_b1, zb_15, zb_16, zb_17, za_18, za_19, za_20, za_21, za_22, zb_23, za_24, za_25, za_26, za_27, za_28, za_29, za_30, za_31, za_32, zb_35, za_36, za_37, za_38, za_39, za_40, zb_377, zb_378, za_379, za_380, za_381, za_382, za_383, zb_384, za_385, za_386, za_387, za_388, za_389, za_390, za_391, za_392, za_393, zb_396, za_397, za_398, za_399, za_400, za_401, zb_738, za_739, za_740, za_741, za_742, za_743, za_744, za_745, za_746, za_747, zb_748, za_749, za_750, zb_751, zb_752, za_753, za_754, za_755, za_756, zb_757, za_758, za_759, za_760, zb_761, za_763, za_764, za_765, true_and, and_true, Nat.reduceAdd]
      refine ⟨fun _ => ?_, fun h => absurd (nI_lt (b := 10) (by omega) (by decide)) h⟩
      refine h48 _ _ _ ?_
      simp only [bX3_walk_48, zw_0, zw_1, zs_iconst, zs_istore4, zc_none, zc_int, zc_ref, zc_null, zc_long, zb_15, zb_16, zb_17, za_18, za_19, za_20, za_21, za_22, zb_23, za_24, za_25, za_26, za_27, za_28, za_29, za_30, za_31, za_32, zb_35, za_36, za_37, za_38, za_39, za_40, zb_377, zb_378, za_379, za_380, za_381, za_382, za_383, zb_384, za_385, za_386, za_387, za_388, za_389, za_390, za_391, za_392, za_393, zb_396, za_397, za_398, za_399, za_400, za_401, zb_738, za_739, za_740, za_741, za_742, za_743, za_744, za_745, za_746, za_747, zb_748, za_749, za_750, zb_751, zb_752, za_753, za_754, za_755, za_756, zb_757, za_758, za_759, za_760, zb_761, za_763, za_764, za_765, true_and, and_true, Nat.reduceAdd]
      have nx : ∀ e, e < n → zr_ok (zr_c b cs to) (zr_ds n b cs to) p e = false := by
        intro e he
        cases h : zr_ok (zr_c b cs to) (zr_ds n b cs to) p e with
        | false => rfl
        | true =>
          have := (zr_ok_of (n := n) he h).2.2
          omega
      have vp : vp_in (nI p) 10 := vp_in_nI (by omega) (by decide)
      have vp2 : (nI p).toNatClampNeg = p := nI_clamp (by omega)
      have loop : ∀ (g k : Nat) (bst : Nat × List Nat) (M1 : zm_M) (l5 : Option Value), k + g = n → zP_f n b pr cs fr to dd D lw M1 → zP_dy n (zr_ds n b cs to) M1 → zP_p path M1 → zP_b bst M1 → zP_w M M1 → bst = best → G 51 [some (.ref 757), some (.int (nI p)), some (.int (nI sz)), some (.int (nI path.length)), some (.int (nI k)), l5] [] M1 := by
        intro g
        induction g with
        | zero =>
          intro k bst M1 l5 hk F1 d1 pp1 pb1 w1 e
          have m17 : M1.1 17 0 = nI n := F1.1.2.1
          refine h51 _ _ _ ?_
          simp only [bX3_walk_51, zw_0, zw_1, zs_iload4, zs_aloadn0, zs_aloadNn0, zg_3_41, zg_3_73, zs_icge, zs_iloadn1, zi_3_76, zs_istore5, zs_iload5, zs_sipush, zg_3_9, zs_iaload, zs_iadd, zs_icne, zg_3_25, zs_iloadn3, zs_iastore, zs_iconst, zs_iloadn2, zi_3_102, zs_goto, zc_none, zc_int, zc_ref, zc_null, zc_long, zh_0, zh_1, zh_2, zh_3, zh_4, zt_i, zt_l, zt_r, zt_n, zb_15, zb_16, zb_17, za_18, za_19, za_20, za_21, za_22, zb_23, za_24, za_25, za_26, za_27, za_28, za_29, za_30, za_31, za_32, zb_35, za_36, za_37, za_38, za_39, za_40, zb_377, zb_378, za_379, za_380, za_381, za_382, za_383, zb_384, za_385, za_386, za_387, za_388, za_389, za_390, za_391, za_392, za_393, zb_396, za_397, za_398, za_399, za_400, za_401, zb_738, za_739, za_740, za_741, za_742, za_743, za_744, za_745, za_746, za_747, zb_748, za_749, za_750, zb_751, zb_752, za_753, za_754, za_755, za_756, zb_757, za_758, za_759, za_760, zb_761, za_763, za_764, za_765, zu_0, zu_1, zu_2, zu_3, zu_4, zu_5, zu_6, zu_7, zu_8, zu_9, zu_10, zu_11, zu_12, zu_13, zu_14, zu_15, zu_16, zu_17, zu_18, zu_19, zu_20, zu_21, zu_22, zu_23, zu_24, zu_25, zu_26, zu_27, zu_28, zu_29, zu_30, zu_90, zv_0_9, zv_1_9, zv_2_9, zv_3_9, zv_4_9, zv_5_9, zv_6_9, zv_7_9, zv_8_9, zv_0_330, zv_0_4544, zv_1_4544, zv_2_4544, zv_3_4544, zv_4_4544, zv_5_4544, zv_6_4544, zv_7_4544, zv_8_4544, zv_9_4544, zv_10_4544, zv_11_4544, zv_12_4544, zv_13_4544, zv_14_4544, zv_15_4544, zv_16_4544, zv_17_4544, zv_18_4544, zv_19_4544, zv_20_4544, zv_21_4544, zv_22_4544, zv_23_4544, zv_24_4544, zv_25_4544, zv_26_4544, zv_27_4544, zv_28_4544, zv_29_4544, zv_0_11, zv_1_11, zv_0_160, true_and, and_true, Nat.reduceAdd, m17]
          refine ⟨fun _ => ?_, fun h => absurd (nI_le (by omega) (by omega)) h⟩
          refine h139 _ _ _ ?_
          simp only [bX3_walk_139, zw_0, zw_1, zs_return, zn_int, zn_b0, zn_b1, zb_15, zb_16, zb_17, za_18, za_19, za_20, za_21, za_22, zb_23, za_24, za_25, za_26, za_27, za_28, za_29, za_30, za_31, za_32, zb_35, za_36, za_37, za_38, za_39, za_40, zb_377, zb_378, za_379, za_380, za_381, za_382, za_383, zb_384, za_385, za_386, za_387, za_388, za_389, za_390, za_391, za_392, za_393, zb_396, za_397, za_398, za_399, za_400, za_401, zb_738, za_739, za_740, za_741, za_742, za_743, za_744, za_745, za_746, za_747, zb_748, za_749, za_750, zb_751, zb_752, za_753, za_754, za_755, za_756, zb_757, za_758, za_759, za_760, zb_761, za_763, za_764, za_765, true_and, and_true, Nat.reduceAdd]
          refine q M1 F1 d1 pp1 ?_ w1
          simp only [zr_dfs]
          rw [if_neg hne]
          rw [← e]; exact pb1
        | succ g ihg =>
          intro k bst M1 l5 hk F1 d1 pp1 pb1 w1 e
          have m17 : M1.1 17 0 = nI n := F1.1.2.1
          have vk : vp_in (nI k) 10 := vp_in_nI (by omega) (by decide)
          have vk2 : (nI k).toNatClampNeg = k := nI_clamp (by omega)
          have dk := d1 k (by omega)
          have dp := d1 p hp
          have c2 := zr_c_2 b cs to p k
          have bk := hdi.1 k
          have bp := hdi.1 p
          have skip : ∀ (l5 : Option Value), zr_ok (zr_c b cs to) (zr_ds n b cs to) p k = false → G 133 [some (.ref 757), some (.int (nI p)), some (.int (nI sz)), some (.int (nI path.length)), some (.int (nI k)), l5] [] M1 := by
            intro l5 hno
            refine h133 _ _ _ ?_
            simp only [bX3_walk_133, zw_0, zw_1, zs_iinc4, zs_goto, zc_none, zc_int, zc_ref, zc_null, zc_long, zb_15, zb_16, zb_17, za_18, za_19, za_20, za_21, za_22, zb_23, za_24, za_25, za_26, za_27, za_28, za_29, za_30, za_31, za_32, zb_35, za_36, za_37, za_38, za_39, za_40, zb_377, zb_378, za_379, za_380, za_381, za_382, za_383, zb_384, za_385, za_386, za_387, za_388, za_389, za_390, za_391, za_392, za_393, zb_396, za_397, za_398, za_399, za_400, za_401, zb_738, za_739, za_740, za_741, za_742, za_743, za_744, za_745, za_746, za_747, zb_748, za_749, za_750, zb_751, zb_752, za_753, za_754, za_755, za_756, zb_757, za_758, za_759, za_760, zb_761, za_763, za_764, za_765, true_and, and_true, Nat.reduceAdd, nI_1]
            refine ihg (k + 1) bst M1 _ (by omega) F1 d1 pp1 pb1 w1 ?_
            exact e
          refine h51 _ _ _ ?_
          simp only [bX3_walk_51, zw_0, zw_1, zs_iload4, zs_aloadn0, zs_aloadNn0, zg_3_41, zg_3_73, zs_icge, zs_iloadn1, zi_3_76, zs_istore5, zs_iload5, zs_sipush, zg_3_9, zs_iaload, zs_iadd, zs_icne, zg_3_25, zs_iloadn3, zs_iastore, zs_iconst, zs_iloadn2, zi_3_102, zs_goto, zc_none, zc_int, zc_ref, zc_null, zc_long, zh_0, zh_1, zh_2, zh_3, zh_4, zt_i, zt_l, zt_r, zt_n, zb_15, zb_16, zb_17, za_18, za_19, za_20, za_21, za_22, zb_23, za_24, za_25, za_26, za_27, za_28, za_29, za_30, za_31, za_32, zb_35, za_36, za_37, za_38, za_39, za_40, zb_377, zb_378, za_379, za_380, za_381, za_382, za_383, zb_384, za_385, za_386, za_387, za_388, za_389, za_390, za_391, za_392, za_393, zb_396, za_397, za_398, za_399, za_400, za_401, zb_738, za_739, za_740, za_741, za_742, za_743, za_744, za_745, za_746, za_747, zb_748, za_749, za_750, zb_751, zb_752, za_753, za_754, za_755, za_756, zb_757, za_758, za_759, za_760, zb_761, za_763, za_764, za_765, zu_0, zu_1, zu_2, zu_3, zu_4, zu_5, zu_6, zu_7, zu_8, zu_9, zu_10, zu_11, zu_12, zu_13, zu_14, zu_15, zu_16, zu_17, zu_18, zu_19, zu_20, zu_21, zu_22, zu_23, zu_24, zu_25, zu_26, zu_27, zu_28, zu_29, zu_30, zu_90, zv_0_9, zv_1_9, zv_2_9, zv_3_9, zv_4_9, zv_5_9, zv_6_9, zv_7_9, zv_8_9, zv_0_330, zv_0_4544, zv_1_4544, zv_2_4544, zv_3_4544, zv_4_4544, zv_5_4544, zv_6_4544, zv_7_4544, zv_8_4544, zv_9_4544, zv_10_4544, zv_11_4544, zv_12_4544, zv_13_4544, zv_14_4544, zv_15_4544, zv_16_4544, zv_17_4544, zv_18_4544, zv_19_4544, zv_20_4544, zv_21_4544, zv_22_4544, zv_23_4544, zv_24_4544, zv_25_4544, zv_26_4544, zv_27_4544, zv_28_4544, zv_29_4544, zv_0_11, zv_1_11, zv_0_160, true_and, and_true, Nat.reduceAdd, m17]
          refine ⟨fun h => absurd h (nI_ge (by omega) (by omega)), fun _ => ?_⟩
          refine zm_R_eq (c3_stepDays hE (d + 2) (b := b) (pr := pr) (cs := cs) F1.1 F1.2.1 hto hp (by omega) F1.2.2.2.2.1) ?_
          have kk : zr_k (zr_c b cs to p k) ≤ 1000 := by unfold zr_k; split <;> omega
          have c1000 : ((1000 : Int32) ≤ nI (zr_k (zr_c b cs to p k))) = (zr_c b cs to p k = 0) := by
            refine propext ⟨fun z => ?_, fun z => by rw [z]; decide⟩
            have := (nI_leI (a := 1000) (b := zr_k (zr_c b cs to p k)) (by decide) (by omega)).mp z
            unfold zr_k at this
            split at this <;> omega
          simp only [bX3_walk_51, zw_0, zw_1, zs_iload4, zs_aloadn0, zs_aloadNn0, zg_3_41, zg_3_73, zs_icge, zs_iloadn1, zi_3_76, zs_istore5, zs_iload5, zs_sipush, zg_3_9, zs_iaload, zs_iadd, zs_icne, zg_3_25, zs_iloadn3, zs_iastore, zs_iconst, zs_iloadn2, zi_3_102, zs_goto, zc_none, zc_int, zc_ref, zc_null, zc_long, zh_0, zh_1, zh_2, zh_3, zh_4, zt_i, zt_l, zt_r, zt_n, zb_15, zb_16, zb_17, za_18, za_19, za_20, za_21, za_22, zb_23, za_24, za_25, za_26, za_27, za_28, za_29, za_30, za_31, za_32, zb_35, za_36, za_37, za_38, za_39, za_40, zb_377, zb_378, za_379, za_380, za_381, za_382, za_383, zb_384, za_385, za_386, za_387, za_388, za_389, za_390, za_391, za_392, za_393, zb_396, za_397, za_398, za_399, za_400, za_401, zb_738, za_739, za_740, za_741, za_742, za_743, za_744, za_745, za_746, za_747, zb_748, za_749, za_750, zb_751, zb_752, za_753, za_754, za_755, za_756, zb_757, za_758, za_759, za_760, zb_761, za_763, za_764, za_765, zu_0, zu_1, zu_2, zu_3, zu_4, zu_5, zu_6, zu_7, zu_8, zu_9, zu_10, zu_11, zu_12, zu_13, zu_14, zu_15, zu_16, zu_17, zu_18, zu_19, zu_20, zu_21, zu_22, zu_23, zu_24, zu_25, zu_26, zu_27, zu_28, zu_29, zu_30, zu_90, zv_0_9, zv_1_9, zv_2_9, zv_3_9, zv_4_9, zv_5_9, zv_6_9, zv_7_9, zv_8_9, zv_0_330, zv_0_4544, zv_1_4544, zv_2_4544, zv_3_4544, zv_4_4544, zv_5_4544, zv_6_4544, zv_7_4544, zv_8_4544, zv_9_4544, zv_10_4544, zv_11_4544, zv_12_4544, zv_13_4544, zv_14_4544, zv_15_4544, zv_16_4544, zv_17_4544, zv_18_4544, zv_19_4544, zv_20_4544, zv_21_4544, zv_22_4544, zv_23_4544, zv_24_4544, zv_25_4544, zv_26_4544, zv_27_4544, zv_28_4544, zv_29_4544, zv_0_11, zv_1_11, zv_0_160, true_and, and_true, Nat.reduceAdd, c1000, vk, vk2, dk, vp, vp2, dp]
          refine ⟨fun hz => skip _ (by unfold zr_ok; exact decide_eq_false (by omega)), fun hz => ?_⟩
          have ek : zr_k (zr_c b cs to p k) = zr_c b cs to p k := by unfold zr_k; rw [if_neg hz]
          have eqd : (nI (zr_ds n b cs to k) + nI (zr_c b cs to p k) = nI (zr_ds n b cs to p)) = (zr_ds n b cs to k + zr_c b cs to p k = zr_ds n b cs to p) := by
            rw [nI_add]; exact propext (nI_eq (by omega) (by omega))
          rw [ek, eqd]
          refine ⟨fun hnd => skip _ (by unfold zr_ok; exact decide_eq_false (fun z => hnd z.2)), fun hyd => ?_⟩
          have hok : zr_ok (zr_c b cs to) (zr_ds n b cs to) p k = true := by unfold zr_ok; exact decide_eq_true ⟨by omega, hyd⟩
          exact absurd hok (by rw [nx k (by omega)]; decide)
      exact loop n 0 best M none (by omega) hF0 hd hpp ⟨p1, p2, p3, p4, p5⟩ zP_w_refl rfl
    · have tk : zr_tk sz path best = (sz, path) := by unfold zr_tk; rw [if_pos (by omega)]
      have lp : zy_ly 760 = (100, 10) := by decide +kernel
      have lb : zy_ly 759 = (100, 10) := by decide +kernel
      have c2 : (nI path.length).toNatClampNeg = path.length := nI_clamp (by omega)
      refine ⟨⟨10, 10, ⟨by decide, lp⟩, ⟨by decide, lb⟩, by decide, by decide, nI_pos (by omega), by rw [c2]; show 0 + path.length ≤ 10; omega, by rw [c2]; show 0 + path.length ≤ 10; omega⟩, ?_⟩
      refine h40 _ _ _ ?_
      simp only [bX3_walk_40, zw_0, zw_1, zs_return, zn_int, zn_b0, zn_b1, zb_15, zb_16, zb_17, za_18, za_19, za_20, za_21, za_22, zb_23, za_24, za_25, za_26, za_27, za_28, za_29, za_30, za_31, za_32, zb_35, za_36, za_37, za_38, za_39, za_40, zb_377, zb_378, za_379, za_380, za_381, za_382, za_383, zb_384, za_385, za_386, za_387, za_388, za_389, za_390, za_391, za_392, za_393, zb_396, za_397, za_398, za_399, za_400, za_401, zb_738, za_739, za_740, za_741, za_742, za_743, za_744, za_745, za_746, za_747, zb_748, za_749, za_750, zb_751, zb_752, za_753, za_754, za_755, za_756, zb_757, za_758, za_759, za_760, zb_761, za_763, za_764, za_765, true_and, and_true, Nat.reduceAdd]
      rw [c2, show Int32.toNatClampNeg 0 = 0 from rfl]
      generalize hM1 : zm_wi (zm_wi M 757 3 (nI sz)) 757 2 (nI path.length) = M1
      have f1 : zf [757] M M1 := by rw [← hM1]; exact zf_wi (zf_wi zf_refl (by decide)) (by decide)
      have g1 : zg 757 [2, 3] M M1 := by rw [← hM1]; exact zg_wi (zg_wi zg_refl (by decide)) (by decide)
      have r1 : M1.2.2 = M.2.2 := by rw [← hM1]; rfl
      have s3 : M1.1 757 3 = nI sz := by rw [← hM1, zm_wi_same, if_neg (by decide), zm_wi_same, if_pos rfl]
      have s2 : M1.1 757 2 = nI path.length := by rw [← hM1, zm_wi_same, if_pos rfl]
      generalize hM2 : zm_wa M1 759 (va_cpy (M1.1 760) (M1.1 759) 0 0 path.length) = M2
      have f2 : zf [757, 759] M M2 := by rw [← hM2]; exact zf_wa (zf_sub f1 (by simp)) (by decide)
      have e57 : M2.1 757 = M1.1 757 := by rw [← hM2]; exact zm_wa_other (by decide)
      have r2 : M2.2.2 = M.2.2 := by rw [← hM2]; exact r1
      have F2 : zP_f n b pr cs fr to dd D lw M2 := by
        refine ⟨zc_s9_f h9 f2 (by decide) (by decide) (by decide) (by decide), fun i hi => by rw [(f2 21 (by decide)).1]; exact hcs i hi, by rw [e57, g1 8 (by decide)]; exact h8', by rw [e57, g1 9 (by decide)]; exact h9', by rw [e57, g1 10 (by decide)]; exact h10, by rw [r2]; exact h7, by rw [(f2 749 (by decide)).1]; exact d0, by rw [(f2 749 (by decide)).1]; exact d7, by rw [(f2 749 (by decide)).1]; exact d8, fun i hi => by rw [(f2 749 (by decide)).1]; exact hN i hi, ?_⟩
        rcases hlw with h | ⟨L, a1, a2, a3⟩
        · exact Or.inl h
        · refine Or.inr ⟨L, a1, a2, zl_law_c a3 (fun j x y => (f2 _ ?_).1)⟩
          have := a2.1
          simp; omega
      refine q M2 F2 (fun x hx => by rw [(f2 758 (by decide)).1]; exact hd x hx) (fun i hi => by rw [(f2 760 (by decide)).1]; exact hpp i hi) ?_ ⟨zf_sub f2 (by simp), fun j hj => by rw [e57]; exact g1 j hj, by rw [r2]⟩
      simp only [zr_dfs]
      rw [if_pos heq, tk]
      refine ⟨by rw [e57]; exact s3, by rw [e57]; exact s2, by show sz ≤ 10000; omega, by show path.length ≤ 9; omega, fun i hi => ?_⟩
      have hi : i < path.length := hi
      rw [← hM2, zm_wa_same, pk_cpy_in (Nat.zero_le _) (by omega), Nat.zero_add, Nat.sub_zero, (f1 760 (by decide)).1]
      exact hpp i hi
  | succ f ih =>
    intro p sz path best M hF hd hp hsz hrk hpl hpp hpb Q q
    refine zX3_walk hE rfl (fun G h0 h40 h41 h48 h51 h126 h127 h133 h139 => ?_)
    show G 0 [some (.ref 757), some (.int (nI p)), some (.int (nI sz)), some (.int (nI path.length)), none, none] [] M
    have hF0 := hF
    obtain ⟨h9, hcs, h8', h9', h10, h7, d0, d7, d8, hN, hlw⟩ := hF
    have hw : zt_wf n b := zt_wf_c h9.1.1 h9.2.2.1
    have hn := hw.1
    have hdi := zr_ds_i (b := b) (cs := cs) hn hto
    obtain ⟨p1, p2, p3, p4, p5⟩ := hpb
    have ep : (nI p = nI to) = (p = to) := propext (nI_eq (by omega) (by omega))
    have es : (nI best.1 ≤ nI sz) = (best.1 ≤ sz) := propext (nI_leI (by omega) (by omega))
    have r40 : zr_tk sz path best = best → p = to → G 40 [some (.ref 757), some (.int (nI p)), some (.int (nI sz)), some (.int (nI path.length)), none, none] [] M := by
      intro ht hpt
      refine h40 _ _ _ ?_
      simp only [bX3_walk_40, zw_0, zw_1, zs_return, zn_int, zn_b0, zn_b1, zb_15, zb_16, zb_17, za_18, za_19, za_20, za_21, za_22, zb_23, za_24, za_25, za_26, za_27, za_28, za_29, za_30, za_31, za_32, zb_35, za_36, za_37, za_38, za_39, za_40, zb_377, zb_378, za_379, za_380, za_381, za_382, za_383, zb_384, za_385, za_386, za_387, za_388, za_389, za_390, za_391, za_392, za_393, zb_396, za_397, za_398, za_399, za_400, za_401, zb_738, za_739, za_740, za_741, za_742, za_743, za_744, za_745, za_746, za_747, zb_748, za_749, za_750, zb_751, zb_752, za_753, za_754, za_755, za_756, zb_757, za_758, za_759, za_760, zb_761, za_763, za_764, za_765, true_and, and_true, Nat.reduceAdd]
      refine q M hF0 hd hpp ?_ zP_w_refl
      simp only [zr_dfs]
      rw [if_pos hpt, ht]
      exact ⟨p1, p2, p3, p4, p5⟩
    refine h0 _ _ _ ?_
    simp only [bX3_walk_0, zw_0, zw_1, zs_iloadn1, zs_aloadn0, zs_aloadNn0, zg_3_35, zs_icne, zs_iloadn2, zg_3_22, zs_icge, zq_3_22, zs_iloadn3, zq_3_18, zg_3_25, zs_iconst, zg_3_15, zi_3_96, zh_0, zh_1, zh_2, zh_3, zh_4, zt_i, zt_l, zt_r, zt_n, zb_15, zb_16, zb_17, za_18, za_19, za_20, za_21, za_22, zb_23, za_24, za_25, za_26, za_27, za_28, za_29, za_30, za_31, za_32, zb_35, za_36, za_37, za_38, za_39, za_40, zb_377, zb_378, za_379, za_380, za_381, za_382, za_383, zb_384, za_385, za_386, za_387, za_388, za_389, za_390, za_391, za_392, za_393, zb_396, za_397, za_398, za_399, za_400, za_401, zb_738, za_739, za_740, za_741, za_742, za_743, za_744, za_745, za_746, za_747, zb_748, za_749, za_750, zb_751, zb_752, za_753, za_754, za_755, za_756, zb_757, za_758, za_759, za_760, zb_761, za_763, za_764, za_765, true_and, and_true, Nat.reduceAdd, h9', ep, p1, es]
    refine ⟨fun hne => ?_, fun heq => ⟨fun hge => r40 (by unfold zr_tk; rw [if_neg (by omega)]) heq, fun hlt => ?_⟩⟩
    · refine h41 _ _ _ ?_
      simp only [bX3_walk_41, zw_0, zw_1, zs_iloadn3, zs_bipush, zs_iclt, zs_return, zn_int, zn_b0, zn_b1, zb_15, zb_16, zb_17, za_18, za_19, za_20, za_21, za_22, zb_23, za_24, za_25, za_26, za_27, za_28, za_29, za_30, za_31, za_32, zb_35, za_36, za_37, za_38, za_39, za_40, zb_377, zb_378, za_379, za_380, za_381, za_382, za_383, zb_384, za_385, za_386, za_387, za_388, za_389, za_390, za_391, za_392, za_393, zb_396, za_397, za_398, za_399, za_400, za_401, zb_738, za_739, za_740, za_741, za_742, za_743, za_744, za_745, za_746, za_747, zb_748, za_749, za_750, zb_751, zb_752, za_753, za_754, za_755, za_756, zb_757, za_758, za_759, za_760, zb_761, za_763, za_764, za_765, true_and, and_true, Nat.reduceAdd]
      refine ⟨fun _ => ?_, fun h => absurd (nI_lt (b := 10) (by omega) (by decide)) h⟩
      refine h48 _ _ _ ?_
      simp only [bX3_walk_48, zw_0, zw_1, zs_iconst, zs_istore4, zc_none, zc_int, zc_ref, zc_null, zc_long, zb_15, zb_16, zb_17, za_18, za_19, za_20, za_21, za_22, zb_23, za_24, za_25, za_26, za_27, za_28, za_29, za_30, za_31, za_32, zb_35, za_36, za_37, za_38, za_39, za_40, zb_377, zb_378, za_379, za_380, za_381, za_382, za_383, zb_384, za_385, za_386, za_387, za_388, za_389, za_390, za_391, za_392, za_393, zb_396, za_397, za_398, za_399, za_400, za_401, zb_738, za_739, za_740, za_741, za_742, za_743, za_744, za_745, za_746, za_747, zb_748, za_749, za_750, zb_751, zb_752, za_753, za_754, za_755, za_756, zb_757, za_758, za_759, za_760, zb_761, za_763, za_764, za_765, true_and, and_true, Nat.reduceAdd]
      have vp : vp_in (nI p) 10 := vp_in_nI (by omega) (by decide)
      have vp2 : (nI p).toNatClampNeg = p := nI_clamp (by omega)
      have loop : ∀ (g k : Nat) (bst : Nat × List Nat) (M1 : zm_M) (l5 : Option Value), k + g = n → zP_f n b pr cs fr to dd D lw M1 → zP_dy n (zr_ds n b cs to) M1 → zP_p path M1 → zP_b bst M1 → zP_w M M1 → zr_lp (fun e bst => if zr_ok (zr_c b cs to) (zr_ds n b cs to) p e then zr_dfs n to (zr_ok (zr_c b cs to) (zr_ds n b cs to)) (zr_gr n b pr D (nI dd) fr to) f e (zr_gr n b pr D (nI dd) fr to p e sz) (path ++ [e]) bst else bst) g k bst = zr_lp (fun e bst => if zr_ok (zr_c b cs to) (zr_ds n b cs to) p e then zr_dfs n to (zr_ok (zr_c b cs to) (zr_ds n b cs to)) (zr_gr n b pr D (nI dd) fr to) f e (zr_gr n b pr D (nI dd) fr to p e sz) (path ++ [e]) bst else bst) n 0 best → G 51 [some (.ref 757), some (.int (nI p)), some (.int (nI sz)), some (.int (nI path.length)), some (.int (nI k)), l5] [] M1 := by
        intro g
        induction g with
        | zero =>
          intro k bst M1 l5 hk F1 d1 pp1 pb1 w1 e
          have m17 : M1.1 17 0 = nI n := F1.1.2.1
          refine h51 _ _ _ ?_
          simp only [bX3_walk_51, zw_0, zw_1, zs_iload4, zs_aloadn0, zs_aloadNn0, zg_3_41, zg_3_73, zs_icge, zs_iloadn1, zi_3_76, zs_istore5, zs_iload5, zs_sipush, zg_3_9, zs_iaload, zs_iadd, zs_icne, zg_3_25, zs_iloadn3, zs_iastore, zs_iconst, zs_iloadn2, zi_3_102, zs_goto, zc_none, zc_int, zc_ref, zc_null, zc_long, zh_0, zh_1, zh_2, zh_3, zh_4, zt_i, zt_l, zt_r, zt_n, zb_15, zb_16, zb_17, za_18, za_19, za_20, za_21, za_22, zb_23, za_24, za_25, za_26, za_27, za_28, za_29, za_30, za_31, za_32, zb_35, za_36, za_37, za_38, za_39, za_40, zb_377, zb_378, za_379, za_380, za_381, za_382, za_383, zb_384, za_385, za_386, za_387, za_388, za_389, za_390, za_391, za_392, za_393, zb_396, za_397, za_398, za_399, za_400, za_401, zb_738, za_739, za_740, za_741, za_742, za_743, za_744, za_745, za_746, za_747, zb_748, za_749, za_750, zb_751, zb_752, za_753, za_754, za_755, za_756, zb_757, za_758, za_759, za_760, zb_761, za_763, za_764, za_765, zu_0, zu_1, zu_2, zu_3, zu_4, zu_5, zu_6, zu_7, zu_8, zu_9, zu_10, zu_11, zu_12, zu_13, zu_14, zu_15, zu_16, zu_17, zu_18, zu_19, zu_20, zu_21, zu_22, zu_23, zu_24, zu_25, zu_26, zu_27, zu_28, zu_29, zu_30, zu_90, zv_0_9, zv_1_9, zv_2_9, zv_3_9, zv_4_9, zv_5_9, zv_6_9, zv_7_9, zv_8_9, zv_0_330, zv_0_4544, zv_1_4544, zv_2_4544, zv_3_4544, zv_4_4544, zv_5_4544, zv_6_4544, zv_7_4544, zv_8_4544, zv_9_4544, zv_10_4544, zv_11_4544, zv_12_4544, zv_13_4544, zv_14_4544, zv_15_4544, zv_16_4544, zv_17_4544, zv_18_4544, zv_19_4544, zv_20_4544, zv_21_4544, zv_22_4544, zv_23_4544, zv_24_4544, zv_25_4544, zv_26_4544, zv_27_4544, zv_28_4544, zv_29_4544, zv_0_11, zv_1_11, zv_0_160, true_and, and_true, Nat.reduceAdd, m17]
          refine ⟨fun _ => ?_, fun h => absurd (nI_le (by omega) (by omega)) h⟩
          refine h139 _ _ _ ?_
          simp only [bX3_walk_139, zw_0, zw_1, zs_return, zn_int, zn_b0, zn_b1, zb_15, zb_16, zb_17, za_18, za_19, za_20, za_21, za_22, zb_23, za_24, za_25, za_26, za_27, za_28, za_29, za_30, za_31, za_32, zb_35, za_36, za_37, za_38, za_39, za_40, zb_377, zb_378, za_379, za_380, za_381, za_382, za_383, zb_384, za_385, za_386, za_387, za_388, za_389, za_390, za_391, za_392, za_393, zb_396, za_397, za_398, za_399, za_400, za_401, zb_738, za_739, za_740, za_741, za_742, za_743, za_744, za_745, za_746, za_747, zb_748, za_749, za_750, zb_751, zb_752, za_753, za_754, za_755, za_756, zb_757, za_758, za_759, za_760, zb_761, za_763, za_764, za_765, true_and, and_true, Nat.reduceAdd]
          refine q M1 F1 d1 pp1 ?_ w1
          simp only [zr_dfs]
          rw [if_neg hne]
          rw [← e]; exact pb1
        | succ g ihg =>
          intro k bst M1 l5 hk F1 d1 pp1 pb1 w1 e
          have m17 : M1.1 17 0 = nI n := F1.1.2.1
          have vk : vp_in (nI k) 10 := vp_in_nI (by omega) (by decide)
          have vk2 : (nI k).toNatClampNeg = k := nI_clamp (by omega)
          have dk := d1 k (by omega)
          have dp := d1 p hp
          have c2 := zr_c_2 b cs to p k
          have bk := hdi.1 k
          have bp := hdi.1 p
          have skip : ∀ (l5 : Option Value), zr_ok (zr_c b cs to) (zr_ds n b cs to) p k = false → G 133 [some (.ref 757), some (.int (nI p)), some (.int (nI sz)), some (.int (nI path.length)), some (.int (nI k)), l5] [] M1 := by
            intro l5 hno
            refine h133 _ _ _ ?_
            simp only [bX3_walk_133, zw_0, zw_1, zs_iinc4, zs_goto, zc_none, zc_int, zc_ref, zc_null, zc_long, zb_15, zb_16, zb_17, za_18, za_19, za_20, za_21, za_22, zb_23, za_24, za_25, za_26, za_27, za_28, za_29, za_30, za_31, za_32, zb_35, za_36, za_37, za_38, za_39, za_40, zb_377, zb_378, za_379, za_380, za_381, za_382, za_383, zb_384, za_385, za_386, za_387, za_388, za_389, za_390, za_391, za_392, za_393, zb_396, za_397, za_398, za_399, za_400, za_401, zb_738, za_739, za_740, za_741, za_742, za_743, za_744, za_745, za_746, za_747, zb_748, za_749, za_750, zb_751, zb_752, za_753, za_754, za_755, za_756, zb_757, za_758, za_759, za_760, zb_761, za_763, za_764, za_765, true_and, and_true, Nat.reduceAdd, nI_1]
            refine ihg (k + 1) bst M1 _ (by omega) F1 d1 pp1 pb1 w1 ?_
            simp only [zr_lp] at e
            rw [if_neg (by rw [hno]; decide)] at e
            exact e
          refine h51 _ _ _ ?_
          simp only [bX3_walk_51, zw_0, zw_1, zs_iload4, zs_aloadn0, zs_aloadNn0, zg_3_41, zg_3_73, zs_icge, zs_iloadn1, zi_3_76, zs_istore5, zs_iload5, zs_sipush, zg_3_9, zs_iaload, zs_iadd, zs_icne, zg_3_25, zs_iloadn3, zs_iastore, zs_iconst, zs_iloadn2, zi_3_102, zs_goto, zc_none, zc_int, zc_ref, zc_null, zc_long, zh_0, zh_1, zh_2, zh_3, zh_4, zt_i, zt_l, zt_r, zt_n, zb_15, zb_16, zb_17, za_18, za_19, za_20, za_21, za_22, zb_23, za_24, za_25, za_26, za_27, za_28, za_29, za_30, za_31, za_32, zb_35, za_36, za_37, za_38, za_39, za_40, zb_377, zb_378, za_379, za_380, za_381, za_382, za_383, zb_384, za_385, za_386, za_387, za_388, za_389, za_390, za_391, za_392, za_393, zb_396, za_397, za_398, za_399, za_400, za_401, zb_738, za_739, za_740, za_741, za_742, za_743, za_744, za_745, za_746, za_747, zb_748, za_749, za_750, zb_751, zb_752, za_753, za_754, za_755, za_756, zb_757, za_758, za_759, za_760, zb_761, za_763, za_764, za_765, zu_0, zu_1, zu_2, zu_3, zu_4, zu_5, zu_6, zu_7, zu_8, zu_9, zu_10, zu_11, zu_12, zu_13, zu_14, zu_15, zu_16, zu_17, zu_18, zu_19, zu_20, zu_21, zu_22, zu_23, zu_24, zu_25, zu_26, zu_27, zu_28, zu_29, zu_30, zu_90, zv_0_9, zv_1_9, zv_2_9, zv_3_9, zv_4_9, zv_5_9, zv_6_9, zv_7_9, zv_8_9, zv_0_330, zv_0_4544, zv_1_4544, zv_2_4544, zv_3_4544, zv_4_4544, zv_5_4544, zv_6_4544, zv_7_4544, zv_8_4544, zv_9_4544, zv_10_4544, zv_11_4544, zv_12_4544, zv_13_4544, zv_14_4544, zv_15_4544, zv_16_4544, zv_17_4544, zv_18_4544, zv_19_4544, zv_20_4544, zv_21_4544, zv_22_4544, zv_23_4544, zv_24_4544, zv_25_4544, zv_26_4544, zv_27_4544, zv_28_4544, zv_29_4544, zv_0_11, zv_1_11, zv_0_160, true_and, and_true, Nat.reduceAdd, m17]
          refine ⟨fun h => absurd h (nI_ge (by omega) (by omega)), fun _ => ?_⟩
          refine zm_R_eq (c3_stepDays hE (d + (f + 1) + 2) (b := b) (pr := pr) (cs := cs) F1.1 F1.2.1 hto hp (by omega) F1.2.2.2.2.1) ?_
          have kk : zr_k (zr_c b cs to p k) ≤ 1000 := by unfold zr_k; split <;> omega
          have c1000 : ((1000 : Int32) ≤ nI (zr_k (zr_c b cs to p k))) = (zr_c b cs to p k = 0) := by
            refine propext ⟨fun z => ?_, fun z => by rw [z]; decide⟩
            have := (nI_leI (a := 1000) (b := zr_k (zr_c b cs to p k)) (by decide) (by omega)).mp z
            unfold zr_k at this
            split at this <;> omega
          simp only [bX3_walk_51, zw_0, zw_1, zs_iload4, zs_aloadn0, zs_aloadNn0, zg_3_41, zg_3_73, zs_icge, zs_iloadn1, zi_3_76, zs_istore5, zs_iload5, zs_sipush, zg_3_9, zs_iaload, zs_iadd, zs_icne, zg_3_25, zs_iloadn3, zs_iastore, zs_iconst, zs_iloadn2, zi_3_102, zs_goto, zc_none, zc_int, zc_ref, zc_null, zc_long, zh_0, zh_1, zh_2, zh_3, zh_4, zt_i, zt_l, zt_r, zt_n, zb_15, zb_16, zb_17, za_18, za_19, za_20, za_21, za_22, zb_23, za_24, za_25, za_26, za_27, za_28, za_29, za_30, za_31, za_32, zb_35, za_36, za_37, za_38, za_39, za_40, zb_377, zb_378, za_379, za_380, za_381, za_382, za_383, zb_384, za_385, za_386, za_387, za_388, za_389, za_390, za_391, za_392, za_393, zb_396, za_397, za_398, za_399, za_400, za_401, zb_738, za_739, za_740, za_741, za_742, za_743, za_744, za_745, za_746, za_747, zb_748, za_749, za_750, zb_751, zb_752, za_753, za_754, za_755, za_756, zb_757, za_758, za_759, za_760, zb_761, za_763, za_764, za_765, zu_0, zu_1, zu_2, zu_3, zu_4, zu_5, zu_6, zu_7, zu_8, zu_9, zu_10, zu_11, zu_12, zu_13, zu_14, zu_15, zu_16, zu_17, zu_18, zu_19, zu_20, zu_21, zu_22, zu_23, zu_24, zu_25, zu_26, zu_27, zu_28, zu_29, zu_30, zu_90, zv_0_9, zv_1_9, zv_2_9, zv_3_9, zv_4_9, zv_5_9, zv_6_9, zv_7_9, zv_8_9, zv_0_330, zv_0_4544, zv_1_4544, zv_2_4544, zv_3_4544, zv_4_4544, zv_5_4544, zv_6_4544, zv_7_4544, zv_8_4544, zv_9_4544, zv_10_4544, zv_11_4544, zv_12_4544, zv_13_4544, zv_14_4544, zv_15_4544, zv_16_4544, zv_17_4544, zv_18_4544, zv_19_4544, zv_20_4544, zv_21_4544, zv_22_4544, zv_23_4544, zv_24_4544, zv_25_4544, zv_26_4544, zv_27_4544, zv_28_4544, zv_29_4544, zv_0_11, zv_1_11, zv_0_160, true_and, and_true, Nat.reduceAdd, c1000, vk, vk2, dk, vp, vp2, dp]
          refine ⟨fun hz => skip _ (by unfold zr_ok; exact decide_eq_false (by omega)), fun hz => ?_⟩
          have ek : zr_k (zr_c b cs to p k) = zr_c b cs to p k := by unfold zr_k; rw [if_neg hz]
          have eqd : (nI (zr_ds n b cs to k) + nI (zr_c b cs to p k) = nI (zr_ds n b cs to p)) = (zr_ds n b cs to k + zr_c b cs to p k = zr_ds n b cs to p) := by
            rw [nI_add]; exact propext (nI_eq (by omega) (by omega))
          rw [ek, eqd]
          refine ⟨fun hnd => skip _ (by unfold zr_ok; exact decide_eq_false (fun z => hnd z.2)), fun hyd => ?_⟩
          have hok : zr_ok (zr_c b cs to) (zr_ds n b cs to) p k = true := by unfold zr_ok; exact decide_eq_true ⟨by omega, hyd⟩
          have hrk' := (zr_ok_of (n := n) (by omega) hok).2.2
          have vl : vp_in (nI path.length) 10 := vp_in_nI (by omega) (by decide)
          have vl2 : (nI path.length).toNatClampNeg = path.length := nI_clamp (by omega)
          have e1 : (nI (zr_c b cs to p k) = 1) = (zr_c b cs to p k = 1) := propext (nI_eq (b := 1) (by omega) (by decide))
          rw [vl2, e1]
          refine ⟨vl, ?_⟩
          generalize hM2 : zm_wi M1 760 path.length (nI k) = M2
          have f2 : zf [760] M1 M2 := by rw [← hM2]; exact zf_wi zf_refl (by decide)
          have F2 := zP_f_f F1 f2 (by simp)
          have w2 : zP_w M1 M2 := ⟨zf_sub f2 (by simp), zg_of f2 (by decide), by rw [(f2 757 (by decide)).2.2]⟩
          have pp2 : zP_p (path ++ [k]) M2 := by
            intro i hi
            simp at hi
            rw [← hM2, zm_wi_same]
            by_cases c : i = path.length
            · subst c
              rw [if_pos rfl]
              simp
            · rw [if_neg c, pp1 i (by omega)]
              congr 1
              rw [List.getD_eq_getElem?_getD, List.getD_eq_getElem?_getD, List.getElem?_append_left (by omega)]
          have pb2 : zP_b bst M2 := by
            obtain ⟨x1, x2, x3, x4, x5⟩ := pb1
            exact ⟨by rw [(f2 757 (by decide)).1]; exact x1, by rw [(f2 757 (by decide)).1]; exact x2, x3, x4, fun i hi => by rw [(f2 759 (by decide)).1]; exact x5 i hi⟩
          have go : ∀ (M3 : zm_M) (s3 : Nat), s3 = zr_gr n b pr D (nI dd) fr to p k sz → zP_f n b pr cs fr to dd D lw M3 → zP_dy n (zr_ds n b cs to) M3 → zP_p (path ++ [k]) M3 → zP_b bst M3 → zP_w M M3 → G 127 [some (.ref 757), some (.int (nI p)), some (.int (nI sz)), some (.int (nI path.length)), some (.int (nI k)), some (.int (nI (zr_c b cs to p k)))] [.int (nI s3), .int (nI k), .ref 757] M3 := by
            intro M3 s3 hs3 F3 d3 pp3 pb3 w3
            refine h127 _ _ _ ?_
            simp only [bX3_walk_127, zw_0, zw_1, zs_iloadn3, zs_iconst, zs_iadd, zi_3_63, zh_0, zh_1, zh_2, zh_3, zh_4, zt_i, zt_l, zt_r, zt_n, zb_15, zb_16, zb_17, za_18, za_19, za_20, za_21, za_22, zb_23, za_24, za_25, za_26, za_27, za_28, za_29, za_30, za_31, za_32, zb_35, za_36, za_37, za_38, za_39, za_40, zb_377, zb_378, za_379, za_380, za_381, za_382, za_383, zb_384, za_385, za_386, za_387, za_388, za_389, za_390, za_391, za_392, za_393, zb_396, za_397, za_398, za_399, za_400, za_401, zb_738, za_739, za_740, za_741, za_742, za_743, za_744, za_745, za_746, za_747, zb_748, za_749, za_750, zb_751, zb_752, za_753, za_754, za_755, za_756, zb_757, za_758, za_759, za_760, zb_761, za_763, za_764, za_765, true_and, and_true, Nat.reduceAdd, nI_1]
            have ll : (path ++ [k]).length = path.length + 1 := by simp
            rw [← ll]
            refine ih k s3 (path ++ [k]) bst M3 F3 d3 (by omega) (by rw [hs3]; exact zr_gr_in hsz) (by omega) (by rw [ll]; omega) pp3 pb3 (fun M4 F4 d4 pp4 pb4 w4 => ?_)
            simp only [bX3_walk_127, zw_0, zw_1, zs_iloadn3, zs_iconst, zs_iadd, zi_3_63, zh_0, zh_1, zh_2, zh_3, zh_4, zt_i, zt_l, zt_r, zt_n, zb_15, zb_16, zb_17, za_18, za_19, za_20, za_21, za_22, zb_23, za_24, za_25, za_26, za_27, za_28, za_29, za_30, za_31, za_32, zb_35, za_36, za_37, za_38, za_39, za_40, zb_377, zb_378, za_379, za_380, za_381, za_382, za_383, zb_384, za_385, za_386, za_387, za_388, za_389, za_390, za_391, za_392, za_393, zb_396, za_397, za_398, za_399, za_400, za_401, zb_738, za_739, za_740, za_741, za_742, za_743, za_744, za_745, za_746, za_747, zb_748, za_749, za_750, zb_751, zb_752, za_753, za_754, za_755, za_756, zb_757, za_758, za_759, za_760, zb_761, za_763, za_764, za_765, true_and, and_true, Nat.reduceAdd]
            refine h133 _ _ _ ?_
            simp only [bX3_walk_133, zw_0, zw_1, zs_iinc4, zs_goto, zc_none, zc_int, zc_ref, zc_null, zc_long, zb_15, zb_16, zb_17, za_18, za_19, za_20, za_21, za_22, zb_23, za_24, za_25, za_26, za_27, za_28, za_29, za_30, za_31, za_32, zb_35, za_36, za_37, za_38, za_39, za_40, zb_377, zb_378, za_379, za_380, za_381, za_382, za_383, zb_384, za_385, za_386, za_387, za_388, za_389, za_390, za_391, za_392, za_393, zb_396, za_397, za_398, za_399, za_400, za_401, zb_738, za_739, za_740, za_741, za_742, za_743, za_744, za_745, za_746, za_747, zb_748, za_749, za_750, zb_751, zb_752, za_753, za_754, za_755, za_756, zb_757, za_758, za_759, za_760, zb_761, za_763, za_764, za_765, true_and, and_true, Nat.reduceAdd, nI_1]
            refine ihg (k + 1) _ M4 _ (by omega) F4 d4 (fun i hi => ?_) pb4 (zP_w_trans w3 w4) ?_
            · have := pp4 i (by rw [ll]; omega)
              rw [this]
              congr 1
              rw [List.getD_eq_getElem?_getD, List.getD_eq_getElem?_getD, List.getElem?_append_left (by omega)]
            · simp only [zr_lp] at e
              rw [if_pos hok, ← hs3] at e
              exact e
          refine ⟨fun hc1 => ?_, fun hc1 => ?_⟩
          · refine h126 _ _ _ ?_
            simp only [bX3_walk_126, zw_0, zw_1, zs_iloadn2, zb_15, zb_16, zb_17, za_18, za_19, za_20, za_21, za_22, zb_23, za_24, za_25, za_26, za_27, za_28, za_29, za_30, za_31, za_32, zb_35, za_36, za_37, za_38, za_39, za_40, zb_377, zb_378, za_379, za_380, za_381, za_382, za_383, zb_384, za_385, za_386, za_387, za_388, za_389, za_390, za_391, za_392, za_393, zb_396, za_397, za_398, za_399, za_400, za_401, zb_738, za_739, za_740, za_741, za_742, za_743, za_744, za_745, za_746, za_747, zb_748, za_749, za_750, zb_751, zb_752, za_753, za_754, za_755, za_756, zb_757, za_758, za_759, za_760, zb_761, za_763, za_764, za_765, true_and, and_true, Nat.reduceAdd]
            refine go M2 sz ?_ F2 (fun x hx => by rw [(f2 758 (by decide)).1]; exact d1 x hx) pp2 pb2 (zP_w_trans w1 w2)
            unfold zr_gr
            rw [if_neg (fun z => hc1 (by rw [zr_c_1 (by omega)]; exact z))]
          · refine c3_grown hE (d + (f + 1)) F2 hD (by omega) hsz hfr hto hdd (fun M3 F3 f3 => ?_)
            simp only [bX3_walk_51, zw_0, zw_1, zs_iload4, zs_aloadn0, zs_aloadNn0, zg_3_41, zg_3_73, zs_icge, zs_iloadn1, zi_3_76, zs_istore5, zs_iload5, zs_sipush, zg_3_9, zs_iaload, zs_iadd, zs_icne, zg_3_25, zs_iloadn3, zs_iastore, zs_iconst, zs_iloadn2, zi_3_102, zs_goto, zc_none, zc_int, zc_ref, zc_null, zc_long, zh_0, zh_1, zh_2, zh_3, zh_4, zt_i, zt_l, zt_r, zt_n, zb_15, zb_16, zb_17, za_18, za_19, za_20, za_21, za_22, zb_23, za_24, za_25, za_26, za_27, za_28, za_29, za_30, za_31, za_32, zb_35, za_36, za_37, za_38, za_39, za_40, zb_377, zb_378, za_379, za_380, za_381, za_382, za_383, zb_384, za_385, za_386, za_387, za_388, za_389, za_390, za_391, za_392, za_393, zb_396, za_397, za_398, za_399, za_400, za_401, zb_738, za_739, za_740, za_741, za_742, za_743, za_744, za_745, za_746, za_747, zb_748, za_749, za_750, zb_751, zb_752, za_753, za_754, za_755, za_756, zb_757, za_758, za_759, za_760, zb_761, za_763, za_764, za_765, zu_0, zu_1, zu_2, zu_3, zu_4, zu_5, zu_6, zu_7, zu_8, zu_9, zu_10, zu_11, zu_12, zu_13, zu_14, zu_15, zu_16, zu_17, zu_18, zu_19, zu_20, zu_21, zu_22, zu_23, zu_24, zu_25, zu_26, zu_27, zu_28, zu_29, zu_30, zu_90, zv_0_9, zv_1_9, zv_2_9, zv_3_9, zv_4_9, zv_5_9, zv_6_9, zv_7_9, zv_8_9, zv_0_330, zv_0_4544, zv_1_4544, zv_2_4544, zv_3_4544, zv_4_4544, zv_5_4544, zv_6_4544, zv_7_4544, zv_8_4544, zv_9_4544, zv_10_4544, zv_11_4544, zv_12_4544, zv_13_4544, zv_14_4544, zv_15_4544, zv_16_4544, zv_17_4544, zv_18_4544, zv_19_4544, zv_20_4544, zv_21_4544, zv_22_4544, zv_23_4544, zv_24_4544, zv_25_4544, zv_26_4544, zv_27_4544, zv_28_4544, zv_29_4544, zv_0_11, zv_1_11, zv_0_160, true_and, and_true, Nat.reduceAdd]
            have w3 : zP_w M2 M3 := ⟨zf_sub f3 (by simp), zg_of f3 (by decide), by rw [(f3 757 (by decide)).2.2]⟩
            refine go M3 _ ?_ F3 (fun x hx => by rw [(f3 758 (by decide)).1, (f2 758 (by decide)).1]; exact d1 x hx) (fun i hi => by rw [(f3 760 (by decide)).1]; exact pp2 i hi) ?_ (zP_w_trans w1 (zP_w_trans w2 w3))
            · have z1 := zr_c_1 (b := b) (cs := cs) (to := to) (p := p) (e := k) (by omega)
              rw [z1] at hc1
              unfold zr_gr
              rw [if_pos hc1]
            · obtain ⟨x1, x2, x3, x4, x5⟩ := pb2
              exact ⟨by rw [(f3 757 (by decide)).1]; exact x1, by rw [(f3 757 (by decide)).1]; exact x2, x3, x4, fun i hi => by rw [(f3 759 (by decide)).1]; exact x5 i hi⟩
      exact loop n 0 best M none (by omega) hF0 hd hpp ⟨p1, p2, p3, p4, p5⟩ zP_w_refl rfl
    · have tk : zr_tk sz path best = (sz, path) := by unfold zr_tk; rw [if_pos (by omega)]
      have lp : zy_ly 760 = (100, 10) := by decide +kernel
      have lb : zy_ly 759 = (100, 10) := by decide +kernel
      have c2 : (nI path.length).toNatClampNeg = path.length := nI_clamp (by omega)
      refine ⟨⟨10, 10, ⟨by decide, lp⟩, ⟨by decide, lb⟩, by decide, by decide, nI_pos (by omega), by rw [c2]; show 0 + path.length ≤ 10; omega, by rw [c2]; show 0 + path.length ≤ 10; omega⟩, ?_⟩
      refine h40 _ _ _ ?_
      simp only [bX3_walk_40, zw_0, zw_1, zs_return, zn_int, zn_b0, zn_b1, zb_15, zb_16, zb_17, za_18, za_19, za_20, za_21, za_22, zb_23, za_24, za_25, za_26, za_27, za_28, za_29, za_30, za_31, za_32, zb_35, za_36, za_37, za_38, za_39, za_40, zb_377, zb_378, za_379, za_380, za_381, za_382, za_383, zb_384, za_385, za_386, za_387, za_388, za_389, za_390, za_391, za_392, za_393, zb_396, za_397, za_398, za_399, za_400, za_401, zb_738, za_739, za_740, za_741, za_742, za_743, za_744, za_745, za_746, za_747, zb_748, za_749, za_750, zb_751, zb_752, za_753, za_754, za_755, za_756, zb_757, za_758, za_759, za_760, zb_761, za_763, za_764, za_765, true_and, and_true, Nat.reduceAdd]
      rw [c2, show Int32.toNatClampNeg 0 = 0 from rfl]
      generalize hM1 : zm_wi (zm_wi M 757 3 (nI sz)) 757 2 (nI path.length) = M1
      have f1 : zf [757] M M1 := by rw [← hM1]; exact zf_wi (zf_wi zf_refl (by decide)) (by decide)
      have g1 : zg 757 [2, 3] M M1 := by rw [← hM1]; exact zg_wi (zg_wi zg_refl (by decide)) (by decide)
      have r1 : M1.2.2 = M.2.2 := by rw [← hM1]; rfl
      have s3 : M1.1 757 3 = nI sz := by rw [← hM1, zm_wi_same, if_neg (by decide), zm_wi_same, if_pos rfl]
      have s2 : M1.1 757 2 = nI path.length := by rw [← hM1, zm_wi_same, if_pos rfl]
      generalize hM2 : zm_wa M1 759 (va_cpy (M1.1 760) (M1.1 759) 0 0 path.length) = M2
      have f2 : zf [757, 759] M M2 := by rw [← hM2]; exact zf_wa (zf_sub f1 (by simp)) (by decide)
      have e57 : M2.1 757 = M1.1 757 := by rw [← hM2]; exact zm_wa_other (by decide)
      have r2 : M2.2.2 = M.2.2 := by rw [← hM2]; exact r1
      have F2 : zP_f n b pr cs fr to dd D lw M2 := by
        refine ⟨zc_s9_f h9 f2 (by decide) (by decide) (by decide) (by decide), fun i hi => by rw [(f2 21 (by decide)).1]; exact hcs i hi, by rw [e57, g1 8 (by decide)]; exact h8', by rw [e57, g1 9 (by decide)]; exact h9', by rw [e57, g1 10 (by decide)]; exact h10, by rw [r2]; exact h7, by rw [(f2 749 (by decide)).1]; exact d0, by rw [(f2 749 (by decide)).1]; exact d7, by rw [(f2 749 (by decide)).1]; exact d8, fun i hi => by rw [(f2 749 (by decide)).1]; exact hN i hi, ?_⟩
        rcases hlw with h | ⟨L, a1, a2, a3⟩
        · exact Or.inl h
        · refine Or.inr ⟨L, a1, a2, zl_law_c a3 (fun j x y => (f2 _ ?_).1)⟩
          have := a2.1
          simp; omega
      refine q M2 F2 (fun x hx => by rw [(f2 758 (by decide)).1]; exact hd x hx) (fun i hi => by rw [(f2 760 (by decide)).1]; exact hpp i hi) ?_ ⟨zf_sub f2 (by simp), fun j hj => by rw [e57]; exact g1 j hj, by rw [r2]⟩
      simp only [zr_dfs]
      rw [if_pos heq, tk]
      refine ⟨by rw [e57]; exact s3, by rw [e57]; exact s2, by show sz ≤ 10000; omega, by show path.length ≤ 9; omega, fun i hi => ?_⟩
      have hi : i < path.length := hi
      rw [← hM2, zm_wa_same, pk_cpy_in (Nat.zero_le _) (by omega), Nat.zero_add, Nat.sub_zero, (f1 760 (by decide)).1]
      exact hpp i hi
/-- the answer of a route -/
def zr_an (n : Nat) (b pr cs : Nat → Int32) (D : Option zD) (dy : Int32) (fr to : Nat) (i : Int32) : Int32 :=
  if i = -3 then nI (zr_all n b pr cs D dy fr to 10000).1 else if i = -2 then nI (zr_ds n b cs to fr) else if i = -1 then nI (zr_all n b pr cs D dy fr to 10000).2.length else if zo_is (zr_all n b pr cs D dy fr to 10000).2.length i then nI ((zr_all n b pr cs D dy fr to 10000).2.getD i.toNatClampNeg 0) else -4
theorem c3_find {E : zm_E} (hE : zm_ok E.2.2.1 E.2.2.2.2) (d : Nat) {n fr to dd : Nat} {b pr cs : Nat → Int32} {D : Option zD} {lo : Option Nat} {M : zm_M} (h9 : zc_s9 n b pr M) (hcs : ∀ i, i < n → M.1 21 i = cs i) (hN : zN M) (hlo : (lo = none ∧ D = none) ∨ ∃ L, lo = some L ∧ zl_ok L ∧ zl_law M L 0 D) (hD : zDo 0 D) (hfr : fr < n) (hto : to < n) (hdd : dd ≤ 9999) {Q : Option Value → zm_M → Prop} (q : ∀ M', zP_dy n (zr_ds n b cs to) M' → zP_b (zr_all n b pr cs D (nI dd) fr to 10000) M' → zN M' → zf [748, 749, 750, 757, 758, 759, 760] M M' → Q none M') : zm_R E (d + 15) mX3_find [.ref 757, .int (nI fr), .int (nI to), va_rf lo, .int (nI dd)] M Q := by
  have hlw : va_rf lo = .null ∨ ∃ L, va_rf lo = .ref L := by
    cases lo with
    | none => exact Or.inl rfl
    | some L => exact Or.inr ⟨L, rfl⟩
  refine zX3_find hE (by cases lo <;> rfl) (fun G h0 => ?_)
  have st0 : zm_ent [.ref 757, .int (nI fr), .int (nI to), va_rf lo, .int (nI dd)] 5 = [some (.ref 757), some (.int (nI fr)), some (.int (nI to)), some (va_rf lo), some (.int (nI dd))] := by
    cases lo <;> rfl
  rw [st0]
  have hw : zt_wf n b := zt_wf_c h9.1.1 h9.2.2.1
  have hn := hw.1
  generalize hM1 : zm_wr (zm_wi (zm_wi M 757 8 (nI fr)) 757 9 (nI to)) 757 7 lo = M1
  have f1 : zf [757] M M1 := by rw [← hM1]; exact zf_wr (zf_wi (zf_wi zf_refl (by decide)) (by decide)) (by decide)
  have a8 : M1.1 757 8 = nI fr := by
    rw [← hM1]
    show (zm_wi (zm_wi M 757 8 (nI fr)) 757 9 (nI to)).1 757 8 = nI fr
    rw [zm_wi_same, if_neg (by decide), zm_wi_same, if_pos rfl]
  have a9 : M1.1 757 9 = nI to := by
    rw [← hM1]
    show (zm_wi (zm_wi M 757 8 (nI fr)) 757 9 (nI to)).1 757 9 = nI to
    rw [zm_wi_same, if_pos rfl]
  have a7 : M1.2.2 757 7 = lo := by
    rw [← hM1]
    simp only [zm_wr, if_true, va_up]
  have h91 : zc_s9 n b pr M1 := zc_s9_f h9 f1 (by decide) (by decide) (by decide) (by decide)
  refine h0 _ _ _ ?_
  simp only [bX3_find_0, zw_0, zw_1, zs_aloadn0, zs_aloadNn0, zs_iloadn1, zq_3_32, zs_iloadn2, zq_3_35, zs_aloadn3, zs_aloadNn3, zq_3_28, zq_3_28n, zq_3_28v, zg_3_41, zg_3_35, zi_3_49, zs_iconst, zs_ishl, zs_ixor, zs_iand, zq_3_38, zq_3_18, zs_sipush, zq_3_22, zg_3_45, zg_3_55, zs_iload4, zs_iastore, zs_bipush, zi_3_60, zg_3_32, zi_3_63, zs_return, zh_0, zh_1, zh_2, zh_3, zh_4, zt_i, zt_l, zt_r, zt_n, zn_int, zn_b0, zn_b1, zb_15, zb_16, zb_17, za_18, za_19, za_20, za_21, za_22, zb_23, za_24, za_25, za_26, za_27, za_28, za_29, za_30, za_31, za_32, zb_35, za_36, za_37, za_38, za_39, za_40, zb_377, zb_378, za_379, za_380, za_381, za_382, za_383, zb_384, za_385, za_386, za_387, za_388, za_389, za_390, za_391, za_392, za_393, zb_396, za_397, za_398, za_399, za_400, za_401, zb_738, za_739, za_740, za_741, za_742, za_743, za_744, za_745, za_746, za_747, zb_748, za_749, za_750, zb_751, zb_752, za_753, za_754, za_755, za_756, zb_757, za_758, za_759, za_760, zb_761, za_763, za_764, za_765, zu_0, zu_1, zu_2, zu_3, zu_4, zu_5, zu_6, zu_7, zu_8, zu_9, zu_10, zu_11, zu_12, zu_13, zu_14, zu_15, zu_16, zu_17, zu_18, zu_19, zu_20, zu_21, zu_22, zu_23, zu_24, zu_25, zu_26, zu_27, zu_28, zu_29, zu_30, zu_90, zv_0_9, zv_1_9, zv_2_9, zv_3_9, zv_4_9, zv_5_9, zv_6_9, zv_7_9, zv_8_9, zv_0_330, zv_0_4544, zv_1_4544, zv_2_4544, zv_3_4544, zv_4_4544, zv_5_4544, zv_6_4544, zv_7_4544, zv_8_4544, zv_9_4544, zv_10_4544, zv_11_4544, zv_12_4544, zv_13_4544, zv_14_4544, zv_15_4544, zv_16_4544, zv_17_4544, zv_18_4544, zv_19_4544, zv_20_4544, zv_21_4544, zv_22_4544, zv_23_4544, zv_24_4544, zv_25_4544, zv_26_4544, zv_27_4544, zv_28_4544, zv_29_4544, zv_0_11, zv_1_11, zv_0_160, true_and, and_true, Nat.reduceAdd, zs_aloadV3 hlw, hM1, a9]
  refine zm_R_eq (c7_bitsBelow hE (d + 12) h91.1.1 h91.2.1 hto) ?_
  rw [zb_set_e h91.1.1 h91.2.2.1 hto]
  have sh := zx_1s to (by omega)
  have nt := zr_not to (by omega)
  have bl : nI (zb_set (zt_ae b to) n) &&& nI (4294967295 - 2 ^ to) = nI (zr_bl b n to) := nx_and _ _
  simp only [bX3_find_0, zw_0, zw_1, zs_aloadn0, zs_aloadNn0, zs_iloadn1, zq_3_32, zs_iloadn2, zq_3_35, zs_aloadn3, zs_aloadNn3, zq_3_28, zq_3_28n, zq_3_28v, zg_3_41, zg_3_35, zi_3_49, zs_iconst, zs_ishl, zs_ixor, zs_iand, zq_3_38, zq_3_18, zs_sipush, zq_3_22, zg_3_45, zg_3_55, zs_iload4, zs_iastore, zs_bipush, zi_3_60, zg_3_32, zi_3_63, zs_return, zh_0, zh_1, zh_2, zh_3, zh_4, zt_i, zt_l, zt_r, zt_n, zn_int, zn_b0, zn_b1, zb_15, zb_16, zb_17, za_18, za_19, za_20, za_21, za_22, zb_23, za_24, za_25, za_26, za_27, za_28, za_29, za_30, za_31, za_32, zb_35, za_36, za_37, za_38, za_39, za_40, zb_377, zb_378, za_379, za_380, za_381, za_382, za_383, zb_384, za_385, za_386, za_387, za_388, za_389, za_390, za_391, za_392, za_393, zb_396, za_397, za_398, za_399, za_400, za_401, zb_738, za_739, za_740, za_741, za_742, za_743, za_744, za_745, za_746, za_747, zb_748, za_749, za_750, zb_751, zb_752, za_753, za_754, za_755, za_756, zb_757, za_758, za_759, za_760, zb_761, za_763, za_764, za_765, zu_0, zu_1, zu_2, zu_3, zu_4, zu_5, zu_6, zu_7, zu_8, zu_9, zu_10, zu_11, zu_12, zu_13, zu_14, zu_15, zu_16, zu_17, zu_18, zu_19, zu_20, zu_21, zu_22, zu_23, zu_24, zu_25, zu_26, zu_27, zu_28, zu_29, zu_30, zu_90, zv_0_9, zv_1_9, zv_2_9, zv_3_9, zv_4_9, zv_5_9, zv_6_9, zv_7_9, zv_8_9, zv_0_330, zv_0_4544, zv_1_4544, zv_2_4544, zv_3_4544, zv_4_4544, zv_5_4544, zv_6_4544, zv_7_4544, zv_8_4544, zv_9_4544, zv_10_4544, zv_11_4544, zv_12_4544, zv_13_4544, zv_14_4544, zv_15_4544, zv_16_4544, zv_17_4544, zv_18_4544, zv_19_4544, zv_20_4544, zv_21_4544, zv_22_4544, zv_23_4544, zv_24_4544, zv_25_4544, zv_26_4544, zv_27_4544, zv_28_4544, zv_29_4544, zv_0_11, zv_1_11, zv_0_160, true_and, and_true, Nat.reduceAdd, a9, sh, nt, bl]
  generalize hM2 : zm_wi (zm_wi (zm_wi (zm_wi (zm_wi (zm_wi M1 757 10 (nI (zr_bl b n to))) 757 2 0) 757 3 10000) 749 0 (nI dd)) 749 7 0) 749 8 0 = M2
  have f2 : zf [749, 757] M M2 := by
    rw [← hM2]
    exact zf_wi (zf_wi (zf_wi (zf_wi (zf_wi (zf_wi (zf_sub f1 (by simp)) (by decide)) (by decide)) (by decide)) (by decide)) (by decide)) (by decide)
  have e57 : ∀ j, M2.1 757 j = if j = 3 then 10000 else if j = 2 then 0 else if j = 10 then nI (zr_bl b n to) else M1.1 757 j := by
    intro j
    rw [← hM2, zm_wi_other (by decide), zm_wi_other (by decide), zm_wi_other (by decide), zm_wi_same, zm_wi_same, zm_wi_same]
  have e49 : ∀ j, M2.1 749 j = if j = 8 then 0 else if j = 7 then 0 else if j = 0 then nI dd else M.1 749 j := by
    intro j
    rw [← hM2, zm_wi_same, zm_wi_same, zm_wi_same, zm_wi_other (by decide), zm_wi_other (by decide), zm_wi_other (by decide), (f1 749 (by decide)).1]
  have n2 : zN M2 := by
    intro i hi
    rw [e49]
    by_cases c8 : i = 8
    · rw [if_pos c8]; exact ⟨by decide, by decide⟩
    · rw [if_neg c8]
      by_cases c7 : i = 7
      · rw [if_pos c7]; exact ⟨by decide, by decide⟩
      · rw [if_neg c7]
        by_cases c0 : i = 0
        · rw [if_pos c0, nI_toInt (by omega)]; exact ⟨by omega, by omega⟩
        · rw [if_neg c0]; exact hN i hi
  have h92 : zc_s9 n b pr M2 := zc_s9_f h9 f2 (by decide) (by decide) (by decide) (by decide)
  have r7 : M2.2.2 757 7 = lo := by rw [← hM2]; exact a7
  have F2 : zP_f n b pr cs fr to dd D lo M2 := by
    refine ⟨h92, fun i hi => by rw [(f2 21 (by decide)).1]; exact hcs i hi, by rw [e57]; exact a8, by rw [e57]; exact a9, by rw [e57]; rfl, r7, by rw [e49]; rfl, by rw [e49]; rfl, by rw [e49]; rfl, n2, ?_⟩
    rcases hlo with h | ⟨L, x1, x2, x3⟩
    · exact Or.inl h
    · refine Or.inr ⟨L, x1, x2, zl_law_c x3 (fun j x y => (f2 _ ?_).1)⟩
      have := x2.1
      simp; omega
  refine c3_measureDays hE (d + 11) (b := b) (pr := pr) (cs := cs) F2.1 F2.2.1 hto F2.2.2.2.1 F2.2.2.2.2.1 (fun M3 d3 f3 => ?_)
  have F3 := zP_f_f F2 f3 (by simp)
  have m8 : M3.1 757 8 = nI fr := F3.2.2.1
  simp only [bX3_find_0, zw_0, zw_1, zs_aloadn0, zs_aloadNn0, zs_iloadn1, zq_3_32, zs_iloadn2, zq_3_35, zs_aloadn3, zs_aloadNn3, zq_3_28, zq_3_28n, zq_3_28v, zg_3_41, zg_3_35, zi_3_49, zs_iconst, zs_ishl, zs_ixor, zs_iand, zq_3_38, zq_3_18, zs_sipush, zq_3_22, zg_3_45, zg_3_55, zs_iload4, zs_iastore, zs_bipush, zi_3_60, zg_3_32, zi_3_63, zs_return, zh_0, zh_1, zh_2, zh_3, zh_4, zt_i, zt_l, zt_r, zt_n, zn_int, zn_b0, zn_b1, zb_15, zb_16, zb_17, za_18, za_19, za_20, za_21, za_22, zb_23, za_24, za_25, za_26, za_27, za_28, za_29, za_30, za_31, za_32, zb_35, za_36, za_37, za_38, za_39, za_40, zb_377, zb_378, za_379, za_380, za_381, za_382, za_383, zb_384, za_385, za_386, za_387, za_388, za_389, za_390, za_391, za_392, za_393, zb_396, za_397, za_398, za_399, za_400, za_401, zb_738, za_739, za_740, za_741, za_742, za_743, za_744, za_745, za_746, za_747, zb_748, za_749, za_750, zb_751, zb_752, za_753, za_754, za_755, za_756, zb_757, za_758, za_759, za_760, zb_761, za_763, za_764, za_765, zu_0, zu_1, zu_2, zu_3, zu_4, zu_5, zu_6, zu_7, zu_8, zu_9, zu_10, zu_11, zu_12, zu_13, zu_14, zu_15, zu_16, zu_17, zu_18, zu_19, zu_20, zu_21, zu_22, zu_23, zu_24, zu_25, zu_26, zu_27, zu_28, zu_29, zu_30, zu_90, zv_0_9, zv_1_9, zv_2_9, zv_3_9, zv_4_9, zv_5_9, zv_6_9, zv_7_9, zv_8_9, zv_0_330, zv_0_4544, zv_1_4544, zv_2_4544, zv_3_4544, zv_4_4544, zv_5_4544, zv_6_4544, zv_7_4544, zv_8_4544, zv_9_4544, zv_10_4544, zv_11_4544, zv_12_4544, zv_13_4544, zv_14_4544, zv_15_4544, zv_16_4544, zv_17_4544, zv_18_4544, zv_19_4544, zv_20_4544, zv_21_4544, zv_22_4544, zv_23_4544, zv_24_4544, zv_25_4544, zv_26_4544, zv_27_4544, zv_28_4544, zv_29_4544, zv_0_11, zv_1_11, zv_0_160, true_and, and_true, Nat.reduceAdd, m8]
  have pb3 : zP_b (10000, []) M3 := ⟨by rw [(f3 757 (by decide)).1, e57]; rfl, by rw [(f3 757 (by decide)).1, e57]; rfl, by decide, by decide, fun i hi => absurd hi (by simp)⟩
  refine c3_walk hE d hD hfr hto hdd 9 fr 10 [] (10000, []) M3 F3 d3 hfr (by decide) (zr_rk_9 hfr hn) (by decide) (fun i hi => absurd hi (by simp)) pb3 (fun M4 F4 d4 pp4 pb4 w4 => ?_)
  simp only [bX3_find_0, zw_0, zw_1, zs_aloadn0, zs_aloadNn0, zs_iloadn1, zq_3_32, zs_iloadn2, zq_3_35, zs_aloadn3, zs_aloadNn3, zq_3_28, zq_3_28n, zq_3_28v, zg_3_41, zg_3_35, zi_3_49, zs_iconst, zs_ishl, zs_ixor, zs_iand, zq_3_38, zq_3_18, zs_sipush, zq_3_22, zg_3_45, zg_3_55, zs_iload4, zs_iastore, zs_bipush, zi_3_60, zg_3_32, zi_3_63, zs_return, zh_0, zh_1, zh_2, zh_3, zh_4, zt_i, zt_l, zt_r, zt_n, zn_int, zn_b0, zn_b1, zb_15, zb_16, zb_17, za_18, za_19, za_20, za_21, za_22, zb_23, za_24, za_25, za_26, za_27, za_28, za_29, za_30, za_31, za_32, zb_35, za_36, za_37, za_38, za_39, za_40, zb_377, zb_378, za_379, za_380, za_381, za_382, za_383, zb_384, za_385, za_386, za_387, za_388, za_389, za_390, za_391, za_392, za_393, zb_396, za_397, za_398, za_399, za_400, za_401, zb_738, za_739, za_740, za_741, za_742, za_743, za_744, za_745, za_746, za_747, zb_748, za_749, za_750, zb_751, zb_752, za_753, za_754, za_755, za_756, zb_757, za_758, za_759, za_760, zb_761, za_763, za_764, za_765, zu_0, zu_1, zu_2, zu_3, zu_4, zu_5, zu_6, zu_7, zu_8, zu_9, zu_10, zu_11, zu_12, zu_13, zu_14, zu_15, zu_16, zu_17, zu_18, zu_19, zu_20, zu_21, zu_22, zu_23, zu_24, zu_25, zu_26, zu_27, zu_28, zu_29, zu_30, zu_90, zv_0_9, zv_1_9, zv_2_9, zv_3_9, zv_4_9, zv_5_9, zv_6_9, zv_7_9, zv_8_9, zv_0_330, zv_0_4544, zv_1_4544, zv_2_4544, zv_3_4544, zv_4_4544, zv_5_4544, zv_6_4544, zv_7_4544, zv_8_4544, zv_9_4544, zv_10_4544, zv_11_4544, zv_12_4544, zv_13_4544, zv_14_4544, zv_15_4544, zv_16_4544, zv_17_4544, zv_18_4544, zv_19_4544, zv_20_4544, zv_21_4544, zv_22_4544, zv_23_4544, zv_24_4544, zv_25_4544, zv_26_4544, zv_27_4544, zv_28_4544, zv_29_4544, zv_0_11, zv_1_11, zv_0_160, true_and, and_true, Nat.reduceAdd]
  exact q M4 d4 pb4 F4.2.2.2.2.2.2.2.2.2.1 (zf_trans (zf_sub f2 (by simp)) (zf_trans (zf_sub f3 (by simp)) (zf_sub w4.1 (by simp))))
theorem zr_law_o {M : zm_M} {T : Nat → Option zD} (hT : zc_T M (zr_law M) T) : ∃ lo : Option Nat, zr_law M = va_rf lo ∧ ((lo = none ∧ T 0 = none) ∨ ∃ L, lo = some L ∧ zl_ok L ∧ zl_law M L 0 (T 0)) := by
  rcases hT with ⟨h1, h2⟩ | ⟨L, h1, h2, h3⟩
  · exact ⟨none, h1, Or.inl ⟨rfl, h2 0 (by decide)⟩⟩
  · exact ⟨some L, h1, Or.inr ⟨L, rfl, h2, h3 0 (by decide)⟩⟩
theorem c11_route {E : zm_E} (hE : zm_ok E.2.2.1 E.2.2.2.2) (d : Nat) {n tn dd : Nat} (v w i : Int32) {b pr cs : Nat → Int32} {T : Nat → Option zD} {M : zm_M} (h9 : zc_s9 n b pr M) (hcs : ∀ i, i < n → M.1 21 i = cs i) (hN : zN M) (htn : tn ≤ 4) (h16 : M.1 16 6 = nI tn) (hT : zc_T M (zr_law M) T) (hTo : zDo 0 (T 0)) (hdd : dd ≤ 9999) (hd : M.1 23 0 = nI dd) {Q : Option Value → zm_M → Prop} (q1 : (zo_is n v = false ∨ zo_is n w = false ∨ ∃ f t, f < n ∧ t < n ∧ v = nI f ∧ w = nI t ∧ zt_ab b t f = false) → Q (some (.int (-4))) M) (q2 : ∀ f t M', f < n → t < n → v = nI f → w = nI t → zt_ab b t f = true → zN M' → zf [748, 749, 750, 757, 758, 759, 760] M M' → Q (some (.int (zr_an n b pr cs (T 0) (nI dd) f t i))) M') : zm_R E (d + 16) mX11_route [.ref 15, .int v, .int w, .int i] M Q := by
  refine zX11_route hE rfl (fun G h0 h37 h40 h92 h102 h110 h118 h147 h149 => ?_)
  show G 0 [some (.ref 15), some (.int v), some (.int w), some (.int i), none] [] M
  have hw : zt_wf n b := zt_wf_c h9.1.1 h9.2.2.1
  have hn := hw.1
  have bad : (zo_is n v = false ∨ zo_is n w = false ∨ ∃ f t, f < n ∧ t < n ∧ v = nI f ∧ w = nI t ∧ zt_ab b t f = false) → G 37 [some (.ref 15), some (.int v), some (.int w), some (.int i), some (.ref 17)] [] M := by
    intro h
    refine h37 _ _ _ ?_
    simp only [bX11_route_37, zw_0, zw_1, zs_bipush, zs_ireturn, zn_int, zn_b0, zn_b1, zb_15, zb_16, zb_17, za_18, za_19, za_20, za_21, za_22, zb_23, za_24, za_25, za_26, za_27, za_28, za_29, za_30, za_31, za_32, zb_35, za_36, za_37, za_38, za_39, za_40, zb_377, zb_378, za_379, za_380, za_381, za_382, za_383, zb_384, za_385, za_386, za_387, za_388, za_389, za_390, za_391, za_392, za_393, zb_396, za_397, za_398, za_399, za_400, za_401, zb_738, za_739, za_740, za_741, za_742, za_743, za_744, za_745, za_746, za_747, zb_748, za_749, za_750, zb_751, zb_752, za_753, za_754, za_755, za_756, zb_757, za_758, za_759, za_760, zb_761, za_763, za_764, za_765, true_and, and_true, Nat.reduceAdd]
    exact q1 h
  refine h0 _ _ _ ?_
  simp only [bX11_route_0, zw_0, zw_1, zs_aloadn0, zs_aloadNn0, zg_11_10, zg_11_28, zs_astore4, zs_astoreN4, zs_aload4, zs_aloadN4, zs_iloadn1, zi_11_82, zs_ifeq, zs_iloadn2, zi_11_143, zs_ifne, zc_none, zc_int, zc_ref, zc_null, zc_long, zh_0, zh_1, zh_2, zh_3, zh_4, zt_i, zt_l, zt_r, zt_n, zb_15, zb_16, zb_17, za_18, za_19, za_20, za_21, za_22, zb_23, za_24, za_25, za_26, za_27, za_28, za_29, za_30, za_31, za_32, zb_35, za_36, za_37, za_38, za_39, za_40, zb_377, zb_378, za_379, za_380, za_381, za_382, za_383, zb_384, za_385, za_386, za_387, za_388, za_389, za_390, za_391, za_392, za_393, zb_396, za_397, za_398, za_399, za_400, za_401, zb_738, za_739, za_740, za_741, za_742, za_743, za_744, za_745, za_746, za_747, zb_748, za_749, za_750, zb_751, zb_752, za_753, za_754, za_755, za_756, zb_757, za_758, za_759, za_760, zb_761, za_763, za_764, za_765, true_and, and_true, Nat.reduceAdd]
  refine zm_R_eq (c7_has hE (d + 14) (n := n) (by omega) v h9.2.1) ?_
  simp only [bX11_route_0, zw_0, zw_1, zs_aloadn0, zs_aloadNn0, zg_11_10, zg_11_28, zs_astore4, zs_astoreN4, zs_aload4, zs_aloadN4, zs_iloadn1, zi_11_82, zs_ifeq, zs_iloadn2, zi_11_143, zs_ifne, zc_none, zc_int, zc_ref, zc_null, zc_long, zh_0, zh_1, zh_2, zh_3, zh_4, zt_i, zt_l, zt_r, zt_n, zb_15, zb_16, zb_17, za_18, za_19, za_20, za_21, za_22, zb_23, za_24, za_25, za_26, za_27, za_28, za_29, za_30, za_31, za_32, zb_35, za_36, za_37, za_38, za_39, za_40, zb_377, zb_378, za_379, za_380, za_381, za_382, za_383, zb_384, za_385, za_386, za_387, za_388, za_389, za_390, za_391, za_392, za_393, zb_396, za_397, za_398, za_399, za_400, za_401, zb_738, za_739, za_740, za_741, za_742, za_743, za_744, za_745, za_746, za_747, zb_748, za_749, za_750, zb_751, zb_752, za_753, za_754, za_755, za_756, zb_757, za_758, za_759, za_760, zb_761, za_763, za_764, za_765, true_and, and_true, Nat.reduceAdd, zi_b0]
  refine ⟨fun h => bad (Or.inl h), fun hv => ?_⟩
  refine zm_R_eq (c7_has hE (d + 14) (n := n) (by omega) w h9.2.1) ?_
  simp only [bX11_route_0, zw_0, zw_1, zs_aloadn0, zs_aloadNn0, zg_11_10, zg_11_28, zs_astore4, zs_astoreN4, zs_aload4, zs_aloadN4, zs_iloadn1, zi_11_82, zs_ifeq, zs_iloadn2, zi_11_143, zs_ifne, zc_none, zc_int, zc_ref, zc_null, zc_long, zh_0, zh_1, zh_2, zh_3, zh_4, zt_i, zt_l, zt_r, zt_n, zb_15, zb_16, zb_17, za_18, za_19, za_20, za_21, za_22, zb_23, za_24, za_25, za_26, za_27, za_28, za_29, za_30, za_31, za_32, zb_35, za_36, za_37, za_38, za_39, za_40, zb_377, zb_378, za_379, za_380, za_381, za_382, za_383, zb_384, za_385, za_386, za_387, za_388, za_389, za_390, za_391, za_392, za_393, zb_396, za_397, za_398, za_399, za_400, za_401, zb_738, za_739, za_740, za_741, za_742, za_743, za_744, za_745, za_746, za_747, zb_748, za_749, za_750, zb_751, zb_752, za_753, za_754, za_755, za_756, zb_757, za_758, za_759, za_760, zb_761, za_763, za_764, za_765, true_and, and_true, Nat.reduceAdd, zi_b0]
  refine ⟨fun h => bad (Or.inr (Or.inl h)), fun hw' => ?_⟩
  have hv : zo_is n v = true := by simpa using hv
  have hw' : zo_is n w = true := by simpa using hw'
  obtain ⟨f, hf, rfl⟩ := zo_of hv (by omega)
  obtain ⟨t, ht, rfl⟩ := zo_of hw' (by omega)
  refine zm_R_eq (c7_isAbove hE (d + 13) h9.1.1 ht hf) ?_
  rw [zt_ab_c h9.1.1 h9.2.2.1 ht f hf]
  simp only [bX11_route_0, zw_0, zw_1, zs_aloadn0, zs_aloadNn0, zg_11_10, zg_11_28, zs_astore4, zs_astoreN4, zs_aload4, zs_aloadN4, zs_iloadn1, zi_11_82, zs_ifeq, zs_iloadn2, zi_11_143, zs_ifne, zc_none, zc_int, zc_ref, zc_null, zc_long, zh_0, zh_1, zh_2, zh_3, zh_4, zt_i, zt_l, zt_r, zt_n, zb_15, zb_16, zb_17, za_18, za_19, za_20, za_21, za_22, zb_23, za_24, za_25, za_26, za_27, za_28, za_29, za_30, za_31, za_32, zb_35, za_36, za_37, za_38, za_39, za_40, zb_377, zb_378, za_379, za_380, za_381, za_382, za_383, zb_384, za_385, za_386, za_387, za_388, za_389, za_390, za_391, za_392, za_393, zb_396, za_397, za_398, za_399, za_400, za_401, zb_738, za_739, za_740, za_741, za_742, za_743, za_744, za_745, za_746, za_747, zb_748, za_749, za_750, zb_751, zb_752, za_753, za_754, za_755, za_756, zb_757, za_758, za_759, za_760, zb_761, za_763, za_764, za_765, true_and, and_true, Nat.reduceAdd, zi_b0, zi_b1]
  refine ⟨fun hab => ?_, fun hab => bad (Or.inr (Or.inr ⟨f, t, hf, ht, rfl, rfl, hab⟩))⟩
  have hab : zt_ab b t f = true := by simpa using hab
  have q2 := fun M' => q2 f t M' hf ht rfl rfl hab
  refine h40 _ _ _ ?_
  simp only [bX11_route_40, zw_0, zw_1, zs_aloadn0, zs_aloadNn0, zg_11_58, zs_iloadn1, zs_iloadn2, zg_11_10, zi_11_174, zg_11_136, zg_11_167, zi_11_289, zs_iloadn3, zs_tsw, zm_sw, zh_0, zh_1, zh_2, zh_3, zh_4, zt_i, zt_l, zt_r, zt_n, zb_15, zb_16, zb_17, za_18, za_19, za_20, za_21, za_22, zb_23, za_24, za_25, za_26, za_27, za_28, za_29, za_30, za_31, za_32, zb_35, za_36, za_37, za_38, za_39, za_40, zb_377, zb_378, za_379, za_380, za_381, za_382, za_383, zb_384, za_385, za_386, za_387, za_388, za_389, za_390, za_391, za_392, za_393, zb_396, za_397, za_398, za_399, za_400, za_401, zb_738, za_739, za_740, za_741, za_742, za_743, za_744, za_745, za_746, za_747, zb_748, za_749, za_750, zb_751, zb_752, za_753, za_754, za_755, za_756, zb_757, za_758, za_759, za_760, zb_761, za_763, za_764, za_765, true_and, and_true, Nat.reduceAdd]
  refine zm_R_eq (c6_law hE (d + 13) htn h16) ?_
  obtain ⟨lo, hlo, hll⟩ := zr_law_o hT
  rw [hlo]
  simp only [bX11_route_40, zw_0, zw_1, zs_aloadn0, zs_aloadNn0, zg_11_58, zs_iloadn1, zs_iloadn2, zg_11_10, zi_11_174, zg_11_136, zg_11_167, zi_11_289, zs_iloadn3, zs_tsw, zm_sw, zh_0, zh_1, zh_2, zh_3, zh_4, zt_i, zt_l, zt_r, zt_n, zb_15, zb_16, zb_17, za_18, za_19, za_20, za_21, za_22, zb_23, za_24, za_25, za_26, za_27, za_28, za_29, za_30, za_31, za_32, zb_35, za_36, za_37, za_38, za_39, za_40, zb_377, zb_378, za_379, za_380, za_381, za_382, za_383, zb_384, za_385, za_386, za_387, za_388, za_389, za_390, za_391, za_392, za_393, zb_396, za_397, za_398, za_399, za_400, za_401, zb_738, za_739, za_740, za_741, za_742, za_743, za_744, za_745, za_746, za_747, zb_748, za_749, za_750, zb_751, zb_752, za_753, za_754, za_755, za_756, zb_757, za_758, za_759, za_760, zb_761, za_763, za_764, za_765, true_and, and_true, Nat.reduceAdd, zt_val, hd]
  refine c3_find hE d (D := T 0) h9 hcs hN hll hTo hf ht hdd (fun M1 d1 b1 n1 f1 => ?_)
  simp only [bX11_route_40, zw_0, zw_1, zs_aloadn0, zs_aloadNn0, zg_11_58, zs_iloadn1, zs_iloadn2, zg_11_10, zi_11_174, zg_11_136, zg_11_167, zi_11_289, zs_iloadn3, zs_tsw, zm_sw, zh_0, zh_1, zh_2, zh_3, zh_4, zt_i, zt_l, zt_r, zt_n, zb_15, zb_16, zb_17, za_18, za_19, za_20, za_21, za_22, zb_23, za_24, za_25, za_26, za_27, za_28, za_29, za_30, za_31, za_32, zb_35, za_36, za_37, za_38, za_39, za_40, zb_377, zb_378, za_379, za_380, za_381, za_382, za_383, zb_384, za_385, za_386, za_387, za_388, za_389, za_390, za_391, za_392, za_393, zb_396, za_397, za_398, za_399, za_400, za_401, zb_738, za_739, za_740, za_741, za_742, za_743, za_744, za_745, za_746, za_747, zb_748, za_749, za_750, zb_751, zb_752, za_753, za_754, za_755, za_756, zb_757, za_758, za_759, za_760, zb_761, za_763, za_764, za_765, true_and, and_true, Nat.reduceAdd]
  have q2 := q2 M1 n1 f1
  unfold zr_an at q2
  obtain ⟨x1, x2, x3, x4, x5⟩ := b1
  refine ⟨fun h => ?_, fun n3 => ⟨fun h => ?_, fun n2 => ⟨fun h => ?_, fun n1 => ?_⟩⟩⟩
  · rw [if_pos h] at q2
    refine h102 _ _ _ ?_
    simp only [bX11_route_102, zw_0, zw_1, zs_aloadn0, zs_aloadNn0, zg_11_58, zg_11_296, zs_ireturn, zn_int, zn_b0, zn_b1, zb_15, zb_16, zb_17, za_18, za_19, za_20, za_21, za_22, zb_23, za_24, za_25, za_26, za_27, za_28, za_29, za_30, za_31, za_32, zb_35, za_36, za_37, za_38, za_39, za_40, zb_377, zb_378, za_379, za_380, za_381, za_382, za_383, zb_384, za_385, za_386, za_387, za_388, za_389, za_390, za_391, za_392, za_393, zb_396, za_397, za_398, za_399, za_400, za_401, zb_738, za_739, za_740, za_741, za_742, za_743, za_744, za_745, za_746, za_747, zb_748, za_749, za_750, zb_751, zb_752, za_753, za_754, za_755, za_756, zb_757, za_758, za_759, za_760, zb_761, za_763, za_764, za_765, true_and, and_true, Nat.reduceAdd, x1]
    exact q2
  · rw [if_neg n3, if_pos h] at q2
    have v1 : vp_in (nI f) 10 := vp_in_nI (by omega) (by decide)
    have v2 : (nI f).toNatClampNeg = f := nI_clamp (by omega)
    have m58 := d1 f hf
    refine h92 _ _ _ ?_
    simp only [bX11_route_92, zw_0, zw_1, zs_aloadn0, zs_aloadNn0, zg_11_58, zg_11_293, zs_iloadn1, zs_iaload, zs_ireturn, zn_int, zn_b0, zn_b1, zb_15, zb_16, zb_17, za_18, za_19, za_20, za_21, za_22, zb_23, za_24, za_25, za_26, za_27, za_28, za_29, za_30, za_31, za_32, zb_35, za_36, za_37, za_38, za_39, za_40, zb_377, zb_378, za_379, za_380, za_381, za_382, za_383, zb_384, za_385, za_386, za_387, za_388, za_389, za_390, za_391, za_392, za_393, zb_396, za_397, za_398, za_399, za_400, za_401, zb_738, za_739, za_740, za_741, za_742, za_743, za_744, za_745, za_746, za_747, zb_748, za_749, za_750, zb_751, zb_752, za_753, za_754, za_755, za_756, zb_757, za_758, za_759, za_760, zb_761, za_763, za_764, za_765, zu_0, zu_1, zu_2, zu_3, zu_4, zu_5, zu_6, zu_7, zu_8, zu_9, zu_10, zu_11, zu_12, zu_13, zu_14, zu_15, zu_16, zu_17, zu_18, zu_19, zu_20, zu_21, zu_22, zu_23, zu_24, zu_25, zu_26, zu_27, zu_28, zu_29, zu_30, zu_90, zv_0_9, zv_1_9, zv_2_9, zv_3_9, zv_4_9, zv_5_9, zv_6_9, zv_7_9, zv_8_9, zv_0_330, zv_0_4544, zv_1_4544, zv_2_4544, zv_3_4544, zv_4_4544, zv_5_4544, zv_6_4544, zv_7_4544, zv_8_4544, zv_9_4544, zv_10_4544, zv_11_4544, zv_12_4544, zv_13_4544, zv_14_4544, zv_15_4544, zv_16_4544, zv_17_4544, zv_18_4544, zv_19_4544, zv_20_4544, zv_21_4544, zv_22_4544, zv_23_4544, zv_24_4544, zv_25_4544, zv_26_4544, zv_27_4544, zv_28_4544, zv_29_4544, zv_0_11, zv_1_11, zv_0_160, true_and, and_true, Nat.reduceAdd, v1, v2, m58]
    exact q2
  · rw [if_neg n3, if_neg n2, if_pos h] at q2
    refine h110 _ _ _ ?_
    simp only [bX11_route_110, zw_0, zw_1, zs_aloadn0, zs_aloadNn0, zg_11_58, zg_11_299, zs_ireturn, zn_int, zn_b0, zn_b1, zb_15, zb_16, zb_17, za_18, za_19, za_20, za_21, za_22, zb_23, za_24, za_25, za_26, za_27, za_28, za_29, za_30, za_31, za_32, zb_35, za_36, za_37, za_38, za_39, za_40, zb_377, zb_378, za_379, za_380, za_381, za_382, za_383, zb_384, za_385, za_386, za_387, za_388, za_389, za_390, za_391, za_392, za_393, zb_396, za_397, za_398, za_399, za_400, za_401, zb_738, za_739, za_740, za_741, za_742, za_743, za_744, za_745, za_746, za_747, zb_748, za_749, za_750, zb_751, zb_752, za_753, za_754, za_755, za_756, zb_757, za_758, za_759, za_760, zb_761, za_763, za_764, za_765, true_and, and_true, Nat.reduceAdd, x2]
    exact q2
  · rw [if_neg n3, if_neg n2, if_neg n1] at q2
    refine h118 _ _ _ ?_
    simp only [bX11_route_118, zw_0, zw_1, zs_iloadn3, zs_iconst, zs_aloadn0, zs_aloadNn0, zg_11_58, zg_11_299, zs_isub, zi_11_86, zs_ifeq, zg_11_302, zs_iaload, zs_goto, zh_0, zh_1, zh_2, zh_3, zh_4, zt_i, zt_l, zt_r, zt_n, zb_15, zb_16, zb_17, za_18, za_19, za_20, za_21, za_22, zb_23, za_24, za_25, za_26, za_27, za_28, za_29, za_30, za_31, za_32, zb_35, za_36, za_37, za_38, za_39, za_40, zb_377, zb_378, za_379, za_380, za_381, za_382, za_383, zb_384, za_385, za_386, za_387, za_388, za_389, za_390, za_391, za_392, za_393, zb_396, za_397, za_398, za_399, za_400, za_401, zb_738, za_739, za_740, za_741, za_742, za_743, za_744, za_745, za_746, za_747, zb_748, za_749, za_750, zb_751, zb_752, za_753, za_754, za_755, za_756, zb_757, za_758, za_759, za_760, zb_761, za_763, za_764, za_765, zu_0, zu_1, zu_2, zu_3, zu_4, zu_5, zu_6, zu_7, zu_8, zu_9, zu_10, zu_11, zu_12, zu_13, zu_14, zu_15, zu_16, zu_17, zu_18, zu_19, zu_20, zu_21, zu_22, zu_23, zu_24, zu_25, zu_26, zu_27, zu_28, zu_29, zu_30, zu_90, zv_0_9, zv_1_9, zv_2_9, zv_3_9, zv_4_9, zv_5_9, zv_6_9, zv_7_9, zv_8_9, zv_0_330, zv_0_4544, zv_1_4544, zv_2_4544, zv_3_4544, zv_4_4544, zv_5_4544, zv_6_4544, zv_7_4544, zv_8_4544, zv_9_4544, zv_10_4544, zv_11_4544, zv_12_4544, zv_13_4544, zv_14_4544, zv_15_4544, zv_16_4544, zv_17_4544, zv_18_4544, zv_19_4544, zv_20_4544, zv_21_4544, zv_22_4544, zv_23_4544, zv_24_4544, zv_25_4544, zv_26_4544, zv_27_4544, zv_28_4544, zv_29_4544, zv_0_11, zv_1_11, zv_0_160, true_and, and_true, Nat.reduceAdd, x2]
    refine zm_R_eq (c11_within hE (d + 14) i 0 _ M1) ?_
    rw [zo_in (by omega)]
    simp only [bX11_route_118, zw_0, zw_1, zs_iloadn3, zs_iconst, zs_aloadn0, zs_aloadNn0, zg_11_58, zg_11_299, zs_isub, zi_11_86, zs_ifeq, zg_11_302, zs_iaload, zs_goto, zh_0, zh_1, zh_2, zh_3, zh_4, zt_i, zt_l, zt_r, zt_n, zb_15, zb_16, zb_17, za_18, za_19, za_20, za_21, za_22, zb_23, za_24, za_25, za_26, za_27, za_28, za_29, za_30, za_31, za_32, zb_35, za_36, za_37, za_38, za_39, za_40, zb_377, zb_378, za_379, za_380, za_381, za_382, za_383, zb_384, za_385, za_386, za_387, za_388, za_389, za_390, za_391, za_392, za_393, zb_396, za_397, za_398, za_399, za_400, za_401, zb_738, za_739, za_740, za_741, za_742, za_743, za_744, za_745, za_746, za_747, zb_748, za_749, za_750, zb_751, zb_752, za_753, za_754, za_755, za_756, zb_757, za_758, za_759, za_760, zb_761, za_763, za_764, za_765, zu_0, zu_1, zu_2, zu_3, zu_4, zu_5, zu_6, zu_7, zu_8, zu_9, zu_10, zu_11, zu_12, zu_13, zu_14, zu_15, zu_16, zu_17, zu_18, zu_19, zu_20, zu_21, zu_22, zu_23, zu_24, zu_25, zu_26, zu_27, zu_28, zu_29, zu_30, zu_90, zv_0_9, zv_1_9, zv_2_9, zv_3_9, zv_4_9, zv_5_9, zv_6_9, zv_7_9, zv_8_9, zv_0_330, zv_0_4544, zv_1_4544, zv_2_4544, zv_3_4544, zv_4_4544, zv_5_4544, zv_6_4544, zv_7_4544, zv_8_4544, zv_9_4544, zv_10_4544, zv_11_4544, zv_12_4544, zv_13_4544, zv_14_4544, zv_15_4544, zv_16_4544, zv_17_4544, zv_18_4544, zv_19_4544, zv_20_4544, zv_21_4544, zv_22_4544, zv_23_4544, zv_24_4544, zv_25_4544, zv_26_4544, zv_27_4544, zv_28_4544, zv_29_4544, zv_0_11, zv_1_11, zv_0_160, true_and, and_true, Nat.reduceAdd, zi_b0]
    refine ⟨fun hz => ?_, fun hz => ?_⟩
    · rw [hz, if_neg (by decide)] at q2
      refine h147 _ _ _ ?_
      simp only [bX11_route_147, zw_0, zw_1, zs_bipush, zb_15, zb_16, zb_17, za_18, za_19, za_20, za_21, za_22, zb_23, za_24, za_25, za_26, za_27, za_28, za_29, za_30, za_31, za_32, zb_35, za_36, za_37, za_38, za_39, za_40, zb_377, zb_378, za_379, za_380, za_381, za_382, za_383, zb_384, za_385, za_386, za_387, za_388, za_389, za_390, za_391, za_392, za_393, zb_396, za_397, za_398, za_399, za_400, za_401, zb_738, za_739, za_740, za_741, za_742, za_743, za_744, za_745, za_746, za_747, zb_748, za_749, za_750, zb_751, zb_752, za_753, za_754, za_755, za_756, zb_757, za_758, za_759, za_760, zb_761, za_763, za_764, za_765, true_and, and_true, Nat.reduceAdd]
      refine h149 _ _ _ ?_
      simp only [bX11_route_149, zw_0, zw_1, zs_ireturn, zn_int, zn_b0, zn_b1, zb_15, zb_16, zb_17, za_18, za_19, za_20, za_21, za_22, zb_23, za_24, za_25, za_26, za_27, za_28, za_29, za_30, za_31, za_32, zb_35, za_36, za_37, za_38, za_39, za_40, zb_377, zb_378, za_379, za_380, za_381, za_382, za_383, zb_384, za_385, za_386, za_387, za_388, za_389, za_390, za_391, za_392, za_393, zb_396, za_397, za_398, za_399, za_400, za_401, zb_738, za_739, za_740, za_741, za_742, za_743, za_744, za_745, za_746, za_747, zb_748, za_749, za_750, zb_751, zb_752, za_753, za_754, za_755, za_756, zb_757, za_758, za_759, za_760, zb_761, za_763, za_764, za_765, true_and, and_true, Nat.reduceAdd]
      exact q2
    · have hz : zo_is (zr_all n b pr cs (T 0) (nI dd) f t 10000).2.length i = true := by simpa using hz
      rw [if_pos hz] at q2
      obtain ⟨j, hj, rfl⟩ := zo_of hz (by omega)
      have v1 : vp_in (nI j) 10 := vp_in_nI (by omega) (by decide)
      have v2 : (nI j).toNatClampNeg = j := nI_clamp (by omega)
      rw [v2] at q2 ⊢
      refine ⟨v1, ?_⟩
      refine h149 _ _ _ ?_
      simp only [bX11_route_149, zw_0, zw_1, zs_ireturn, zn_int, zn_b0, zn_b1, zb_15, zb_16, zb_17, za_18, za_19, za_20, za_21, za_22, zb_23, za_24, za_25, za_26, za_27, za_28, za_29, za_30, za_31, za_32, zb_35, za_36, za_37, za_38, za_39, za_40, zb_377, zb_378, za_379, za_380, za_381, za_382, za_383, zb_384, za_385, za_386, za_387, za_388, za_389, za_390, za_391, za_392, za_393, zb_396, za_397, za_398, za_399, za_400, za_401, zb_738, za_739, za_740, za_741, za_742, za_743, za_744, za_745, za_746, za_747, zb_748, za_749, za_750, zb_751, zb_752, za_753, za_754, za_755, za_756, zb_757, za_758, za_759, za_760, zb_761, za_763, za_764, za_765, true_and, and_true, Nat.reduceAdd]
      rw [x5 j hj]
      exact q2
