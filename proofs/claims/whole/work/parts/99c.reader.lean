/-! ===== the class's reader: step, complain, expect ===== -/
/-- the reader stands at token k of m -/
def zk_R (tp : Nat → Nat) (n m k : Nat) (M : zm_M) : Prop := zk_C tp n m M ∧ k ≤ m ∧ M.1 761 7 = nI k ∧ M.2.2 761 8 = some (1000 + zk_w tp n (zk_st tp n k))
/-- what reading on changes -/
def zk_g (M M' : zm_M) : Prop := zf [761] M M' ∧ zg 761 [1, 2, 7] M M' ∧ ∀ j, j ≠ 8 → M'.2.2 761 j = M.2.2 761 j
theorem zk_g_refl {M : zm_M} : zk_g M M := ⟨zf_refl, zg_refl, fun _ _ => rfl⟩
theorem zk_g_trans {M M' M'' : zm_M} (h : zk_g M M') (h2 : zk_g M' M'') : zk_g M M'' := ⟨zf_trans h.1 h2.1, zg_trans h.2.1 h2.2.1, fun j hj => (h2.2.2 j hj).trans (h.2.2 j hj)⟩
theorem zk_C_g {tp : Nat → Nat} {n m : Nat} {M M' : zm_M} (h : zk_C tp n m M) (g : zk_g M M') : zk_C tp n m M' := by
  obtain ⟨h1, h2, h3, h4, h5⟩ := h
  refine ⟨by rw [g.2.1 6 (by decide)]; exact h1, h2, h3, h4, fun k hk => ?_⟩
  obtain ⟨a, b, c⟩ := h5 k hk
  exact ⟨by rw [(g.1 762 (by decide)).2.2]; exact a, by rw [(g.1 763 (by decide)).1]; exact b, fun x y => by rw [(g.1 764 (by decide)).1]; exact c x y⟩
theorem c5_step {E : zm_E} (hE : zm_ok E.2.2.1 E.2.2.2.2) (d : Nat) {tp : Nat → Nat} {n m k : Nat} {M : zm_M} (hR : zk_R tp n m k M) {Q : Option Value → zm_M → Prop} (q : ∀ M', zk_R tp n m (if k < m then k + 1 else m) M' → zk_g M M' → M'.1 761 1 = M.1 761 1 → M'.1 761 2 = M.1 761 2 → Q none M') : zm_R E (d + 1) mX5_step [.ref 761] M Q := by
  refine zX5_step hE rfl (fun G h0 h21 => ?_)
  show G 0 [some (.ref 761)] [] M
  obtain ⟨hC, hk, h7, h8⟩ := hR
  have m300 := hC.2.1
  have m6 : M.1 761 6 = nI m := hC.1
  have ek : (nI m ≤ nI k) = (m ≤ k) := propext (nI_leI (by omega) (by omega))
  have fin : ∀ (M1 : zm_M) (j : Nat), j = (if k < m then k + 1 else m) → zk_g M M1 → M1.1 761 7 = nI j → M1.1 761 1 = M.1 761 1 → M1.1 761 2 = M.1 761 2 → G 21 [some (.ref 761)] [] M1 := by
    intro M1 j hj g1 a7 a1 a2
    have jm : j ≤ m := by rw [hj]; split <;> omega
    have C1 := zk_C_g hC g1
    have vj : vp_in (nI j) 301 := vp_in_nI (by omega) (by decide)
    have vj2 : (nI j).toNatClampNeg = j := nI_clamp (by omega)
    have w := (C1.2.2.2.2 j jm).1
    refine h21 _ _ _ ?_
    simp only [bX5_step_21, zw_0, zw_1, zs_aloadn0, zs_aloadNn0, zg_5_24, zg_5_38, zs_aaload, zm_a762, zm_ao_762, zq_5_45, zq_5_45n, zq_5_45v, zs_return, zn_int, zn_b0, zn_b1, zb_15, zb_16, zb_17, za_18, za_19, za_20, za_21, za_22, zb_23, za_24, za_25, za_26, za_27, za_28, za_29, za_30, za_31, za_32, zb_35, za_36, za_37, za_38, za_39, za_40, zb_377, zb_378, za_379, za_380, za_381, za_382, za_383, zb_384, za_385, za_386, za_387, za_388, za_389, za_390, za_391, za_392, za_393, zb_396, za_397, za_398, za_399, za_400, za_401, zb_738, za_739, za_740, za_741, za_742, za_743, za_744, za_745, za_746, za_747, zb_748, za_749, za_750, zb_751, zb_752, za_753, za_754, za_755, za_756, zb_757, za_758, za_759, za_760, zb_761, za_763, za_764, za_765, true_and, and_true, Nat.reduceAdd, a7, vj, vj2, w]
    have g2 : zk_g M (zm_wr M1 761 8 (some (1000 + zk_w tp n (zk_st tp n j)))) := zk_g_trans g1 ⟨zf_wr zf_refl (by decide), fun _ _ => rfl, fun i hi => by rw [zm_wr_same, if_neg hi]⟩
    have R2 : zk_R tp n m j (zm_wr M1 761 8 (some (1000 + zk_w tp n (zk_st tp n j)))) := ⟨zk_C_g hC g2, jm, by rw [zm_wr_1]; exact a7, by rw [zm_wr_same, if_pos rfl]⟩
    rw [hj] at R2
    rw [hj] at g2
    have q := q _ R2 g2
    rw [hj]
    exact q a1 a2
  refine h0 _ _ _ ?_
  simp only [bX5_step_0, zw_0, zw_1, zs_aloadn0, zs_aloadNn0, zg_5_38, zg_5_35, zs_icge, zs_dupi, zs_dupr, zs_dupn, zs_iconst, zs_iadd, zq_5_38, zb_15, zb_16, zb_17, za_18, za_19, za_20, za_21, za_22, zb_23, za_24, za_25, za_26, za_27, za_28, za_29, za_30, za_31, za_32, zb_35, za_36, za_37, za_38, za_39, za_40, zb_377, zb_378, za_379, za_380, za_381, za_382, za_383, zb_384, za_385, za_386, za_387, za_388, za_389, za_390, za_391, za_392, za_393, zb_396, za_397, za_398, za_399, za_400, za_401, zb_738, za_739, za_740, za_741, za_742, za_743, za_744, za_745, za_746, za_747, zb_748, za_749, za_750, zb_751, zb_752, za_753, za_754, za_755, za_756, zb_757, za_758, za_759, za_760, zb_761, za_763, za_764, za_765, true_and, and_true, Nat.reduceAdd, h7, m6, ek, nI_1]
  refine ⟨fun h => ?_, fun h => ?_⟩
  · exact fin M k (by rw [if_neg (by omega)]; omega) zk_g_refl h7 rfl rfl
  · refine fin _ (k + 1) (by rw [if_pos (by omega)]) ⟨zf_wi zf_refl (by decide), zg_wi zg_refl (by decide), fun _ _ => rfl⟩ (by rw [zm_wi_same, if_pos rfl]) (by rw [zm_wi_same, if_neg (by decide)]) (by rw [zm_wi_same, if_neg (by decide)])
theorem zk_w_m {tp : Nat → Nat} {n m : Nat} {M : zm_M} (h : zk_C tp n m M) : zk_w tp n (zk_st tp n m) = 43 := by
  rw [h.2.2.1]
  unfold zk_w
  rw [if_pos (Nat.le_refl _)]
/-- the fault and its place, behind a complaint at token k -/
def zk_ft (tp : Nat → Nat) (n k : Nat) (f : Int32) (M M' : zm_M) : Prop := M'.1 761 1 = (if M.1 761 1 = 0 then f else M.1 761 1) ∧ M'.1 761 2 = (if M.1 761 1 = 0 then nI (zk_st tp n k) else M.1 761 2)
theorem c5_complain {E : zm_E} (hE : zm_ok E.2.2.1 E.2.2.2.2) (d : Nat) {tp : Nat → Nat} {n m k : Nat} (f : Int32) {M : zm_M} (hR : zk_R tp n m k M) {Q : Option Value → zm_M → Prop} (q : ∀ M', zk_R tp n m m M' → zk_g M M' → zk_ft tp n k f M M' → Q none M') : zm_R E (d + 1) mX5_complain [.ref 761, .int f] M Q := by
  refine zX5_complain hE rfl (fun G h0 h25 => ?_)
  show G 0 [some (.ref 761), some (.int f)] [] M
  obtain ⟨hC, hk, h7, h8⟩ := hR
  have m300 := hC.2.1
  have m6 : M.1 761 6 = nI m := hC.1
  have vk : vp_in (nI k) 301 := vp_in_nI (by omega) (by decide)
  have vk2 : (nI k).toNatClampNeg = k := nI_clamp (by omega)
  have pl := (hC.2.2.2.2 k hk).2.1
  have fin : ∀ (M1 : zm_M), zk_g M M1 → zk_ft tp n k f M M1 → G 25 [some (.ref 761), some (.int f)] [] M1 := by
    intro M1 g1 t1
    have a6 : M1.1 761 6 = nI m := by rw [g1.2.1 6 (by decide)]; exact m6
    have g2 : zk_g M (zm_wr (zm_wi M1 761 7 (nI m)) 761 8 (some 1043)) := zk_g_trans g1 ⟨zf_wr (zf_wi zf_refl (by decide)) (by decide), fun j hj => (zg_wi zg_refl (by decide) : zg 761 [1, 2, 7] M1 (zm_wi M1 761 7 (nI m))) j hj, fun i hi => by rw [zm_wr_same, if_neg hi]; rfl⟩
    have C2 := zk_C_g hC g2
    refine h25 _ _ _ ?_
    simp only [bX5_complain_25, zw_0, zw_1, zs_aloadn0, zs_aloadNn0, zg_5_35, zq_5_38, zgs_41, zq_5_45, zq_5_45n, zq_5_45v, zs_return, zn_int, zn_b0, zn_b1, zb_15, zb_16, zb_17, za_18, za_19, za_20, za_21, za_22, zb_23, za_24, za_25, za_26, za_27, za_28, za_29, za_30, za_31, za_32, zb_35, za_36, za_37, za_38, za_39, za_40, zb_377, zb_378, za_379, za_380, za_381, za_382, za_383, zb_384, za_385, za_386, za_387, za_388, za_389, za_390, za_391, za_392, za_393, zb_396, za_397, za_398, za_399, za_400, za_401, zb_738, za_739, za_740, za_741, za_742, za_743, za_744, za_745, za_746, za_747, zb_748, za_749, za_750, zb_751, zb_752, za_753, za_754, za_755, za_756, zb_757, za_758, za_759, za_760, zb_761, za_763, za_764, za_765, true_and, and_true, Nat.reduceAdd, a6]
    refine q _ ⟨C2, Nat.le_refl _, ?_, ?_⟩ g2 ⟨?_, ?_⟩
    · rw [zm_wr_1, zm_wi_same, if_pos rfl]
    · rw [zm_wr_same, if_pos rfl, zk_w_m C2]
    · rw [zm_wr_1, zm_wi_same, if_neg (by decide)]; exact t1.1
    · rw [zm_wr_1, zm_wi_same, if_neg (by decide)]; exact t1.2
  refine h0 _ _ _ ?_
  simp only [bX5_complain_0, zw_0, zw_1, zs_aloadn0, zs_aloadNn0, zg_5_15, zs_ifne, zs_iloadn1, zq_5_15, zg_5_28, zg_5_38, zs_iaload, zq_5_19, zb_15, zb_16, zb_17, za_18, za_19, za_20, za_21, za_22, zb_23, za_24, za_25, za_26, za_27, za_28, za_29, za_30, za_31, za_32, zb_35, za_36, za_37, za_38, za_39, za_40, zb_377, zb_378, za_379, za_380, za_381, za_382, za_383, zb_384, za_385, za_386, za_387, za_388, za_389, za_390, za_391, za_392, za_393, zb_396, za_397, za_398, za_399, za_400, za_401, zb_738, za_739, za_740, za_741, za_742, za_743, za_744, za_745, za_746, za_747, zb_748, za_749, za_750, zb_751, zb_752, za_753, za_754, za_755, za_756, zb_757, za_758, za_759, za_760, zb_761, za_763, za_764, za_765, zu_0, zu_1, zu_2, zu_3, zu_4, zu_5, zu_6, zu_7, zu_8, zu_9, zu_10, zu_11, zu_12, zu_13, zu_14, zu_15, zu_16, zu_17, zu_18, zu_19, zu_20, zu_21, zu_22, zu_23, zu_24, zu_25, zu_26, zu_27, zu_28, zu_29, zu_30, zu_90, zv_0_9, zv_1_9, zv_2_9, zv_3_9, zv_4_9, zv_5_9, zv_6_9, zv_7_9, zv_8_9, zv_0_330, zv_0_4544, zv_1_4544, zv_2_4544, zv_3_4544, zv_4_4544, zv_5_4544, zv_6_4544, zv_7_4544, zv_8_4544, zv_9_4544, zv_10_4544, zv_11_4544, zv_12_4544, zv_13_4544, zv_14_4544, zv_15_4544, zv_16_4544, zv_17_4544, zv_18_4544, zv_19_4544, zv_20_4544, zv_21_4544, zv_22_4544, zv_23_4544, zv_24_4544, zv_25_4544, zv_26_4544, zv_27_4544, zv_28_4544, zv_29_4544, zv_0_11, zv_1_11, zv_0_160, true_and, and_true, Nat.reduceAdd]
  refine ⟨fun h => ?_, fun h => ?_⟩
  · exact fin M zk_g_refl ⟨by rw [if_neg h], by rw [if_neg h]⟩
  · have b7 : (zm_wi M 761 1 f).1 761 7 = nI k := by rw [zm_wi_same, if_neg (by decide)]; exact h7
    have b63 : (zm_wi M 761 1 f).1 763 k = nI (zk_st tp n k) := by rw [zm_wi_other (by decide)]; exact pl
    rw [b7, vk2, b63]
    refine ⟨vk, ?_⟩
    refine fin _ ⟨zf_wi (zf_wi zf_refl (by decide)) (by decide), zg_wi (zg_wi zg_refl (by decide)) (by decide), fun _ _ => rfl⟩ ⟨?_, ?_⟩
    · rw [if_pos h, zm_wi_same, if_neg (by decide), zm_wi_same, if_pos rfl]
    · rw [if_pos h, zm_wi_same, if_pos rfl]
