/-! ===== the class: text ===== -/
theorem c11_text {E : zm_E} (hE : zm_ok E.2.2.1 E.2.2.2.2) (hW : zk_W E) (d : Nat) {tp : Nat → Nat} {n t : Nat} {M : zm_M} (hT : zk_tc tp n M) (h9 : M.1 15 9 = nI n) (ht : t ≤ 4) (h6 : M.1 16 6 = nI t) {Q : Option Value → zm_M → Prop} (q0 : t = 4 → Q (some (.int (-1))) M) (q1 : t < 4 → ∀ m nc X M', zk_st tp n m = n → m ≤ 300 → zt_ok tp n nc X → M'.1 761 0 = 1 → M'.1 761 1 = 0 → M'.1 761 2 = -1 → zl_cl M' (41 + 9 * t) nc X.1 X.2.1 X.2.2.1 X.2.2.2.1 → (∀ w, w ≤ 2 → zl_law M' (41 + 9 * t) w (X.2.2.2.2 w)) → zt_H (41 + 9 * t) (zm_wi (zm_wi M 15 9 0) 16 6 (nI (t + 1))) M' → Q (some (.int (nI t))) M') (q2 : t < 4 → ∀ m f j M', zk_st tp n m = n → m ≤ 300 → zt_bad tp n f j → (1 ≤ f ∧ f ≤ 6) → M'.1 761 0 = 1 → M'.1 761 1 = nI f → M'.1 761 2 = nI (zk_st tp n j) → zt_H (41 + 9 * t) (zm_wi M 15 9 0) M' → Q (some (.int (-1))) M') : zm_R E (d + 96) mX11_text [.ref 15] M Q := by
  refine zX11_text hE rfl (fun G h0 h13 h60 => ?_)
  show G 0 [some (.ref 15)] [] M
  have l4 : (nI t < 4) = (t < 4) := propext (nI_ltI (b := 4) (by omega) (by decide))
  refine h0 _ _ _ ?_
  simp only [bX11_text_0, zw_0, zw_1, zs_aloadn0, zs_aloadNn0, zg_11_10, zg_11_106, zs_iconst, zs_iclt, zs_ireturn, zn_int, zn_b0, zn_b1, zb_15, zb_16, zb_17, za_18, za_19, za_20, za_21, za_22, zb_23, za_24, za_25, za_26, za_27, za_28, za_29, za_30, za_31, za_32, zb_35, za_36, za_37, za_38, za_39, za_40, zb_377, zb_378, za_379, za_380, za_381, za_382, za_383, zb_384, za_385, za_386, za_387, za_388, za_389, za_390, za_391, za_392, za_393, zb_396, za_397, za_398, za_399, za_400, za_401, zb_738, za_739, za_740, za_741, za_742, za_743, za_744, za_745, za_746, za_747, zb_748, za_749, za_750, zb_751, zb_752, za_753, za_754, za_755, za_756, zb_757, za_758, za_759, za_760, zb_761, za_763, za_764, za_765, true_and, and_true, Nat.reduceAdd, h6, l4]
  refine ⟨fun lt => ?_, fun ge => q0 (by omega)⟩
  have v1 : vp_in (nI t) 4 := vp_in_nI lt (by decide)
  have v2 : (nI t).toNatClampNeg = t := nI_clamp (by omega)
  have hL := zl_now lt
  refine h13 _ _ _ ?_
  simp only [bX11_text_13, zw_0, zw_1, zs_aloadn0, zs_aloadNn0, zg_11_65, zg_11_69, zg_11_73, zg_11_10, zg_11_109, zg_11_106, zs_aaload, zi_11_113, zs_iconst, zq_11_73, zg_11_117, zs_ifeq, zs_ireturn, zh_0, zh_1, zh_2, zh_3, zh_4, zt_i, zt_l, zt_r, zt_n, zn_int, zn_b0, zn_b1, zb_15, zb_16, zb_17, za_18, za_19, za_20, za_21, za_22, zb_23, za_24, za_25, za_26, za_27, za_28, za_29, za_30, za_31, za_32, zb_35, za_36, za_37, za_38, za_39, za_40, zb_377, zb_378, za_379, za_380, za_381, za_382, za_383, zb_384, za_385, za_386, za_387, za_388, za_389, za_390, za_391, za_392, za_393, zb_396, za_397, za_398, za_399, za_400, za_401, zb_738, za_739, za_740, za_741, za_742, za_743, za_744, za_745, za_746, za_747, zb_748, za_749, za_750, zb_751, zb_752, za_753, za_754, za_755, za_756, zb_757, za_758, za_759, za_760, zb_761, za_763, za_764, za_765, true_and, and_true, Nat.reduceAdd, h6, h9, zm_a34, v1, v2, zm_ao_34]
  have sh : ∀ {M1 : zm_M}, zt_H (41 + 9 * t) M M1 → M1.1 15 = M.1 15 ∧ M1.1 16 = M.1 16 := fun h => ⟨(h 15 (by simp; omega)).1, (h 16 (by simp; omega)).1⟩
  refine zd_read hE hW hL hT (fun m nc X M1 hm m3 ok a0 a1 a2 cl lw H => ?_) (fun m f j M1 hm m3 bad f1 a0 a1 a2 H => ?_)
  · have b1 : (zm_wi M1 15 9 0).1 761 1 = 0 := by rw [zm_wi_other (by decide)]; exact a1
    have s := sh H
    have b6 : (zm_wi M1 15 9 0).1 16 6 = nI t := by rw [zm_wi_other (by decide), s.2]; exact h6
    simp only [bX11_text_13, zw_0, zw_1, zs_aloadn0, zs_aloadNn0, zg_11_65, zg_11_69, zg_11_73, zg_11_10, zg_11_109, zg_11_106, zs_aaload, zi_11_113, zs_iconst, zq_11_73, zg_11_117, zs_ifeq, zs_ireturn, zh_0, zh_1, zh_2, zh_3, zh_4, zt_i, zt_l, zt_r, zt_n, zn_int, zn_b0, zn_b1, zb_15, zb_16, zb_17, za_18, za_19, za_20, za_21, za_22, zb_23, za_24, za_25, za_26, za_27, za_28, za_29, za_30, za_31, za_32, zb_35, za_36, za_37, za_38, za_39, za_40, zb_377, zb_378, za_379, za_380, za_381, za_382, za_383, zb_384, za_385, za_386, za_387, za_388, za_389, za_390, za_391, za_392, za_393, zb_396, za_397, za_398, za_399, za_400, za_401, zb_738, za_739, za_740, za_741, za_742, za_743, za_744, za_745, za_746, za_747, zb_748, za_749, za_750, zb_751, zb_752, za_753, za_754, za_755, za_756, zb_757, za_758, za_759, za_760, zb_761, za_763, za_764, za_765, true_and, and_true, Nat.reduceAdd, b1]
    refine ⟨fun _ => ?_, fun h => absurd trivial h⟩
    refine h60 _ _ _ ?_
    have c6 : (zm_wi (zm_wi M1 15 9 0) 16 6 (nI (t + 1))).1 16 6 = nI (t + 1) := by rw [zm_wi_same, if_pos rfl]
    simp only [bX11_text_60, zw_0, zw_1, zs_aloadn0, zs_aloadNn0, zg_11_10, zs_dupi, zs_dupr, zs_dupn, zg_11_106, zs_iconst, zs_iadd, zq_11_106, zs_isub, zs_ireturn, zn_int, zn_b0, zn_b1, zb_15, zb_16, zb_17, za_18, za_19, za_20, za_21, za_22, zb_23, za_24, za_25, za_26, za_27, za_28, za_29, za_30, za_31, za_32, zb_35, za_36, za_37, za_38, za_39, za_40, zb_377, zb_378, za_379, za_380, za_381, za_382, za_383, zb_384, za_385, za_386, za_387, za_388, za_389, za_390, za_391, za_392, za_393, zb_396, za_397, za_398, za_399, za_400, za_401, zb_738, za_739, za_740, za_741, za_742, za_743, za_744, za_745, za_746, za_747, zb_748, za_749, za_750, zb_751, zb_752, za_753, za_754, za_755, za_756, zb_757, za_758, za_759, za_760, zb_761, za_763, za_764, za_765, true_and, and_true, Nat.reduceAdd, b6, nI_1, c6, nI_pred]
    have ko : ∀ q, q ≠ 15 → q ≠ 16 → (zm_wi (zm_wi M1 15 9 0) 16 6 (nI (t + 1))).1 q = M1.1 q := fun q h1 h2 => by
      funext j
      rw [zm_wi_other h2, zm_wi_other h1]
    refine q1 lt m nc X _ hm m3 ok (by rw [ko 761 (by decide) (by decide)]; exact a0) (by rw [ko 761 (by decide) (by decide)]; exact a1) (by rw [ko 761 (by decide) (by decide)]; exact a2) ?_ (fun w hw => zl_law_c (lw w hw) (fun j j1 j2 => ko _ (by omega) (by omega))) (fun q hq => ?_)
    · unfold zl_cl at cl ⊢
      rw [ko _ (by omega) (by omega), ko _ (by omega) (by omega), ko _ (by omega) (by omega), ko _ (by omega) (by omega), ko _ (by omega) (by omega)]
      exact cl
    · have h := H q hq
      refine ⟨?_, h.2.1, h.2.2⟩
      funext j
      by_cases e16 : q = 16
      · subst e16
        rw [zm_wi_same, zm_wi_same, zm_wi_other (by decide), zm_wi_other (by decide), s.2]
      · rw [zm_wi_other e16, zm_wi_other e16]
        by_cases e15 : q = 15
        · subst e15
          rw [zm_wi_same, zm_wi_same, s.1]
        · rw [zm_wi_other e15, zm_wi_other e15, h.1]
  · have b1 : (zm_wi M1 15 9 0).1 761 1 = nI f := by rw [zm_wi_other (by decide)]; exact a1
    have e0 : (nI f = 0) = False := eq_false (nI_ne0 (by omega) (by omega))
    have s := sh H
    simp only [bX11_text_13, zw_0, zw_1, zs_aloadn0, zs_aloadNn0, zg_11_65, zg_11_69, zg_11_73, zg_11_10, zg_11_109, zg_11_106, zs_aaload, zi_11_113, zs_iconst, zq_11_73, zg_11_117, zs_ifeq, zs_ireturn, zh_0, zh_1, zh_2, zh_3, zh_4, zt_i, zt_l, zt_r, zt_n, zn_int, zn_b0, zn_b1, zb_15, zb_16, zb_17, za_18, za_19, za_20, za_21, za_22, zb_23, za_24, za_25, za_26, za_27, za_28, za_29, za_30, za_31, za_32, zb_35, za_36, za_37, za_38, za_39, za_40, zb_377, zb_378, za_379, za_380, za_381, za_382, za_383, zb_384, za_385, za_386, za_387, za_388, za_389, za_390, za_391, za_392, za_393, zb_396, za_397, za_398, za_399, za_400, za_401, zb_738, za_739, za_740, za_741, za_742, za_743, za_744, za_745, za_746, za_747, zb_748, za_749, za_750, zb_751, zb_752, za_753, za_754, za_755, za_756, zb_757, za_758, za_759, za_760, zb_761, za_763, za_764, za_765, true_and, and_true, Nat.reduceAdd, b1, e0]
    refine ⟨fun h => absurd h id, fun _ => ?_⟩
    refine q2 lt m f j _ hm m3 bad f1 (by rw [zm_wi_other (by decide)]; exact a0) b1 (by rw [zm_wi_other (by decide)]; exact a2) (fun q hq => ?_)
    have h := H q hq
    refine ⟨?_, h.2.1, h.2.2⟩
    funext j
    by_cases e15 : q = 15
    · subst e15
      rw [zm_wi_same, zm_wi_same, s.1]
    · rw [zm_wi_other e15, zm_wi_other e15, h.1]
