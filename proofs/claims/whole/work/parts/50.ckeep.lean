/-! ===== the class's keep, takeBack, undo; the ruling law ===== -/
/-- steps kept in the ring of the Service at b: c the next place, s how many -/
def zk_c (M : zm_M) (b s c : Nat) (H : Nat → zW) : Prop := M.1 b 3 = nI c ∧ c < 30 ∧ M.1 b 4 = nI s ∧ s ≤ 30 ∧ ∀ i, i < s → zw_c M (b + 61 + 10 * ((c + 30 - s + i) % 30)) (H i)
theorem zm_ao_33 (M : zm_M) (i : Nat) : zm_ao M 33 i = .ref (77 + 10 * i) := by
  have h : zy_ly 33 = (104, 30) := by decide +kernel
  unfold zm_ao
  rw [h]
  show Value.ref (zy_el 4 33 i) = _
  rfl
theorem zm_a33 (x : Int32) : (∃ t n, zm_ar 33 t n ∧ 4 ≤ t ∧ t < 7 ∧ vp_in x n) = vp_in x 30 := by
  have h : zy_ly 33 = (104, 30) := by decide +kernel
  refine propext ⟨?_, fun z => ⟨4, 30, ⟨by decide, h⟩, by decide, by decide, z⟩⟩
  rintro ⟨t, n, z1, _, _, z2⟩
  have e : (100 + t, n) = (104, 30) := z1.2.symm.trans h
  have : n = 30 := (Prod.mk.inj e).2
  rw [← this]; exact z2
theorem zw_bok {i : Nat} (hi : i < 30) : zw_ok (77 + 10 * i) := zw_ok_of (zw_bef i hi).1
theorem zw_c_set {M : zm_M} {w p k : Nat} {v : Int32} {S : zW} (hs : zw_sz S) (h : zw_c M w S) (hp : p < w ∨ w + 9 < p) : zw_c (zm_wi M p k v) w S := zw_cong hs h (fun q hq => zm_wi_other (by
  have : w ≤ q ∧ q ≤ w + 9 := by
    simp only [zw_L, List.mem_cons, List.not_mem_nil, or_false] at hq
    omega
  omega))
theorem zw_cp_2' (M : zm_M) (v w : Nat) : (zw_cp M v w).2 = M.2 := rfl
theorem zw_cp_keep {M : zm_M} {v w u : Nat} {S : zW} (hs : zw_sz S) (h : zw_c M u S) (hd : u + 10 ≤ v ∨ v + 10 ≤ u) : zw_c (zw_cp M v w) u S := zw_cong hs h (fun q hq => zw_cp_o (by
  have : u ≤ q ∧ q ≤ u + 9 := by
    simp only [zw_L, List.mem_cons, List.not_mem_nil, or_false] at hq
    omega
  omega))
def zj (M M' : zm_M) : Prop := (∀ q, q ≠ 16 → (q < 77 ∨ 377 ≤ q) → M'.1 q = M.1 q) ∧ M'.2 = M.2 ∧ zg 16 [3, 4] M M'
theorem c6_keep {E : zm_E} (hE : zm_ok E.2.2.1 E.2.2.2.2) (d : Nat) {s c : Nat} {M : zm_M} {S : zW} {H : Nat → zW} (hs : zw_sz S) (hH : ∀ i, i < s → zw_sz (H i)) (hS : zw_c M 23 S) (hk : zk_c M 16 s c H) {Q : Option Value → zm_M → Prop} (q : ∀ M' c', zw_c M' 23 S → zk_c M' 16 (zk_n s) c' (zk_ps s H S) → zj M M' → Q none M') : zm_R E (d + 2) mX6_keep [.ref 16] M Q := by
  refine zX6_keep hE rfl (fun G h0 => ?_)
  show G 0 [some (.ref 16)] [] M
  obtain ⟨k1, k2, k3, k4, k5⟩ := hk
  have v1 : vp_in (nI c) 30 := vp_in_nI k2 (by decide)
  have v2 : (nI c).toNatClampNeg = c := nI_clamp (by omega)
  have ob : zm_ob (77 + 10 * c) 10 = True := eq_true (zw_bok k2).1
  refine h0 _ _ _ ?_
  simp only [bX6_keep_0, zw_0, zw_1, zs_aloadn0, zs_aloadNn0, zg_6_25, zg_6_29, zs_aaload, zg_6_21, zi_6_69, zs_iconst, zs_iadd, zs_bipush, zs_irem, zq_6_29, zg_6_33, zi_6_73, zq_6_33, zs_return, zh_0, zh_1, zh_2, zh_3, zh_4, zt_i, zt_l, zt_r, zt_n, zn_int, zn_b0, zn_b1, zb_15, zb_16, zb_17, za_18, za_19, za_20, za_21, za_22, zb_23, za_24, za_25, za_26, za_27, za_28, za_29, za_30, za_31, za_32, zb_35, za_36, za_37, za_38, za_39, za_40, zb_377, zb_378, za_379, za_380, za_381, za_382, za_383, zb_384, za_385, za_386, za_387, za_388, za_389, za_390, za_391, za_392, za_393, zb_396, za_397, za_398, za_399, za_400, za_401, zb_738, za_739, za_740, za_741, za_742, za_743, za_744, za_745, za_746, za_747, zb_748, za_749, za_750, zb_751, zb_752, za_753, za_754, za_755, za_756, zb_757, za_758, za_759, za_760, zb_761, za_763, za_764, za_765, true_and, and_true, Nat.reduceAdd, k1, zm_a33, v1, v2, zm_ao_33, ob]
  refine c10_copy hE d (zw_bok k2) zw_23 ?_
  have l1 : ∀ x, (zw_cp M (77 + 10 * c) 23).1 16 x = M.1 16 x := fun x => by rw [zw_cp_o (by omega)]
  have e1 : nI c + 1 - (nI c + 1) / 30 * 30 = nI ((c + 1) % 30) := by
    rw [nI_1]; exact pk_rem (d := 30) (by omega) (by decide) (by decide)
  have l2 : ∀ v, (zm_wi (zw_cp M (77 + 10 * c) 23) 16 3 v).1 16 4 = nI s := fun v => by rw [zm_wi_same, if_neg (by decide), l1]; exact k3
  have e2 : (if (30 : Int32) < nI s + 1 then 30 else nI s + 1) = nI (zk_n s) := by
    rw [nI_1]
    unfold zk_n
    by_cases h : s = 30
    · subst h; rfl
    · rw [if_neg h]; exact if_neg (nI_nlt (b := s + 1) (a := 30) (by omega) (by omega))
  simp only [bX6_keep_0, zw_0, zw_1, zs_aloadn0, zs_aloadNn0, zg_6_25, zg_6_29, zs_aaload, zg_6_21, zi_6_69, zs_iconst, zs_iadd, zs_bipush, zs_irem, zq_6_29, zg_6_33, zi_6_73, zq_6_33, zs_return, zh_0, zh_1, zh_2, zh_3, zh_4, zt_i, zt_l, zt_r, zt_n, zn_int, zn_b0, zn_b1, zb_15, zb_16, zb_17, za_18, za_19, za_20, za_21, za_22, zb_23, za_24, za_25, za_26, za_27, za_28, za_29, za_30, za_31, za_32, zb_35, za_36, za_37, za_38, za_39, za_40, zb_377, zb_378, za_379, za_380, za_381, za_382, za_383, zb_384, za_385, za_386, za_387, za_388, za_389, za_390, za_391, za_392, za_393, zb_396, za_397, za_398, za_399, za_400, za_401, zb_738, za_739, za_740, za_741, za_742, za_743, za_744, za_745, za_746, za_747, zb_748, za_749, za_750, zb_751, zb_752, za_753, za_754, za_755, za_756, zb_757, za_758, za_759, za_760, zb_761, za_763, za_764, za_765, true_and, and_true, Nat.reduceAdd, l1, k1, e1, l2, e2]
  refine ⟨by decide, q _ ((c + 1) % 30) ?_ ⟨?_, by omega, ?_, ?_, fun i hi => ?_⟩ ⟨fun p h1 h2 => ?_, rfl, ?_⟩⟩
  · exact zw_c_set hs (zw_c_set hs (zw_cp_keep hs hS (by omega)) (by omega)) (by omega)
  · rw [zm_wi_same, if_neg (by decide), zm_wi_same, if_pos rfl]
  · rw [zm_wi_same, if_pos rfl]
  · unfold zk_n; split <;> omega
  · have like := zw_c_like hs hS (zw_cp_like (M := M) (v := 77 + 10 * c) (w := 23) (by omega))
    have fin : ∀ (T : zW) (j : Nat), j < 30 → zw_sz T → (j = c → T = S) → (j ≠ c → zw_c M (77 + 10 * j) T) → zw_c (zm_wi (zm_wi (zw_cp M (77 + 10 * c) 23) 16 3 (nI ((c + 1) % 30))) 16 4 (nI (zk_n s))) (77 + 10 * j) T := by
      intro T j hj hT h1 h2
      refine zw_c_set hT (zw_c_set hT ?_ (by omega)) (by omega)
      by_cases e : j = c
      · rw [h1 e, e]; exact like
      · exact zw_cp_keep hT (h2 e) (by omega)
    by_cases h30 : s = 30
    · have z1 : zk_n s = 30 := by unfold zk_n; rw [if_pos h30]
      have z2 : ∀ i, zk_ps s H S i = if i = 29 then S else H (i + 1) := fun i => by unfold zk_ps; rw [if_pos h30]
      rw [z1] at hi
      rw [z1, z2, show (c + 1) % 30 + 30 - 30 + i = (c + 1) % 30 + i by omega]
      rw [z1] at fin
      by_cases c29 : i = 29
      · rw [if_pos c29]
        refine fin S _ (by omega) hs (fun _ => rfl) (fun h => absurd (by omega) h)
      · rw [if_neg c29]
        refine fin (H (i + 1)) _ (by omega) (hH _ (by omega)) (fun h => absurd h (by omega)) (fun _ => ?_)
        have := k5 (i + 1) (by omega)
        rw [show (c + 30 - s + (i + 1)) % 30 = ((c + 1) % 30 + i) % 30 by omega] at this
        exact this
    · have z1 : zk_n s = s + 1 := by unfold zk_n; rw [if_neg h30]
      have z2 : ∀ i, zk_ps s H S i = if i = s then S else H i := fun i => by unfold zk_ps; rw [if_neg h30]
      rw [z1] at hi
      rw [z1, z2]
      rw [z1] at fin
      by_cases cs : i = s
      · rw [if_pos cs]
        refine fin S _ (by omega) hs (fun _ => rfl) (fun h => absurd (by omega) h)
      · rw [if_neg cs]
        refine fin (H i) _ (by omega) (hH _ (by omega)) (fun h => absurd h (by omega)) (fun _ => ?_)
        have := k5 i (by omega)
        rw [show (c + 30 - s + i) % 30 = ((c + 1) % 30 + 30 - (s + 1) + i) % 30 by omega] at this
        exact this
  · rw [zm_wi_other h1, zm_wi_other h1, zw_cp_o (by omega)]
  · intro j hj
    have j1 : j ≠ 3 := fun e => hj (by rw [e]; decide)
    have j2 : j ≠ 4 := fun e => hj (by rw [e]; decide)
    rw [zm_wi_same, if_neg j2, zm_wi_same, if_neg j1, l1]
def zj2 (M M' : zm_M) : Prop := (∀ q, q ≠ 16 → (q < 23 ∨ 33 ≤ q) → M'.1 q = M.1 q) ∧ M'.2 = M.2 ∧ zg 16 [3, 4] M M'
theorem c6_takeBack {E : zm_E} (hE : zm_ok E.2.2.1 E.2.2.2.2) (d : Nat) {t c : Nat} {M : zm_M} {H : Nat → zW} (hH : ∀ i, i < t + 1 → zw_sz (H i)) (hk : zk_c M 16 (t + 1) c H) {Q : Option Value → zm_M → Prop} (q : ∀ M' c', zw_c M' 23 (H t) → zk_c M' 16 t c' H → zj2 M M' → Q none M') : zm_R E (d + 2) mX6_takeBack [.ref 16] M Q := by
  refine zX6_takeBack hE rfl (fun G h0 h49 => ?_)
  show G 0 [some (.ref 16)] [] M
  obtain ⟨k1, k2, k3, k4, k5⟩ := hk
  have hc : (c + 29) % 30 < 30 := by omega
  have v1 : vp_in (nI ((c + 29) % 30)) 30 := vp_in_nI hc (by decide)
  have v2 : (nI ((c + 29) % 30)).toNatClampNeg = (c + 29) % 30 := nI_clamp (by omega)
  have e1 : nI c + 30 - 1 - (nI c + 30 - 1) / 30 * 30 = nI ((c + 29) % 30) := by
    have e : nI c + 30 - 1 = nI (c + 29) := by
      rw [show nI c + 30 = nI (c + 29 + 1) from nI_add c 30, nI_pred]
    rw [e]; exact pk_rem (d := 30) (by omega) (by decide) (by decide)
  have w3 : (zm_wi M 16 3 (nI ((c + 29) % 30))).1 16 3 = nI ((c + 29) % 30) := by rw [zm_wi_same, if_pos rfl]
  refine h0 _ _ _ ?_
  simp only [bX6_takeBack_0, zw_0, zw_1, zs_aloadn0, zs_aloadNn0, zg_6_33, zs_ifle, zg_6_29, zs_bipush, zs_iadd, zs_iconst, zs_isub, zs_irem, zq_6_29, zg_6_21, zg_6_25, zs_aaload, zi_6_69, zs_dupi, zs_dupr, zs_dupn, zq_6_33, zh_0, zh_1, zh_2, zh_3, zh_4, zt_i, zt_l, zt_r, zt_n, zb_15, zb_16, zb_17, za_18, za_19, za_20, za_21, za_22, zb_23, za_24, za_25, za_26, za_27, za_28, za_29, za_30, za_31, za_32, zb_35, za_36, za_37, za_38, za_39, za_40, zb_377, zb_378, za_379, za_380, za_381, za_382, za_383, zb_384, za_385, za_386, za_387, za_388, za_389, za_390, za_391, za_392, za_393, zb_396, za_397, za_398, za_399, za_400, za_401, zb_738, za_739, za_740, za_741, za_742, za_743, za_744, za_745, za_746, za_747, zb_748, za_749, za_750, zb_751, zb_752, za_753, za_754, za_755, za_756, zb_757, za_758, za_759, za_760, zb_761, za_763, za_764, za_765, true_and, and_true, Nat.reduceAdd, k1, k3, e1, w3, zm_a33, v1, v2, zm_ao_33]
  refine ⟨fun h => absurd h (nI_nle (by omega) (by omega)), fun _ => ⟨by decide, ?_⟩⟩
  refine c10_copy hE d zw_23 (zw_bok hc) ?_
  have l1 : ∀ x, (zw_cp (zm_wi M 16 3 (nI ((c + 29) % 30))) 23 (77 + 10 * ((c + 29) % 30))).1 16 x = (zm_wi M 16 3 (nI ((c + 29) % 30))).1 16 x := fun x => by rw [zw_cp_o (by omega)]
  have w4 : (zm_wi M 16 3 (nI ((c + 29) % 30))).1 16 4 = nI (t + 1) := by rw [zm_wi_same, if_neg (by decide)]; exact k3
  have ep : nI (t + 1) - 1 = nI t := nI_pred t
  simp only [bX6_takeBack_0, zw_0, zw_1, zs_aloadn0, zs_aloadNn0, zg_6_33, zs_ifle, zg_6_29, zs_bipush, zs_iadd, zs_iconst, zs_isub, zs_irem, zq_6_29, zg_6_21, zg_6_25, zs_aaload, zi_6_69, zs_dupi, zs_dupr, zs_dupn, zq_6_33, zh_0, zh_1, zh_2, zh_3, zh_4, zt_i, zt_l, zt_r, zt_n, zb_15, zb_16, zb_17, za_18, za_19, za_20, za_21, za_22, zb_23, za_24, za_25, za_26, za_27, za_28, za_29, za_30, za_31, za_32, zb_35, za_36, za_37, za_38, za_39, za_40, zb_377, zb_378, za_379, za_380, za_381, za_382, za_383, zb_384, za_385, za_386, za_387, za_388, za_389, za_390, za_391, za_392, za_393, zb_396, za_397, za_398, za_399, za_400, za_401, zb_738, za_739, za_740, za_741, za_742, za_743, za_744, za_745, za_746, za_747, zb_748, za_749, za_750, zb_751, zb_752, za_753, za_754, za_755, za_756, zb_757, za_758, za_759, za_760, zb_761, za_763, za_764, za_765, true_and, and_true, Nat.reduceAdd, l1, w4, ep]
  refine h49 _ _ _ ?_
  simp only [bX6_takeBack_49, zw_0, zw_1, zs_return, zn_int, zn_b0, zn_b1, zb_15, zb_16, zb_17, za_18, za_19, za_20, za_21, za_22, zb_23, za_24, za_25, za_26, za_27, za_28, za_29, za_30, za_31, za_32, zb_35, za_36, za_37, za_38, za_39, za_40, zb_377, zb_378, za_379, za_380, za_381, za_382, za_383, zb_384, za_385, za_386, za_387, za_388, za_389, za_390, za_391, za_392, za_393, zb_396, za_397, za_398, za_399, za_400, za_401, zb_738, za_739, za_740, za_741, za_742, za_743, za_744, za_745, za_746, za_747, zb_748, za_749, za_750, zb_751, zb_752, za_753, za_754, za_755, za_756, zb_757, za_758, za_759, za_760, zb_761, za_763, za_764, za_765, true_and, and_true, Nat.reduceAdd]
  refine q _ ((c + 29) % 30) ?_ ⟨?_, by omega, ?_, by omega, fun i hi => ?_⟩ ⟨fun p h1 h2 => ?_, rfl, ?_⟩
  · refine zw_c_set (hH t (by omega)) ?_ (by omega)
    have := k5 t (by omega)
    rw [show (c + 30 - (t + 1) + t) % 30 = (c + 29) % 30 by omega] at this
    exact zw_c_like (hH t (by omega)) (zw_c_set (hH t (by omega)) this (by omega)) (zw_cp_like (by omega))
  · rw [zm_wi_same, if_neg (by decide), l1, zm_wi_same, if_pos rfl]
  · rw [zm_wi_same, if_pos rfl]
  · refine zw_c_set (hH i (by omega)) (zw_cp_keep (hH i (by omega)) (zw_c_set (hH i (by omega)) ?_ (by omega)) (by omega)) (by omega)
    have := k5 i (by omega)
    rw [show (c + 30 - (t + 1) + i) % 30 = ((c + 29) % 30 + 30 - t + i) % 30 by omega] at this
    exact this
  · rw [zm_wi_other h1, zw_cp_o (by omega), zm_wi_other h1]
  · intro j hj
    have j1 : j ≠ 3 := fun e => hj (by rw [e]; decide)
    have j2 : j ≠ 4 := fun e => hj (by rw [e]; decide)
    rw [zm_wi_same, if_neg j2, l1, zm_wi_same, if_neg j1]
theorem c11_undo {E : zm_E} (hE : zm_ok E.2.2.1 E.2.2.2.2) (d : Nat) {s c : Nat} {M : zm_M} {H : Nat → zW} (hH : ∀ i, i < s → zw_sz (H i)) (hk : zk_c M 16 s c H) {Q : Option Value → zm_M → Prop} (q0 : s = 0 → Q (some (.int (-1))) M) (q : ∀ M' t c', s = t + 1 → zw_c M' 23 (H t) → zk_c M' 16 t c' H → zj2 M M' → Q (some (.int (nI t))) M') : zm_R E (d + 3) mX11_undo [.ref 15] M Q := by
  refine zX11_undo hE rfl (fun G h0 h12 => ?_)
  show G 0 [some (.ref 15)] [] M
  have k4 := hk.2.2.2.1
  have k3 := hk.2.2.1
  have c0 : (nI s = 0) = (s = 0) := propext (nI_eq (b := 0) (by omega) (by decide))
  refine h0 _ _ _ ?_
  simp only [bX11_undo_0, zw_0, zw_1, zs_aloadn0, zs_aloadNn0, zg_11_10, zg_11_228, zs_ifne, zs_iconst, zs_ireturn, zn_int, zn_b0, zn_b1, zb_15, zb_16, zb_17, za_18, za_19, za_20, za_21, za_22, zb_23, za_24, za_25, za_26, za_27, za_28, za_29, za_30, za_31, za_32, zb_35, za_36, za_37, za_38, za_39, za_40, zb_377, zb_378, za_379, za_380, za_381, za_382, za_383, zb_384, za_385, za_386, za_387, za_388, za_389, za_390, za_391, za_392, za_393, zb_396, za_397, za_398, za_399, za_400, za_401, zb_738, za_739, za_740, za_741, za_742, za_743, za_744, za_745, za_746, za_747, zb_748, za_749, za_750, zb_751, zb_752, za_753, za_754, za_755, za_756, zb_757, za_758, za_759, za_760, zb_761, za_763, za_764, za_765, true_and, and_true, Nat.reduceAdd, k3, c0]
  refine ⟨fun hne => ?_, fun hz => q0 hz⟩
  obtain ⟨t, ht⟩ : ∃ t, s = t + 1 := ⟨s - 1, by omega⟩
  have q' := fun M' c' => q M' t c' ht
  subst ht
  refine h12 _ _ _ ?_
  simp only [bX11_undo_12, zw_0, zw_1, zs_aloadn0, zs_aloadNn0, zg_11_10, zi_11_231, zg_11_228, zs_ireturn, zh_0, zh_1, zh_2, zh_3, zh_4, zt_i, zt_l, zt_r, zt_n, zn_int, zn_b0, zn_b1, zb_15, zb_16, zb_17, za_18, za_19, za_20, za_21, za_22, zb_23, za_24, za_25, za_26, za_27, za_28, za_29, za_30, za_31, za_32, zb_35, za_36, za_37, za_38, za_39, za_40, zb_377, zb_378, za_379, za_380, za_381, za_382, za_383, zb_384, za_385, za_386, za_387, za_388, za_389, za_390, za_391, za_392, za_393, zb_396, za_397, za_398, za_399, za_400, za_401, zb_738, za_739, za_740, za_741, za_742, za_743, za_744, za_745, za_746, za_747, zb_748, za_749, za_750, zb_751, zb_752, za_753, za_754, za_755, za_756, zb_757, za_758, za_759, za_760, zb_761, za_763, za_764, za_765, true_and, and_true, Nat.reduceAdd]
  refine c6_takeBack hE d hH hk (fun M' c' a b e => ?_)
  have k3' := b.2.2.1
  simp only [bX11_undo_12, zw_0, zw_1, zs_aloadn0, zs_aloadNn0, zg_11_10, zi_11_231, zg_11_228, zs_ireturn, zh_0, zh_1, zh_2, zh_3, zh_4, zt_i, zt_l, zt_r, zt_n, zn_int, zn_b0, zn_b1, zb_15, zb_16, zb_17, za_18, za_19, za_20, za_21, za_22, zb_23, za_24, za_25, za_26, za_27, za_28, za_29, za_30, za_31, za_32, zb_35, za_36, za_37, za_38, za_39, za_40, zb_377, zb_378, za_379, za_380, za_381, za_382, za_383, zb_384, za_385, za_386, za_387, za_388, za_389, za_390, za_391, za_392, za_393, zb_396, za_397, za_398, za_399, za_400, za_401, zb_738, za_739, za_740, za_741, za_742, za_743, za_744, za_745, za_746, za_747, zb_748, za_749, za_750, zb_751, zb_752, za_753, za_754, za_755, za_756, zb_757, za_758, za_759, za_760, zb_761, za_763, za_764, za_765, true_and, and_true, Nat.reduceAdd, k3']
  exact q' M' c' a b e
/-- the law that rules: a place, or none -/
def zr_law (M : zm_M) : Value := if zi_in (M.1 16 7) 0 (M.1 16 6 - 1) = 0 then .null else .ref (41 + 9 * (M.1 16 7).toNatClampNeg)
theorem zm_ao_34 (M : zm_M) (i : Nat) : zm_ao M 34 i = .ref (41 + 9 * i) := by
  have h : zy_ly 34 = (105, 4) := by decide +kernel
  unfold zm_ao
  rw [h]
  show Value.ref (zy_el 5 34 i) = _
  rfl
theorem zm_a34 (x : Int32) : (∃ t n, zm_ar 34 t n ∧ 4 ≤ t ∧ t < 7 ∧ vp_in x n) = vp_in x 4 := by
  have h : zy_ly 34 = (105, 4) := by decide +kernel
  refine propext ⟨?_, fun z => ⟨5, 4, ⟨by decide, h⟩, by decide, by decide, z⟩⟩
  rintro ⟨t, n, z1, _, _, z2⟩
  have e : (100 + t, n) = (105, 4) := z1.2.symm.trans h
  have : n = 4 := (Prod.mk.inj e).2
  rw [← this]; exact z2
theorem c6_law {E : zm_E} (hE : zm_ok E.2.2.1 E.2.2.2.2) (d : Nat) {t : Nat} (ht : t ≤ 4) {M : zm_M} (hc : M.1 16 6 = nI t) : zm_R E (d + 2) mX6_law [.ref 16] M (fun r M' => r = some (zr_law M) ∧ M' = M) := by
  refine zX6_law hE rfl (fun G h0 h29 h30 => ?_)
  show G 0 [some (.ref 16)] [] M
  refine h0 _ _ _ ?_
  simp only [bX6_law_0, zw_0, zw_1, zs_aloadn0, zs_aloadNn0, zg_6_45, zs_iconst, zg_6_42, zs_isub, zi_6_79, zs_ifeq, zg_6_38, zs_aaload, zs_goto, zh_0, zh_1, zh_2, zh_3, zh_4, zt_i, zt_l, zt_r, zt_n, zb_15, zb_16, zb_17, za_18, za_19, za_20, za_21, za_22, zb_23, za_24, za_25, za_26, za_27, za_28, za_29, za_30, za_31, za_32, zb_35, za_36, za_37, za_38, za_39, za_40, zb_377, zb_378, za_379, za_380, za_381, za_382, za_383, zb_384, za_385, za_386, za_387, za_388, za_389, za_390, za_391, za_392, za_393, zb_396, za_397, za_398, za_399, za_400, za_401, zb_738, za_739, za_740, za_741, za_742, za_743, za_744, za_745, za_746, za_747, zb_748, za_749, za_750, zb_751, zb_752, za_753, za_754, za_755, za_756, zb_757, za_758, za_759, za_760, zb_761, za_763, za_764, za_765, true_and, and_true, Nat.reduceAdd]
  refine zm_R_eq (c11_within hE d _ 0 _ M) ?_
  simp only [bX6_law_0, zw_0, zw_1, zs_aloadn0, zs_aloadNn0, zg_6_45, zs_iconst, zg_6_42, zs_isub, zi_6_79, zs_ifeq, zg_6_38, zs_aaload, zs_goto, zh_0, zh_1, zh_2, zh_3, zh_4, zt_i, zt_l, zt_r, zt_n, zb_15, zb_16, zb_17, za_18, za_19, za_20, za_21, za_22, zb_23, za_24, za_25, za_26, za_27, za_28, za_29, za_30, za_31, za_32, zb_35, za_36, za_37, za_38, za_39, za_40, zb_377, zb_378, za_379, za_380, za_381, za_382, za_383, zb_384, za_385, za_386, za_387, za_388, za_389, za_390, za_391, za_392, za_393, zb_396, za_397, za_398, za_399, za_400, za_401, zb_738, za_739, za_740, za_741, za_742, za_743, za_744, za_745, za_746, za_747, zb_748, za_749, za_750, zb_751, zb_752, za_753, za_754, za_755, za_756, zb_757, za_758, za_759, za_760, zb_761, za_763, za_764, za_765, true_and, and_true, Nat.reduceAdd]
  refine ⟨fun h => ?_, fun h => ?_⟩
  · refine h29 _ _ _ ?_
    simp only [bX6_law_29, zw_0, zw_1, zs_aconst_null, zb_15, zb_16, zb_17, za_18, za_19, za_20, za_21, za_22, zb_23, za_24, za_25, za_26, za_27, za_28, za_29, za_30, za_31, za_32, zb_35, za_36, za_37, za_38, za_39, za_40, zb_377, zb_378, za_379, za_380, za_381, za_382, za_383, zb_384, za_385, za_386, za_387, za_388, za_389, za_390, za_391, za_392, za_393, zb_396, za_397, za_398, za_399, za_400, za_401, zb_738, za_739, za_740, za_741, za_742, za_743, za_744, za_745, za_746, za_747, zb_748, za_749, za_750, zb_751, zb_752, za_753, za_754, za_755, za_756, zb_757, za_758, za_759, za_760, zb_761, za_763, za_764, za_765, true_and, and_true, Nat.reduceAdd]
    refine h30 _ _ _ ?_
    simp only [bX6_law_30, zw_0, zw_1, zs_areturn, zs_areturnN, zn_int, zn_b0, zn_b1, zb_15, zb_16, zb_17, za_18, za_19, za_20, za_21, za_22, zb_23, za_24, za_25, za_26, za_27, za_28, za_29, za_30, za_31, za_32, zb_35, za_36, za_37, za_38, za_39, za_40, zb_377, zb_378, za_379, za_380, za_381, za_382, za_383, zb_384, za_385, za_386, za_387, za_388, za_389, za_390, za_391, za_392, za_393, zb_396, za_397, za_398, za_399, za_400, za_401, zb_738, za_739, za_740, za_741, za_742, za_743, za_744, za_745, za_746, za_747, zb_748, za_749, za_750, zb_751, zb_752, za_753, za_754, za_755, za_756, zb_757, za_758, za_759, za_760, zb_761, za_763, za_764, za_765, true_and, and_true, Nat.reduceAdd]
    unfold zr_law
    rw [if_pos h]
    exact ⟨trivial, rfl⟩
  · have h' := h
    rw [hc, zo_in (by omega)] at h'
    have h' : zo_is t (M.1 16 7) = true := by simpa [zi_b1] using h'
    obtain ⟨j, hj, ej⟩ := zo_of h' (by omega)
    have v1 : vp_in (nI j) 4 := vp_in_nI (by omega) (by decide)
    have v2 : (nI j).toNatClampNeg = j := nI_clamp (by omega)
    rw [ej, v2, zm_a34, zm_ao_34]
    refine ⟨v1, ?_⟩
    refine h30 _ _ _ ?_
    simp only [bX6_law_30, zw_0, zw_1, zs_areturn, zs_areturnN, zn_int, zn_b0, zn_b1, zb_15, zb_16, zb_17, za_18, za_19, za_20, za_21, za_22, zb_23, za_24, za_25, za_26, za_27, za_28, za_29, za_30, za_31, za_32, zb_35, za_36, za_37, za_38, za_39, za_40, zb_377, zb_378, za_379, za_380, za_381, za_382, za_383, zb_384, za_385, za_386, za_387, za_388, za_389, za_390, za_391, za_392, za_393, zb_396, za_397, za_398, za_399, za_400, za_401, zb_738, za_739, za_740, za_741, za_742, za_743, za_744, za_745, za_746, za_747, zb_748, za_749, za_750, zb_751, zb_752, za_753, za_754, za_755, za_756, zb_757, za_758, za_759, za_760, zb_761, za_763, za_764, za_765, true_and, and_true, Nat.reduceAdd]
    refine ⟨trivial, ?_⟩
    unfold zr_law
    rw [if_neg h, ej, v2]
