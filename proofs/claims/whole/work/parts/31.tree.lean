/-! ===== trees that agree; meets, steps ===== -/
def zt_eq (n : Nat) (b c : Nat → Int32) : Prop := ∀ i, i < n → b i = c i
theorem zt_wf_c {n : Nat} {b c : Nat → Int32} (h : zt_wf n b) (e : zt_eq n b c) : zt_wf n c :=
  ⟨h.1, fun h0 => by rw [← e 0 h0]; exact h.2.1 h0, fun i h0 hi => by rw [← e i hi]; exact h.2.2 i h0 hi⟩
theorem zt_rk_c {n : Nat} {b c : Nat → Int32} (h : zt_wf n b) (e : zt_eq n b c) : ∀ p, p < n → zt_rk b p = zt_rk c p := by
  intro p
  induction p using Nat.strongRecOn with
  | _ p ih =>
    intro hp
    rcases h.at hp with z | ⟨j, h1, h2, z⟩
    · rw [zt_rk_none z, zt_rk_none (by rw [← e p hp]; exact z)]
    · rw [zt_rk_boss h hp h1 z, zt_rk_boss (zt_wf_c h e) hp h1 (by rw [← e p hp]; exact z), ih j h1 h2]
theorem zt_ab_c {n : Nat} {b c : Nat → Int32} (h : zt_wf n b) (e : zt_eq n b c) {p : Nat} (hp : p < n) : ∀ q, q < n → zt_ab b p q = zt_ab c p q := by
  intro q
  induction q using Nat.strongRecOn with
  | _ q ih =>
    intro hq
    rcases h.at hq with z | ⟨j, h1, h2, z⟩
    · rw [zt_ab_none z, zt_ab_none (by rw [← e q hq]; exact z)]
    · rw [zt_ab_boss h hq h1 z hp, zt_ab_boss (zt_wf_c h e) hq h1 (by rw [← e q hq]; exact z) hp, ih j h1 h2]
theorem zt_ae_c {n : Nat} {b c : Nat → Int32} (h : zt_wf n b) (e : zt_eq n b c) {p q : Nat} (hp : p < n) (hq : q < n) : zt_ae b p q = zt_ae c p q := by
  unfold zt_ae
  rw [zt_ab_c h e hp q hq]
theorem zt_mt_c {n : Nat} {b c : Nat → Int32} (h : zt_wf n b) (e : zt_eq n b c) {q : Nat} (hq : q < n) : ∀ p, p < n → zt_mt b p q = zt_mt c p q := by
  intro p
  induction p using Nat.strongRecOn with
  | _ p ih =>
    intro hp
    have hae := zt_ae_c h e hp hq
    cases ha : zt_ae b p q with
    | true => rw [zt_mt_at ha, zt_mt_at (by rw [← hae]; exact ha)]
    | false =>
      have h0 : p ≠ 0 := fun z => by rw [z, zt_ae_0 h q hq] at ha; cases ha
      obtain ⟨j, h1, z⟩ := h.2.2 p (by omega) hp
      rw [zt_mt_up h hp hq h1 z ha, zt_mt_up (zt_wf_c h e) hp hq h1 (by rw [← e p hp]; exact z) (by rw [← hae]; exact ha), ih j h1 (by omega)]
theorem zt_ds_c {n : Nat} {b c : Nat → Int32} (h : zt_wf n b) (e : zt_eq n b c) {p q : Nat} (hp : p < n) (hq : q < n) : zt_ds b p q = zt_ds c p q := by
  unfold zt_ds
  have := zt_mt_lt h hq p hp
  rw [zt_rk_c h e p hp, zt_rk_c h e q hq, zt_rk_c h e _ (show zt_mt b p q < n by omega), zt_mt_c h e hq p hp]
theorem zt_dn_c {n : Nat} {b c : Nat → Int32} (h : zt_wf n b) (e : zt_eq n b c) {p : Nat} (hp : p < n) : ∀ q, q < n → zt_ab b p q = true → zt_dn b p q = zt_dn c p q := by
  intro q
  induction q using Nat.strongRecOn with
  | _ q ih =>
    intro hq ha
    have h10 := h.1
    rcases h.at hq with z | ⟨j, h1, h2, z⟩
    · rw [zt_ab_none z] at ha; cases ha
    · rw [zt_ab_boss h hq h1 z hp] at ha
      have z2 : c q = nI j := by rw [← e q hq]; exact z
      by_cases hjp : j = p
      · have a1 : zt_dn b p q = q := by unfold zt_dn zt_dnf; rw [if_pos (by rw [z, hjp])]
        have a2 : zt_dn c p q = q := by unfold zt_dn zt_dnf; rw [if_pos (by rw [z2, hjp])]
        rw [a1, a2]
      · have hjn : ¬ nI j = nI p := fun e2 => hjp ((nI_eq (by omega) (by omega)).mp e2)
        simp only [hjp, decide_false, Bool.false_or] at ha
        have ha2 : zt_ab c p j = true := by rw [← zt_ab_c h e hp j h2]; exact ha
        have a1 : zt_dn b p q = zt_dn b p j := by
          unfold zt_dn
          rw [zt_dnf, z, if_neg hjn, nI_clamp (by omega), zt_dnf_ge h hp j q (j + 1) h2 ha h1 (by omega)]
        have a2 : zt_dn c p q = zt_dn c p j := by
          unfold zt_dn
          rw [zt_dnf, z2, if_neg hjn, nI_clamp (by omega), zt_dnf_ge (zt_wf_c h e) hp j q (j + 1) h2 ha2 h1 (by omega)]
        rw [a1, a2, ih j h1 h2 ha]
theorem zb_set_c {P R : Nat → Bool} : ∀ k, (∀ i, i < k → P i = R i) → zb_set P k = zb_set R k := by
  intro k
  induction k with
  | zero => intro _; rfl
  | succ k ih => intro h; simp only [zb_set]; rw [ih (fun i hi => h i (by omega)), h k (by omega)]
/-- two officers, else -1 -/
theorem c_meets {E : zm_E} (hE : zm_ok E.2.2.1 E.2.2.2.2) (d : Nat) {n : Nat} (p q : Int32) {M : zm_M} (hw : zt_wf n (fun i => M.1 1 (90 + i))) (hc : M.1 1 0 = nI n) {Q : Option Value → zm_M → Prop} (q1 : (zo_is n p = false ∨ zo_is n q = false) → Q (some (.int (-1))) M) (q2 : ∀ i j, i < n → j < n → p = nI i → q = nI j → Q (some (.int (nI (zt_mt (fun i => M.1 1 (90 + i)) i j)))) M) : zm_R E (d + 4) mX12_meets [.ref 0, .int p, .int q] M Q := by
  have hn := hw.1
  refine zX12_meets hE rfl (fun G h0 h25 h26 => ?_)
  show G 0 [some (.ref 0), some (.int p), some (.int q)] [] M
  have bad : (zo_is n p = false ∨ zo_is n q = false) → G 25 [some (.ref 0), some (.int p), some (.int q)] [] M := by
    intro hb
    refine h25 _ _ _ ?_
    simp only [bX12_meets_25, zw_0, zw_1, zs_iconst, zb_0, za_1, za_2, za_3, za_4, za_5, za_6, za_7, za_8, za_9, za_10, za_11, za_12, za_13, za_14, true_and, and_true, Nat.reduceAdd]
    refine h26 _ _ _ ?_
    simp only [bX12_meets_26, zw_0, zw_1, zs_ireturn, zn_int, zn_b0, zn_b1, zb_0, za_1, za_2, za_3, za_4, za_5, za_6, za_7, za_8, za_9, za_10, za_11, za_12, za_13, za_14, true_and, and_true, Nat.reduceAdd]
    exact q1 hb
  refine h0 _ _ _ ?_
  simp only [bX12_meets_0, zw_0, zw_1, zs_aloadn0, zs_aloadNn0, zs_iloadn1, zi_12_73, zs_ifeq, zs_iloadn2, zi_12_411, zs_goto, zh_0, zh_1, zh_2, zh_3, zh_4, zt_i, zt_l, zt_r, zt_n, zb_0, za_1, za_2, za_3, za_4, za_5, za_6, za_7, za_8, za_9, za_10, za_11, za_12, za_13, za_14, true_and, and_true, Nat.reduceAdd]
  refine zm_R_eq (c_isOfficer hE (d + 1) p M) ?_
  rw [hc, zo_in (by omega)]
  simp only [bX12_meets_0, zw_0, zw_1, zs_aloadn0, zs_aloadNn0, zs_iloadn1, zi_12_73, zs_ifeq, zs_iloadn2, zi_12_411, zs_goto, zh_0, zh_1, zh_2, zh_3, zh_4, zt_i, zt_l, zt_r, zt_n, zb_0, za_1, za_2, za_3, za_4, za_5, za_6, za_7, za_8, za_9, za_10, za_11, za_12, za_13, za_14, true_and, and_true, Nat.reduceAdd, zi_b0]
  refine ⟨fun h => bad (Or.inl h), fun hp => ?_⟩
  refine zm_R_eq (c_isOfficer hE (d + 1) q M) ?_
  rw [hc, zo_in (by omega)]
  simp only [bX12_meets_0, zw_0, zw_1, zs_aloadn0, zs_aloadNn0, zs_iloadn1, zi_12_73, zs_ifeq, zs_iloadn2, zi_12_411, zs_goto, zh_0, zh_1, zh_2, zh_3, zh_4, zt_i, zt_l, zt_r, zt_n, zb_0, za_1, za_2, za_3, za_4, za_5, za_6, za_7, za_8, za_9, za_10, za_11, za_12, za_13, za_14, true_and, and_true, Nat.reduceAdd, zi_b0]
  refine ⟨fun h => bad (Or.inr h), fun hq => ?_⟩
  simp only [Bool.not_eq_false] at hp hq
  obtain ⟨i, hi, rfl⟩ := zo_of hp (by omega)
  obtain ⟨j, hj, rfl⟩ := zo_of hq (by omega)
  refine zm_R_eq (c_meetOf hE d hw hc hi hj) ?_
  simp only [bX12_meets_0, zw_0, zw_1, zs_aloadn0, zs_aloadNn0, zs_iloadn1, zi_12_73, zs_ifeq, zs_iloadn2, zi_12_411, zs_goto, zh_0, zh_1, zh_2, zh_3, zh_4, zt_i, zt_l, zt_r, zt_n, zb_0, za_1, za_2, za_3, za_4, za_5, za_6, za_7, za_8, za_9, za_10, za_11, za_12, za_13, za_14, true_and, and_true, Nat.reduceAdd]
  refine h26 _ _ _ ?_
  simp only [bX12_meets_26, zw_0, zw_1, zs_ireturn, zn_int, zn_b0, zn_b1, zb_0, za_1, za_2, za_3, za_4, za_5, za_6, za_7, za_8, za_9, za_10, za_11, za_12, za_13, za_14, true_and, and_true, Nat.reduceAdd]
  exact q2 i j hi hj rfl rfl
theorem c11_meets {E : zm_E} (hE : zm_ok E.2.2.1 E.2.2.2.2) (d : Nat) {n : Nat} (p q : Int32) {M : zm_M} (hw : zt_wf n (M.1 18)) (hc : M.1 17 0 = nI n) {Q : Option Value → zm_M → Prop} (q1 : (zo_is n p = false ∨ zo_is n q = false) → Q (some (.int (-1))) M) (q2 : ∀ i j, i < n → j < n → p = nI i → q = nI j → Q (some (.int (nI (zt_mt (M.1 18) i j)))) M) : zm_R E (d + 3) mX11_meets [.ref 15, .int p, .int q] M Q := by
  have hn := hw.1
  refine zX11_meets hE rfl (fun G h0 h28 h30 => ?_)
  show G 0 [some (.ref 15), some (.int p), some (.int q)] [] M
  have bad : (zo_is n p = false ∨ zo_is n q = false) → G 28 [some (.ref 15), some (.int p), some (.int q)] [] M := by
    intro hb
    refine h28 _ _ _ ?_
    simp only [bX11_meets_28, zw_0, zw_1, zs_iconst, zs_ireturn, zn_int, zn_b0, zn_b1, zb_15, zb_16, zb_17, za_18, za_19, za_20, za_21, za_22, zb_23, za_24, za_25, za_26, za_27, za_28, za_29, za_30, za_31, za_32, zb_35, za_36, za_37, za_38, za_39, za_40, zb_377, zb_378, za_379, za_380, za_381, za_382, za_383, zb_384, za_385, za_386, za_387, za_388, za_389, za_390, za_391, za_392, za_393, zb_396, za_397, za_398, za_399, za_400, za_401, zb_738, za_739, za_740, za_741, za_742, za_743, za_744, za_745, za_746, za_747, zb_748, za_749, za_750, zb_751, zb_752, za_753, za_754, za_755, za_756, zb_757, za_758, za_759, za_760, zb_761, za_763, za_764, za_765, true_and, and_true, Nat.reduceAdd]
    exact q1 hb
  refine h0 _ _ _ ?_
  simp only [bX11_meets_0, zw_0, zw_1, zs_aloadn0, zs_aloadNn0, zg_11_10, zg_11_28, zs_iloadn1, zi_11_82, zs_ifeq, zs_iloadn2, zs_ifne, zh_0, zh_1, zh_2, zh_3, zh_4, zt_i, zt_l, zt_r, zt_n, zb_15, zb_16, zb_17, za_18, za_19, za_20, za_21, za_22, zb_23, za_24, za_25, za_26, za_27, za_28, za_29, za_30, za_31, za_32, zb_35, za_36, za_37, za_38, za_39, za_40, zb_377, zb_378, za_379, za_380, za_381, za_382, za_383, zb_384, za_385, za_386, za_387, za_388, za_389, za_390, za_391, za_392, za_393, zb_396, za_397, za_398, za_399, za_400, za_401, zb_738, za_739, za_740, za_741, za_742, za_743, za_744, za_745, za_746, za_747, zb_748, za_749, za_750, zb_751, zb_752, za_753, za_754, za_755, za_756, zb_757, za_758, za_759, za_760, zb_761, za_763, za_764, za_765, true_and, and_true, Nat.reduceAdd]
  refine zm_R_eq (c7_has hE (d + 1) (n := n) (by omega) p hc) ?_
  simp only [bX11_meets_0, zw_0, zw_1, zs_aloadn0, zs_aloadNn0, zg_11_10, zg_11_28, zs_iloadn1, zi_11_82, zs_ifeq, zs_iloadn2, zs_ifne, zh_0, zh_1, zh_2, zh_3, zh_4, zt_i, zt_l, zt_r, zt_n, zb_15, zb_16, zb_17, za_18, za_19, za_20, za_21, za_22, zb_23, za_24, za_25, za_26, za_27, za_28, za_29, za_30, za_31, za_32, zb_35, za_36, za_37, za_38, za_39, za_40, zb_377, zb_378, za_379, za_380, za_381, za_382, za_383, zb_384, za_385, za_386, za_387, za_388, za_389, za_390, za_391, za_392, za_393, zb_396, za_397, za_398, za_399, za_400, za_401, zb_738, za_739, za_740, za_741, za_742, za_743, za_744, za_745, za_746, za_747, zb_748, za_749, za_750, zb_751, zb_752, za_753, za_754, za_755, za_756, zb_757, za_758, za_759, za_760, zb_761, za_763, za_764, za_765, true_and, and_true, Nat.reduceAdd, zi_b0]
  refine ⟨fun h => bad (Or.inl h), fun hp => ?_⟩
  refine zm_R_eq (c7_has hE (d + 1) (n := n) (by omega) q hc) ?_
  simp only [bX11_meets_0, zw_0, zw_1, zs_aloadn0, zs_aloadNn0, zg_11_10, zg_11_28, zs_iloadn1, zi_11_82, zs_ifeq, zs_iloadn2, zs_ifne, zh_0, zh_1, zh_2, zh_3, zh_4, zt_i, zt_l, zt_r, zt_n, zb_15, zb_16, zb_17, za_18, za_19, za_20, za_21, za_22, zb_23, za_24, za_25, za_26, za_27, za_28, za_29, za_30, za_31, za_32, zb_35, za_36, za_37, za_38, za_39, za_40, zb_377, zb_378, za_379, za_380, za_381, za_382, za_383, zb_384, za_385, za_386, za_387, za_388, za_389, za_390, za_391, za_392, za_393, zb_396, za_397, za_398, za_399, za_400, za_401, zb_738, za_739, za_740, za_741, za_742, za_743, za_744, za_745, za_746, za_747, zb_748, za_749, za_750, zb_751, zb_752, za_753, za_754, za_755, za_756, zb_757, za_758, za_759, za_760, zb_761, za_763, za_764, za_765, true_and, and_true, Nat.reduceAdd, zi_b0]
  refine ⟨fun hq => ?_, fun h => bad (Or.inr h)⟩
  simp only [Bool.not_eq_false] at hp hq
  obtain ⟨i, hi, rfl⟩ := zo_of hp (by omega)
  obtain ⟨j, hj, rfl⟩ := zo_of hq (by omega)
  refine h30 _ _ _ ?_
  simp only [bX11_meets_30, zw_0, zw_1, zs_aloadn0, zs_aloadNn0, zg_11_10, zg_11_28, zs_iloadn1, zs_iloadn2, zi_11_283, zs_ireturn, zh_0, zh_1, zh_2, zh_3, zh_4, zt_i, zt_l, zt_r, zt_n, zn_int, zn_b0, zn_b1, zb_15, zb_16, zb_17, za_18, za_19, za_20, za_21, za_22, zb_23, za_24, za_25, za_26, za_27, za_28, za_29, za_30, za_31, za_32, zb_35, za_36, za_37, za_38, za_39, za_40, zb_377, zb_378, za_379, za_380, za_381, za_382, za_383, zb_384, za_385, za_386, za_387, za_388, za_389, za_390, za_391, za_392, za_393, zb_396, za_397, za_398, za_399, za_400, za_401, zb_738, za_739, za_740, za_741, za_742, za_743, za_744, za_745, za_746, za_747, zb_748, za_749, za_750, zb_751, zb_752, za_753, za_754, za_755, za_756, zb_757, za_758, za_759, za_760, zb_761, za_763, za_764, za_765, true_and, and_true, Nat.reduceAdd]
  refine zm_R_eq (c7_meeting hE d hw hi hj) ?_
  simp only [bX11_meets_30, zw_0, zw_1, zs_aloadn0, zs_aloadNn0, zg_11_10, zg_11_28, zs_iloadn1, zs_iloadn2, zi_11_283, zs_ireturn, zh_0, zh_1, zh_2, zh_3, zh_4, zt_i, zt_l, zt_r, zt_n, zn_int, zn_b0, zn_b1, zb_15, zb_16, zb_17, za_18, za_19, za_20, za_21, za_22, zb_23, za_24, za_25, za_26, za_27, za_28, za_29, za_30, za_31, za_32, zb_35, za_36, za_37, za_38, za_39, za_40, zb_377, zb_378, za_379, za_380, za_381, za_382, za_383, zb_384, za_385, za_386, za_387, za_388, za_389, za_390, za_391, za_392, za_393, zb_396, za_397, za_398, za_399, za_400, za_401, zb_738, za_739, za_740, za_741, za_742, za_743, za_744, za_745, za_746, za_747, zb_748, za_749, za_750, zb_751, zb_752, za_753, za_754, za_755, za_756, zb_757, za_758, za_759, za_760, zb_761, za_763, za_764, za_765, true_and, and_true, Nat.reduceAdd]
  exact q2 i j hi hj rfl rfl
theorem c_steps {E : zm_E} (hE : zm_ok E.2.2.1 E.2.2.2.2) (d : Nat) {n : Nat} (p q : Int32) {M : zm_M} (hw : zt_wf n (fun i => M.1 1 (90 + i))) (hc : M.1 1 0 = nI n) {Q : Option Value → zm_M → Prop} (q1 : (zo_is n p = false ∨ zo_is n q = false) → Q (some (.int (-1))) M) (q2 : ∀ i j, i < n → j < n → p = nI i → q = nI j → Q (some (.int (zt_ds (fun i => M.1 1 (90 + i)) i j))) M) : zm_R E (d + 5) mX12_steps [.ref 0, .int p, .int q] M Q := by
  have hn := hw.1
  refine zX12_steps hE rfl (fun G h0 h25 h26 => ?_)
  show G 0 [some (.ref 0), some (.int p), some (.int q)] [] M
  have bad : (zo_is n p = false ∨ zo_is n q = false) → G 25 [some (.ref 0), some (.int p), some (.int q)] [] M := by
    intro hb
    refine h25 _ _ _ ?_
    simp only [bX12_steps_25, zw_0, zw_1, zs_iconst, zb_0, za_1, za_2, za_3, za_4, za_5, za_6, za_7, za_8, za_9, za_10, za_11, za_12, za_13, za_14, true_and, and_true, Nat.reduceAdd]
    refine h26 _ _ _ ?_
    simp only [bX12_steps_26, zw_0, zw_1, zs_ireturn, zn_int, zn_b0, zn_b1, zb_0, za_1, za_2, za_3, za_4, za_5, za_6, za_7, za_8, za_9, za_10, za_11, za_12, za_13, za_14, true_and, and_true, Nat.reduceAdd]
    exact q1 hb
  refine h0 _ _ _ ?_
  simp only [bX12_steps_0, zw_0, zw_1, zs_aloadn0, zs_aloadNn0, zs_iloadn1, zi_12_73, zs_ifeq, zs_iloadn2, zi_12_414, zs_goto, zh_0, zh_1, zh_2, zh_3, zh_4, zt_i, zt_l, zt_r, zt_n, zb_0, za_1, za_2, za_3, za_4, za_5, za_6, za_7, za_8, za_9, za_10, za_11, za_12, za_13, za_14, true_and, and_true, Nat.reduceAdd]
  refine zm_R_eq (c_isOfficer hE (d + 2) p M) ?_
  rw [hc, zo_in (by omega)]
  simp only [bX12_steps_0, zw_0, zw_1, zs_aloadn0, zs_aloadNn0, zs_iloadn1, zi_12_73, zs_ifeq, zs_iloadn2, zi_12_414, zs_goto, zh_0, zh_1, zh_2, zh_3, zh_4, zt_i, zt_l, zt_r, zt_n, zb_0, za_1, za_2, za_3, za_4, za_5, za_6, za_7, za_8, za_9, za_10, za_11, za_12, za_13, za_14, true_and, and_true, Nat.reduceAdd, zi_b0]
  refine ⟨fun h => bad (Or.inl h), fun hp => ?_⟩
  refine zm_R_eq (c_isOfficer hE (d + 2) q M) ?_
  rw [hc, zo_in (by omega)]
  simp only [bX12_steps_0, zw_0, zw_1, zs_aloadn0, zs_aloadNn0, zs_iloadn1, zi_12_73, zs_ifeq, zs_iloadn2, zi_12_414, zs_goto, zh_0, zh_1, zh_2, zh_3, zh_4, zt_i, zt_l, zt_r, zt_n, zb_0, za_1, za_2, za_3, za_4, za_5, za_6, za_7, za_8, za_9, za_10, za_11, za_12, za_13, za_14, true_and, and_true, Nat.reduceAdd, zi_b0]
  refine ⟨fun h => bad (Or.inr h), fun hq => ?_⟩
  simp only [Bool.not_eq_false] at hp hq
  obtain ⟨i, hi, rfl⟩ := zo_of hp (by omega)
  obtain ⟨j, hj, rfl⟩ := zo_of hq (by omega)
  refine zm_R_eq (c_stepsOf hE d hw hc hi hj) ?_
  simp only [bX12_steps_0, zw_0, zw_1, zs_aloadn0, zs_aloadNn0, zs_iloadn1, zi_12_73, zs_ifeq, zs_iloadn2, zi_12_414, zs_goto, zh_0, zh_1, zh_2, zh_3, zh_4, zt_i, zt_l, zt_r, zt_n, zb_0, za_1, za_2, za_3, za_4, za_5, za_6, za_7, za_8, za_9, za_10, za_11, za_12, za_13, za_14, true_and, and_true, Nat.reduceAdd]
  refine h26 _ _ _ ?_
  simp only [bX12_steps_26, zw_0, zw_1, zs_ireturn, zn_int, zn_b0, zn_b1, zb_0, za_1, za_2, za_3, za_4, za_5, za_6, za_7, za_8, za_9, za_10, za_11, za_12, za_13, za_14, true_and, and_true, Nat.reduceAdd]
  exact q2 i j hi hj rfl rfl
theorem c11_steps {E : zm_E} (hE : zm_ok E.2.2.1 E.2.2.2.2) (d : Nat) {n : Nat} (p q : Int32) {M : zm_M} (hr : zs_rk n M) (hc : M.1 17 0 = nI n) {Q : Option Value → zm_M → Prop} (q1 : (zo_is n p = false ∨ zo_is n q = false) → Q (some (.int (-1))) M) (q2 : ∀ i j, i < n → j < n → p = nI i → q = nI j → Q (some (.int (zt_ds (M.1 18) i j))) M) : zm_R E (d + 4) mX11_steps [.ref 15, .int p, .int q] M Q := by
  have hn := hr.1.1
  refine zX11_steps hE rfl (fun G h0 h28 h30 => ?_)
  show G 0 [some (.ref 15), some (.int p), some (.int q)] [] M
  have bad : (zo_is n p = false ∨ zo_is n q = false) → G 28 [some (.ref 15), some (.int p), some (.int q)] [] M := by
    intro hb
    refine h28 _ _ _ ?_
    simp only [bX11_steps_28, zw_0, zw_1, zs_iconst, zs_ireturn, zn_int, zn_b0, zn_b1, zb_15, zb_16, zb_17, za_18, za_19, za_20, za_21, za_22, zb_23, za_24, za_25, za_26, za_27, za_28, za_29, za_30, za_31, za_32, zb_35, za_36, za_37, za_38, za_39, za_40, zb_377, zb_378, za_379, za_380, za_381, za_382, za_383, zb_384, za_385, za_386, za_387, za_388, za_389, za_390, za_391, za_392, za_393, zb_396, za_397, za_398, za_399, za_400, za_401, zb_738, za_739, za_740, za_741, za_742, za_743, za_744, za_745, za_746, za_747, zb_748, za_749, za_750, zb_751, zb_752, za_753, za_754, za_755, za_756, zb_757, za_758, za_759, za_760, zb_761, za_763, za_764, za_765, true_and, and_true, Nat.reduceAdd]
    exact q1 hb
  refine h0 _ _ _ ?_
  simp only [bX11_steps_0, zw_0, zw_1, zs_aloadn0, zs_aloadNn0, zg_11_10, zg_11_28, zs_iloadn1, zi_11_82, zs_ifeq, zs_iloadn2, zs_ifne, zh_0, zh_1, zh_2, zh_3, zh_4, zt_i, zt_l, zt_r, zt_n, zb_15, zb_16, zb_17, za_18, za_19, za_20, za_21, za_22, zb_23, za_24, za_25, za_26, za_27, za_28, za_29, za_30, za_31, za_32, zb_35, za_36, za_37, za_38, za_39, za_40, zb_377, zb_378, za_379, za_380, za_381, za_382, za_383, zb_384, za_385, za_386, za_387, za_388, za_389, za_390, za_391, za_392, za_393, zb_396, za_397, za_398, za_399, za_400, za_401, zb_738, za_739, za_740, za_741, za_742, za_743, za_744, za_745, za_746, za_747, zb_748, za_749, za_750, zb_751, zb_752, za_753, za_754, za_755, za_756, zb_757, za_758, za_759, za_760, zb_761, za_763, za_764, za_765, true_and, and_true, Nat.reduceAdd]
  refine zm_R_eq (c7_has hE (d + 2) (n := n) (by omega) p hc) ?_
  simp only [bX11_steps_0, zw_0, zw_1, zs_aloadn0, zs_aloadNn0, zg_11_10, zg_11_28, zs_iloadn1, zi_11_82, zs_ifeq, zs_iloadn2, zs_ifne, zh_0, zh_1, zh_2, zh_3, zh_4, zt_i, zt_l, zt_r, zt_n, zb_15, zb_16, zb_17, za_18, za_19, za_20, za_21, za_22, zb_23, za_24, za_25, za_26, za_27, za_28, za_29, za_30, za_31, za_32, zb_35, za_36, za_37, za_38, za_39, za_40, zb_377, zb_378, za_379, za_380, za_381, za_382, za_383, zb_384, za_385, za_386, za_387, za_388, za_389, za_390, za_391, za_392, za_393, zb_396, za_397, za_398, za_399, za_400, za_401, zb_738, za_739, za_740, za_741, za_742, za_743, za_744, za_745, za_746, za_747, zb_748, za_749, za_750, zb_751, zb_752, za_753, za_754, za_755, za_756, zb_757, za_758, za_759, za_760, zb_761, za_763, za_764, za_765, true_and, and_true, Nat.reduceAdd, zi_b0]
  refine ⟨fun h => bad (Or.inl h), fun hp => ?_⟩
  refine zm_R_eq (c7_has hE (d + 2) (n := n) (by omega) q hc) ?_
  simp only [bX11_steps_0, zw_0, zw_1, zs_aloadn0, zs_aloadNn0, zg_11_10, zg_11_28, zs_iloadn1, zi_11_82, zs_ifeq, zs_iloadn2, zs_ifne, zh_0, zh_1, zh_2, zh_3, zh_4, zt_i, zt_l, zt_r, zt_n, zb_15, zb_16, zb_17, za_18, za_19, za_20, za_21, za_22, zb_23, za_24, za_25, za_26, za_27, za_28, za_29, za_30, za_31, za_32, zb_35, za_36, za_37, za_38, za_39, za_40, zb_377, zb_378, za_379, za_380, za_381, za_382, za_383, zb_384, za_385, za_386, za_387, za_388, za_389, za_390, za_391, za_392, za_393, zb_396, za_397, za_398, za_399, za_400, za_401, zb_738, za_739, za_740, za_741, za_742, za_743, za_744, za_745, za_746, za_747, zb_748, za_749, za_750, zb_751, zb_752, za_753, za_754, za_755, za_756, zb_757, za_758, za_759, za_760, zb_761, za_763, za_764, za_765, true_and, and_true, Nat.reduceAdd, zi_b0]
  refine ⟨fun hq => ?_, fun h => bad (Or.inr h)⟩
  simp only [Bool.not_eq_false] at hp hq
  obtain ⟨i, hi, rfl⟩ := zo_of hp (by omega)
  obtain ⟨j, hj, rfl⟩ := zo_of hq (by omega)
  refine h30 _ _ _ ?_
  simp only [bX11_steps_30, zw_0, zw_1, zs_aloadn0, zs_aloadNn0, zg_11_10, zg_11_28, zs_iloadn1, zs_iloadn2, zi_11_286, zs_ireturn, zh_0, zh_1, zh_2, zh_3, zh_4, zt_i, zt_l, zt_r, zt_n, zn_int, zn_b0, zn_b1, zb_15, zb_16, zb_17, za_18, za_19, za_20, za_21, za_22, zb_23, za_24, za_25, za_26, za_27, za_28, za_29, za_30, za_31, za_32, zb_35, za_36, za_37, za_38, za_39, za_40, zb_377, zb_378, za_379, za_380, za_381, za_382, za_383, zb_384, za_385, za_386, za_387, za_388, za_389, za_390, za_391, za_392, za_393, zb_396, za_397, za_398, za_399, za_400, za_401, zb_738, za_739, za_740, za_741, za_742, za_743, za_744, za_745, za_746, za_747, zb_748, za_749, za_750, zb_751, zb_752, za_753, za_754, za_755, za_756, zb_757, za_758, za_759, za_760, zb_761, za_763, za_764, za_765, true_and, and_true, Nat.reduceAdd]
  refine zm_R_eq (c7_distance hE d hr hi hj) ?_
  simp only [bX11_steps_30, zw_0, zw_1, zs_aloadn0, zs_aloadNn0, zg_11_10, zg_11_28, zs_iloadn1, zs_iloadn2, zi_11_286, zs_ireturn, zh_0, zh_1, zh_2, zh_3, zh_4, zt_i, zt_l, zt_r, zt_n, zn_int, zn_b0, zn_b1, zb_15, zb_16, zb_17, za_18, za_19, za_20, za_21, za_22, zb_23, za_24, za_25, za_26, za_27, za_28, za_29, za_30, za_31, za_32, zb_35, za_36, za_37, za_38, za_39, za_40, zb_377, zb_378, za_379, za_380, za_381, za_382, za_383, zb_384, za_385, za_386, za_387, za_388, za_389, za_390, za_391, za_392, za_393, zb_396, za_397, za_398, za_399, za_400, za_401, zb_738, za_739, za_740, za_741, za_742, za_743, za_744, za_745, za_746, za_747, zb_748, za_749, za_750, zb_751, zb_752, za_753, za_754, za_755, za_756, zb_757, za_758, za_759, za_760, zb_761, za_763, za_764, za_765, true_and, and_true, Nat.reduceAdd]
  exact q2 i j hi hj rfl rfl
/-! is, about, fault -/
def zq_is (f : Nat → Int32) (w : Int32) : Int32 := if w = 0 then f 0 else if w = 1 then f 1 else if w = 2 then f 2 else -2
theorem c11_is {E : zm_E} (hE : zm_ok E.2.2.1 E.2.2.2.2) (d : Nat) (w : Int32) (M : zm_M) : zm_R E (d + 1) mX11_is [.ref 15, .int w] M (fun r M' => r = some (.int (zq_is (M.1 23) w)) ∧ M' = M) := by
  refine zX11_is hE rfl (fun G h0 h28 h39 h50 h61 => ?_)
  show G 0 [some (.ref 15), some (.int w)] [] M
  repeat' (first | (refine h0 _ _ _ ?_; simp only [bX11_is_0, zw_0, zw_1, zs_iloadn1, zs_tsw, zm_sw, zb_15, zb_16, zb_17, za_18, za_19, za_20, za_21, za_22, zb_23, za_24, za_25, za_26, za_27, za_28, za_29, za_30, za_31, za_32, zb_35, za_36, za_37, za_38, za_39, za_40, zb_377, zb_378, za_379, za_380, za_381, za_382, za_383, zb_384, za_385, za_386, za_387, za_388, za_389, za_390, za_391, za_392, za_393, zb_396, za_397, za_398, za_399, za_400, za_401, zb_738, za_739, za_740, za_741, za_742, za_743, za_744, za_745, za_746, za_747, zb_748, za_749, za_750, zb_751, zb_752, za_753, za_754, za_755, za_756, zb_757, za_758, za_759, za_760, zb_761, za_763, za_764, za_765, true_and, and_true, Nat.reduceAdd]) | (refine h28 _ _ _ ?_; simp only [bX11_is_28, zw_0, zw_1, zs_aloadn0, zs_aloadNn0, zg_11_10, zg_11_136, zg_11_167, zs_ireturn, zn_int, zn_b0, zn_b1, zb_15, zb_16, zb_17, za_18, za_19, za_20, za_21, za_22, zb_23, za_24, za_25, za_26, za_27, za_28, za_29, za_30, za_31, za_32, zb_35, za_36, za_37, za_38, za_39, za_40, zb_377, zb_378, za_379, za_380, za_381, za_382, za_383, zb_384, za_385, za_386, za_387, za_388, za_389, za_390, za_391, za_392, za_393, zb_396, za_397, za_398, za_399, za_400, za_401, zb_738, za_739, za_740, za_741, za_742, za_743, za_744, za_745, za_746, za_747, zb_748, za_749, za_750, zb_751, zb_752, za_753, za_754, za_755, za_756, zb_757, za_758, za_759, za_760, zb_761, za_763, za_764, za_765, true_and, and_true, Nat.reduceAdd]) | (refine h39 _ _ _ ?_; simp only [bX11_is_39, zw_0, zw_1, zs_aloadn0, zs_aloadNn0, zg_11_10, zg_11_136, zg_11_218, zs_ireturn, zn_int, zn_b0, zn_b1, zb_15, zb_16, zb_17, za_18, za_19, za_20, za_21, za_22, zb_23, za_24, za_25, za_26, za_27, za_28, za_29, za_30, za_31, za_32, zb_35, za_36, za_37, za_38, za_39, za_40, zb_377, zb_378, za_379, za_380, za_381, za_382, za_383, zb_384, za_385, za_386, za_387, za_388, za_389, za_390, za_391, za_392, za_393, zb_396, za_397, za_398, za_399, za_400, za_401, zb_738, za_739, za_740, za_741, za_742, za_743, za_744, za_745, za_746, za_747, zb_748, za_749, za_750, zb_751, zb_752, za_753, za_754, za_755, za_756, zb_757, za_758, za_759, za_760, zb_761, za_763, za_764, za_765, true_and, and_true, Nat.reduceAdd]) | (refine h50 _ _ _ ?_; simp only [bX11_is_50, zw_0, zw_1, zs_aloadn0, zs_aloadNn0, zg_11_10, zg_11_136, zg_11_146, zs_ireturn, zn_int, zn_b0, zn_b1, zb_15, zb_16, zb_17, za_18, za_19, za_20, za_21, za_22, zb_23, za_24, za_25, za_26, za_27, za_28, za_29, za_30, za_31, za_32, zb_35, za_36, za_37, za_38, za_39, za_40, zb_377, zb_378, za_379, za_380, za_381, za_382, za_383, zb_384, za_385, za_386, za_387, za_388, za_389, za_390, za_391, za_392, za_393, zb_396, za_397, za_398, za_399, za_400, za_401, zb_738, za_739, za_740, za_741, za_742, za_743, za_744, za_745, za_746, za_747, zb_748, za_749, za_750, zb_751, zb_752, za_753, za_754, za_755, za_756, zb_757, za_758, za_759, za_760, zb_761, za_763, za_764, za_765, true_and, and_true, Nat.reduceAdd]) | (refine h61 _ _ _ ?_; simp only [bX11_is_61, zw_0, zw_1, zs_bipush, zs_ireturn, zn_int, zn_b0, zn_b1, zb_15, zb_16, zb_17, za_18, za_19, za_20, za_21, za_22, zb_23, za_24, za_25, za_26, za_27, za_28, za_29, za_30, za_31, za_32, zb_35, za_36, za_37, za_38, za_39, za_40, zb_377, zb_378, za_379, za_380, za_381, za_382, za_383, zb_384, za_385, za_386, za_387, za_388, za_389, za_390, za_391, za_392, za_393, zb_396, za_397, za_398, za_399, za_400, za_401, zb_738, za_739, za_740, za_741, za_742, za_743, za_744, za_745, za_746, za_747, zb_748, za_749, za_750, zb_751, zb_752, za_753, za_754, za_755, za_756, zb_757, za_758, za_759, za_760, zb_761, za_763, za_764, za_765, true_and, and_true, Nat.reduceAdd]) | apply And.intro | intro _ | rfl)
  all_goals simp [zq_is, *]
theorem zx_6 (p : Nat) : (6 : Int32) + nI p = nI (6 + p) := by rw [← nI_add]; rfl
theorem c_is {E : zm_E} (hE : zm_ok E.2.2.1 E.2.2.2.2) (d : Nat) (w : Int32) (M : zm_M) : zm_R E (d + 2) mX12_is [.ref 0, .int w] M (fun r M' => r = some (.int (zq_is (fun k => M.1 1 (6 + k)) w)) ∧ M' = M) := by
  refine zX12_is hE rfl (fun G h0 h21 h23 => ?_)
  show G 0 [some (.ref 0), some (.int w)] [] M
  have fin : ∀ v, v = zq_is (fun k => M.1 1 (6 + k)) w → G 23 [some (.ref 0), some (.int w)] [.int v] M := by
    intro v hv
    refine h23 _ _ _ ?_
    simp only [bX12_is_23, zw_0, zw_1, zs_ireturn, zn_int, zn_b0, zn_b1, zb_0, za_1, za_2, za_3, za_4, za_5, za_6, za_7, za_8, za_9, za_10, za_11, za_12, za_13, za_14, true_and, and_true, Nat.reduceAdd]
    rw [hv]
  refine h0 _ _ _ ?_
  simp only [bX12_is_0, zw_0, zw_1, zs_iloadn1, zs_iconst, zi_12_69, zs_ifeq, zs_aloadn0, zs_aloadNn0, zg_12_7, zs_bipush, zs_iadd, zs_iaload, zs_goto, zh_0, zh_1, zh_2, zh_3, zh_4, zt_i, zt_l, zt_r, zt_n, zb_0, za_1, za_2, za_3, za_4, za_5, za_6, za_7, za_8, za_9, za_10, za_11, za_12, za_13, za_14, zu_0, zu_1, zu_2, zu_3, zu_4, zu_5, zu_6, zu_7, zu_8, zu_9, zu_10, zu_11, zu_12, zu_13, zu_14, zu_15, zu_16, zu_17, zu_18, zu_19, zu_20, zu_21, zu_22, zu_23, zu_24, zu_25, zu_26, zu_27, zu_28, zu_29, zu_30, zu_90, zv_0_9, zv_1_9, zv_2_9, zv_3_9, zv_4_9, zv_5_9, zv_6_9, zv_7_9, zv_8_9, zv_0_330, zv_0_4544, zv_1_4544, zv_2_4544, zv_3_4544, zv_4_4544, zv_5_4544, zv_6_4544, zv_7_4544, zv_8_4544, zv_9_4544, zv_10_4544, zv_11_4544, zv_12_4544, zv_13_4544, zv_14_4544, zv_15_4544, zv_16_4544, zv_17_4544, zv_18_4544, zv_19_4544, zv_20_4544, zv_21_4544, zv_22_4544, zv_23_4544, zv_24_4544, zv_25_4544, zv_26_4544, zv_27_4544, zv_28_4544, zv_29_4544, zv_0_11, zv_1_11, zv_0_160, true_and, and_true, Nat.reduceAdd]
  refine zm_R_eq (c_isIn hE d w 0 2 M) ?_
  simp only [bX12_is_0, zw_0, zw_1, zs_iloadn1, zs_iconst, zi_12_69, zs_ifeq, zs_aloadn0, zs_aloadNn0, zg_12_7, zs_bipush, zs_iadd, zs_iaload, zs_goto, zh_0, zh_1, zh_2, zh_3, zh_4, zt_i, zt_l, zt_r, zt_n, zb_0, za_1, za_2, za_3, za_4, za_5, za_6, za_7, za_8, za_9, za_10, za_11, za_12, za_13, za_14, zu_0, zu_1, zu_2, zu_3, zu_4, zu_5, zu_6, zu_7, zu_8, zu_9, zu_10, zu_11, zu_12, zu_13, zu_14, zu_15, zu_16, zu_17, zu_18, zu_19, zu_20, zu_21, zu_22, zu_23, zu_24, zu_25, zu_26, zu_27, zu_28, zu_29, zu_30, zu_90, zv_0_9, zv_1_9, zv_2_9, zv_3_9, zv_4_9, zv_5_9, zv_6_9, zv_7_9, zv_8_9, zv_0_330, zv_0_4544, zv_1_4544, zv_2_4544, zv_3_4544, zv_4_4544, zv_5_4544, zv_6_4544, zv_7_4544, zv_8_4544, zv_9_4544, zv_10_4544, zv_11_4544, zv_12_4544, zv_13_4544, zv_14_4544, zv_15_4544, zv_16_4544, zv_17_4544, zv_18_4544, zv_19_4544, zv_20_4544, zv_21_4544, zv_22_4544, zv_23_4544, zv_24_4544, zv_25_4544, zv_26_4544, zv_27_4544, zv_28_4544, zv_29_4544, zv_0_11, zv_1_11, zv_0_160, true_and, and_true, Nat.reduceAdd]
  refine ⟨fun h => ?_, fun h => ?_⟩
  · refine h21 _ _ _ ?_
    simp only [bX12_is_21, zw_0, zw_1, zs_bipush, zb_0, za_1, za_2, za_3, za_4, za_5, za_6, za_7, za_8, za_9, za_10, za_11, za_12, za_13, za_14, true_and, and_true, Nat.reduceAdd]
    refine fin _ ?_
    have n0 : ¬ w = 0 := zi_in_no (n := 2) (by decide) h (k := 0) (by decide)
    have n1 : ¬ w = 1 := zi_in_no (n := 2) (by decide) h (k := 1) (by decide)
    have n2 : ¬ w = 2 := zi_in_no (n := 2) (by decide) h (k := 2) (by decide)
    unfold zq_is
    rw [if_neg n0, if_neg n1, if_neg n2]
  · obtain ⟨k, hk, rfl⟩ := zi_in_of (n := 2) (by decide) h
    have i1 : vp_in (nI (6 + k)) 4544 := vp_in_nI (by omega) (by decide)
    have i2 : (nI (6 + k)).toNatClampNeg = 6 + k := nI_clamp (by omega)
    refine ⟨by rw [zx_6]; exact i1, fin _ ?_⟩
    rw [zx_6, i2]
    rcases (show k = 0 ∨ k = 1 ∨ k = 2 by omega) with rfl | rfl | rfl <;> rfl
def zq_ab (f : Nat → Int32) (w : Int32) : Int32 := if w = 0 then f 0 else if w = 1 then f 1 else if w = 2 then f 2 else if w = 3 then f 3 else if w = 4 then f 4 else if w = 5 then f 5 else if w = 6 then f 6 else -2
def zq_abc (M : zm_M) : Nat → Int32 := fun k => match k with
  | 0 => M.1 17 0
  | 1 => M.1 16 6
  | 2 => M.1 16 7
  | 3 => M.1 16 4
  | 4 => M.1 35 0
  | 5 => M.1 16 10
  | _ => M.1 15 9
theorem c11_about {E : zm_E} (hE : zm_ok E.2.2.1 E.2.2.2.2) (d : Nat) (w : Int32) (M : zm_M) : zm_R E (d + 1) mX11_about [.ref 15, .int w] M (fun r M' => r = some (.int (zq_ab (zq_abc M) w)) ∧ M' = M) := by
  refine zX11_about hE rfl (fun G h0 h44 h55 h63 h71 h79 h90 h98 h103 => ?_)
  show G 0 [some (.ref 15), some (.int w)] [] M
  repeat' (first | (refine h0 _ _ _ ?_; simp only [bX11_about_0, zw_0, zw_1, zs_iloadn1, zs_tsw, zm_sw, zb_15, zb_16, zb_17, za_18, za_19, za_20, za_21, za_22, zb_23, za_24, za_25, za_26, za_27, za_28, za_29, za_30, za_31, za_32, zb_35, za_36, za_37, za_38, za_39, za_40, zb_377, zb_378, za_379, za_380, za_381, za_382, za_383, zb_384, za_385, za_386, za_387, za_388, za_389, za_390, za_391, za_392, za_393, zb_396, za_397, za_398, za_399, za_400, za_401, zb_738, za_739, za_740, za_741, za_742, za_743, za_744, za_745, za_746, za_747, zb_748, za_749, za_750, zb_751, zb_752, za_753, za_754, za_755, za_756, zb_757, za_758, za_759, za_760, zb_761, za_763, za_764, za_765, true_and, and_true, Nat.reduceAdd]) | (refine h44 _ _ _ ?_; simp only [bX11_about_44, zw_0, zw_1, zs_aloadn0, zs_aloadNn0, zg_11_10, zg_11_28, zg_11_77, zs_ireturn, zn_int, zn_b0, zn_b1, zb_15, zb_16, zb_17, za_18, za_19, za_20, za_21, za_22, zb_23, za_24, za_25, za_26, za_27, za_28, za_29, za_30, za_31, za_32, zb_35, za_36, za_37, za_38, za_39, za_40, zb_377, zb_378, za_379, za_380, za_381, za_382, za_383, zb_384, za_385, za_386, za_387, za_388, za_389, za_390, za_391, za_392, za_393, zb_396, za_397, za_398, za_399, za_400, za_401, zb_738, za_739, za_740, za_741, za_742, za_743, za_744, za_745, za_746, za_747, zb_748, za_749, za_750, zb_751, zb_752, za_753, za_754, za_755, za_756, zb_757, za_758, za_759, za_760, zb_761, za_763, za_764, za_765, true_and, and_true, Nat.reduceAdd]) | (refine h55 _ _ _ ?_; simp only [bX11_about_55, zw_0, zw_1, zs_aloadn0, zs_aloadNn0, zg_11_10, zg_11_106, zs_ireturn, zn_int, zn_b0, zn_b1, zb_15, zb_16, zb_17, za_18, za_19, za_20, za_21, za_22, zb_23, za_24, za_25, za_26, za_27, za_28, za_29, za_30, za_31, za_32, zb_35, za_36, za_37, za_38, za_39, za_40, zb_377, zb_378, za_379, za_380, za_381, za_382, za_383, zb_384, za_385, za_386, za_387, za_388, za_389, za_390, za_391, za_392, za_393, zb_396, za_397, za_398, za_399, za_400, za_401, zb_738, za_739, za_740, za_741, za_742, za_743, za_744, za_745, za_746, za_747, zb_748, za_749, za_750, zb_751, zb_752, za_753, za_754, za_755, za_756, zb_757, za_758, za_759, za_760, zb_761, za_763, za_764, za_765, true_and, and_true, Nat.reduceAdd]) | (refine h63 _ _ _ ?_; simp only [bX11_about_63, zw_0, zw_1, zs_aloadn0, zs_aloadNn0, zg_11_10, zg_11_127, zs_ireturn, zn_int, zn_b0, zn_b1, zb_15, zb_16, zb_17, za_18, za_19, za_20, za_21, za_22, zb_23, za_24, za_25, za_26, za_27, za_28, za_29, za_30, za_31, za_32, zb_35, za_36, za_37, za_38, za_39, za_40, zb_377, zb_378, za_379, za_380, za_381, za_382, za_383, zb_384, za_385, za_386, za_387, za_388, za_389, za_390, za_391, za_392, za_393, zb_396, za_397, za_398, za_399, za_400, za_401, zb_738, za_739, za_740, za_741, za_742, za_743, za_744, za_745, za_746, za_747, zb_748, za_749, za_750, zb_751, zb_752, za_753, za_754, za_755, za_756, zb_757, za_758, za_759, za_760, zb_761, za_763, za_764, za_765, true_and, and_true, Nat.reduceAdd]) | (refine h71 _ _ _ ?_; simp only [bX11_about_71, zw_0, zw_1, zs_aloadn0, zs_aloadNn0, zg_11_10, zg_11_228, zs_ireturn, zn_int, zn_b0, zn_b1, zb_15, zb_16, zb_17, za_18, za_19, za_20, za_21, za_22, zb_23, za_24, za_25, za_26, za_27, za_28, za_29, za_30, za_31, za_32, zb_35, za_36, za_37, za_38, za_39, za_40, zb_377, zb_378, za_379, za_380, za_381, za_382, za_383, zb_384, za_385, za_386, za_387, za_388, za_389, za_390, za_391, za_392, za_393, zb_396, za_397, za_398, za_399, za_400, za_401, zb_738, za_739, za_740, za_741, za_742, za_743, za_744, za_745, za_746, za_747, zb_748, za_749, za_750, zb_751, zb_752, za_753, za_754, za_755, za_756, zb_757, za_758, za_759, za_760, zb_761, za_763, za_764, za_765, true_and, and_true, Nat.reduceAdd]) | (refine h79 _ _ _ ?_; simp only [bX11_about_79, zw_0, zw_1, zs_aloadn0, zs_aloadNn0, zg_11_10, zg_11_305, zg_11_309, zs_ireturn, zn_int, zn_b0, zn_b1, zb_15, zb_16, zb_17, za_18, za_19, za_20, za_21, za_22, zb_23, za_24, za_25, za_26, za_27, za_28, za_29, za_30, za_31, za_32, zb_35, za_36, za_37, za_38, za_39, za_40, zb_377, zb_378, za_379, za_380, za_381, za_382, za_383, zb_384, za_385, za_386, za_387, za_388, za_389, za_390, za_391, za_392, za_393, zb_396, za_397, za_398, za_399, za_400, za_401, zb_738, za_739, za_740, za_741, za_742, za_743, za_744, za_745, za_746, za_747, zb_748, za_749, za_750, zb_751, zb_752, za_753, za_754, za_755, za_756, zb_757, za_758, za_759, za_760, zb_761, za_763, za_764, za_765, true_and, and_true, Nat.reduceAdd]) | (refine h90 _ _ _ ?_; simp only [bX11_about_90, zw_0, zw_1, zs_aloadn0, zs_aloadNn0, zg_11_10, zg_11_364, zs_ireturn, zn_int, zn_b0, zn_b1, zb_15, zb_16, zb_17, za_18, za_19, za_20, za_21, za_22, zb_23, za_24, za_25, za_26, za_27, za_28, za_29, za_30, za_31, za_32, zb_35, za_36, za_37, za_38, za_39, za_40, zb_377, zb_378, za_379, za_380, za_381, za_382, za_383, zb_384, za_385, za_386, za_387, za_388, za_389, za_390, za_391, za_392, za_393, zb_396, za_397, za_398, za_399, za_400, za_401, zb_738, za_739, za_740, za_741, za_742, za_743, za_744, za_745, za_746, za_747, zb_748, za_749, za_750, zb_751, zb_752, za_753, za_754, za_755, za_756, zb_757, za_758, za_759, za_760, zb_761, za_763, za_764, za_765, true_and, and_true, Nat.reduceAdd]) | (refine h98 _ _ _ ?_; simp only [bX11_about_98, zw_0, zw_1, zs_aloadn0, zs_aloadNn0, zg_11_73, zs_ireturn, zn_int, zn_b0, zn_b1, zb_15, zb_16, zb_17, za_18, za_19, za_20, za_21, za_22, zb_23, za_24, za_25, za_26, za_27, za_28, za_29, za_30, za_31, za_32, zb_35, za_36, za_37, za_38, za_39, za_40, zb_377, zb_378, za_379, za_380, za_381, za_382, za_383, zb_384, za_385, za_386, za_387, za_388, za_389, za_390, za_391, za_392, za_393, zb_396, za_397, za_398, za_399, za_400, za_401, zb_738, za_739, za_740, za_741, za_742, za_743, za_744, za_745, za_746, za_747, zb_748, za_749, za_750, zb_751, zb_752, za_753, za_754, za_755, za_756, zb_757, za_758, za_759, za_760, zb_761, za_763, za_764, za_765, true_and, and_true, Nat.reduceAdd]) | (refine h103 _ _ _ ?_; simp only [bX11_about_103, zw_0, zw_1, zs_bipush, zs_ireturn, zn_int, zn_b0, zn_b1, zb_15, zb_16, zb_17, za_18, za_19, za_20, za_21, za_22, zb_23, za_24, za_25, za_26, za_27, za_28, za_29, za_30, za_31, za_32, zb_35, za_36, za_37, za_38, za_39, za_40, zb_377, zb_378, za_379, za_380, za_381, za_382, za_383, zb_384, za_385, za_386, za_387, za_388, za_389, za_390, za_391, za_392, za_393, zb_396, za_397, za_398, za_399, za_400, za_401, zb_738, za_739, za_740, za_741, za_742, za_743, za_744, za_745, za_746, za_747, zb_748, za_749, za_750, zb_751, zb_752, za_753, za_754, za_755, za_756, zb_757, za_758, za_759, za_760, zb_761, za_763, za_764, za_765, true_and, and_true, Nat.reduceAdd]) | apply And.intro | intro _ | rfl)
  all_goals simp [zq_ab, zq_abc, *]
theorem c_about {E : zm_E} (hE : zm_ok E.2.2.1 E.2.2.2.2) (d : Nat) (w : Int32) (M : zm_M) : zm_R E (d + 2) mX12_about [.ref 0, .int w] M (fun r M' => r = some (.int (zq_ab (fun k => if k = 6 then M.1 0 4 else M.1 1 k) w)) ∧ M' = M) := by
  refine zX12_about hE rfl (fun G h0 h18 h31 h33 => ?_)
  show G 0 [some (.ref 0), some (.int w)] [] M
  have fin : ∀ v, v = zq_ab (fun k => if k = 6 then M.1 0 4 else M.1 1 k) w → G 33 [some (.ref 0), some (.int w)] [.int v] M := by
    intro v hv
    refine h33 _ _ _ ?_
    simp only [bX12_about_33, zw_0, zw_1, zs_ireturn, zn_int, zn_b0, zn_b1, zb_0, za_1, za_2, za_3, za_4, za_5, za_6, za_7, za_8, za_9, za_10, za_11, za_12, za_13, za_14, true_and, and_true, Nat.reduceAdd]
    rw [hv]
  refine h0 _ _ _ ?_
  simp only [bX12_about_0, zw_0, zw_1, zs_iloadn1, zs_iconst, zi_12_69, zs_ifeq, zs_aloadn0, zs_aloadNn0, zg_12_7, zs_iaload, zs_goto, zh_0, zh_1, zh_2, zh_3, zh_4, zt_i, zt_l, zt_r, zt_n, zb_0, za_1, za_2, za_3, za_4, za_5, za_6, za_7, za_8, za_9, za_10, za_11, za_12, za_13, za_14, zu_0, zu_1, zu_2, zu_3, zu_4, zu_5, zu_6, zu_7, zu_8, zu_9, zu_10, zu_11, zu_12, zu_13, zu_14, zu_15, zu_16, zu_17, zu_18, zu_19, zu_20, zu_21, zu_22, zu_23, zu_24, zu_25, zu_26, zu_27, zu_28, zu_29, zu_30, zu_90, zv_0_9, zv_1_9, zv_2_9, zv_3_9, zv_4_9, zv_5_9, zv_6_9, zv_7_9, zv_8_9, zv_0_330, zv_0_4544, zv_1_4544, zv_2_4544, zv_3_4544, zv_4_4544, zv_5_4544, zv_6_4544, zv_7_4544, zv_8_4544, zv_9_4544, zv_10_4544, zv_11_4544, zv_12_4544, zv_13_4544, zv_14_4544, zv_15_4544, zv_16_4544, zv_17_4544, zv_18_4544, zv_19_4544, zv_20_4544, zv_21_4544, zv_22_4544, zv_23_4544, zv_24_4544, zv_25_4544, zv_26_4544, zv_27_4544, zv_28_4544, zv_29_4544, zv_0_11, zv_1_11, zv_0_160, true_and, and_true, Nat.reduceAdd]
  refine zm_R_eq (c_isIn hE d w 0 5 M) ?_
  simp only [bX12_about_0, zw_0, zw_1, zs_iloadn1, zs_iconst, zi_12_69, zs_ifeq, zs_aloadn0, zs_aloadNn0, zg_12_7, zs_iaload, zs_goto, zh_0, zh_1, zh_2, zh_3, zh_4, zt_i, zt_l, zt_r, zt_n, zb_0, za_1, za_2, za_3, za_4, za_5, za_6, za_7, za_8, za_9, za_10, za_11, za_12, za_13, za_14, zu_0, zu_1, zu_2, zu_3, zu_4, zu_5, zu_6, zu_7, zu_8, zu_9, zu_10, zu_11, zu_12, zu_13, zu_14, zu_15, zu_16, zu_17, zu_18, zu_19, zu_20, zu_21, zu_22, zu_23, zu_24, zu_25, zu_26, zu_27, zu_28, zu_29, zu_30, zu_90, zv_0_9, zv_1_9, zv_2_9, zv_3_9, zv_4_9, zv_5_9, zv_6_9, zv_7_9, zv_8_9, zv_0_330, zv_0_4544, zv_1_4544, zv_2_4544, zv_3_4544, zv_4_4544, zv_5_4544, zv_6_4544, zv_7_4544, zv_8_4544, zv_9_4544, zv_10_4544, zv_11_4544, zv_12_4544, zv_13_4544, zv_14_4544, zv_15_4544, zv_16_4544, zv_17_4544, zv_18_4544, zv_19_4544, zv_20_4544, zv_21_4544, zv_22_4544, zv_23_4544, zv_24_4544, zv_25_4544, zv_26_4544, zv_27_4544, zv_28_4544, zv_29_4544, zv_0_11, zv_1_11, zv_0_160, true_and, and_true, Nat.reduceAdd]
  refine ⟨fun h => ?_, fun h => ?_⟩
  · have n0 : ¬ w = 0 := zi_in_no (n := 5) (by decide) h (k := 0) (by decide)
    have n1 : ¬ w = 1 := zi_in_no (n := 5) (by decide) h (k := 1) (by decide)
    have n2 : ¬ w = 2 := zi_in_no (n := 5) (by decide) h (k := 2) (by decide)
    have n3 : ¬ w = 3 := zi_in_no (n := 5) (by decide) h (k := 3) (by decide)
    have n4 : ¬ w = 4 := zi_in_no (n := 5) (by decide) h (k := 4) (by decide)
    have n5 : ¬ w = 5 := zi_in_no (n := 5) (by decide) h (k := 5) (by decide)
    have e : zq_ab (fun k => if k = 6 then M.1 0 4 else M.1 1 k) w = if w = 6 then M.1 0 4 else -2 := by
      unfold zq_ab
      rw [if_neg n0, if_neg n1, if_neg n2, if_neg n3, if_neg n4, if_neg n5]
      rfl
    refine h18 _ _ _ ?_
    simp only [bX12_about_18, zw_0, zw_1, zs_iloadn1, zs_bipush, zs_icne, zs_aloadn0, zs_aloadNn0, zg_12_81, zs_goto, zb_0, za_1, za_2, za_3, za_4, za_5, za_6, za_7, za_8, za_9, za_10, za_11, za_12, za_13, za_14, true_and, and_true, Nat.reduceAdd]
    refine ⟨fun h6 => ?_, fun h6 => fin _ (by rw [e, if_pos h6])⟩
    refine h31 _ _ _ ?_
    simp only [bX12_about_31, zw_0, zw_1, zs_bipush, zb_0, za_1, za_2, za_3, za_4, za_5, za_6, za_7, za_8, za_9, za_10, za_11, za_12, za_13, za_14, true_and, and_true, Nat.reduceAdd]
    exact fin _ (by rw [e, if_neg h6])
  · obtain ⟨k, hk, rfl⟩ := zi_in_of (n := 5) (by decide) h
    have i1 : vp_in (nI k) 4544 := vp_in_nI (by omega) (by decide)
    have i2 : (nI k).toNatClampNeg = k := nI_clamp (by omega)
    refine ⟨i1, fin _ ?_⟩
    rw [i2]
    rcases (show k = 0 ∨ k = 1 ∨ k = 2 ∨ k = 3 ∨ k = 4 ∨ k = 5 by omega) with rfl | rfl | rfl | rfl | rfl | rfl <;> rfl
def zq_ft (a b : Int32) (w : Int32) : Int32 := if w = 0 then a else if w = 1 then b else -1
theorem c11_fault {E : zm_E} (hE : zm_ok E.2.2.1 E.2.2.2.2) (d : Nat) (w : Int32) (M : zm_M) : zm_R E (d + 1) mX11_fault [.ref 15, .int w] M (fun r M' => r = some (.int (if M.1 761 0 = 0 then -1 else zq_ft (M.1 761 1) (M.1 761 2) w)) ∧ M' = M) := by
  refine zX11_fault hE rfl (fun G h0 h12 h40 h48 h56 => ?_)
  show G 0 [some (.ref 15), some (.int w)] [] M
  repeat' (first | (refine h0 _ _ _ ?_; simp only [bX11_fault_0, zw_0, zw_1, zs_aloadn0, zs_aloadNn0, zg_11_65, zg_11_120, zs_ifne, zs_iconst, zs_ireturn, zn_int, zn_b0, zn_b1, zb_15, zb_16, zb_17, za_18, za_19, za_20, za_21, za_22, zb_23, za_24, za_25, za_26, za_27, za_28, za_29, za_30, za_31, za_32, zb_35, za_36, za_37, za_38, za_39, za_40, zb_377, zb_378, za_379, za_380, za_381, za_382, za_383, zb_384, za_385, za_386, za_387, za_388, za_389, za_390, za_391, za_392, za_393, zb_396, za_397, za_398, za_399, za_400, za_401, zb_738, za_739, za_740, za_741, za_742, za_743, za_744, za_745, za_746, za_747, zb_748, za_749, za_750, zb_751, zb_752, za_753, za_754, za_755, za_756, zb_757, za_758, za_759, za_760, zb_761, za_763, za_764, za_765, true_and, and_true, Nat.reduceAdd]) | (refine h12 _ _ _ ?_; simp only [bX11_fault_12, zw_0, zw_1, zs_iloadn1, zs_lsw, zm_sw, zb_15, zb_16, zb_17, za_18, za_19, za_20, za_21, za_22, zb_23, za_24, za_25, za_26, za_27, za_28, za_29, za_30, za_31, za_32, zb_35, za_36, za_37, za_38, za_39, za_40, zb_377, zb_378, za_379, za_380, za_381, za_382, za_383, zb_384, za_385, za_386, za_387, za_388, za_389, za_390, za_391, za_392, za_393, zb_396, za_397, za_398, za_399, za_400, za_401, zb_738, za_739, za_740, za_741, za_742, za_743, za_744, za_745, za_746, za_747, zb_748, za_749, za_750, zb_751, zb_752, za_753, za_754, za_755, za_756, zb_757, za_758, za_759, za_760, zb_761, za_763, za_764, za_765, true_and, and_true, Nat.reduceAdd]) | (refine h40 _ _ _ ?_; simp only [bX11_fault_40, zw_0, zw_1, zs_aloadn0, zs_aloadNn0, zg_11_65, zg_11_117, zs_ireturn, zn_int, zn_b0, zn_b1, zb_15, zb_16, zb_17, za_18, za_19, za_20, za_21, za_22, zb_23, za_24, za_25, za_26, za_27, za_28, za_29, za_30, za_31, za_32, zb_35, za_36, za_37, za_38, za_39, za_40, zb_377, zb_378, za_379, za_380, za_381, za_382, za_383, zb_384, za_385, za_386, za_387, za_388, za_389, za_390, za_391, za_392, za_393, zb_396, za_397, za_398, za_399, za_400, za_401, zb_738, za_739, za_740, za_741, za_742, za_743, za_744, za_745, za_746, za_747, zb_748, za_749, za_750, zb_751, zb_752, za_753, za_754, za_755, za_756, zb_757, za_758, za_759, za_760, zb_761, za_763, za_764, za_765, true_and, and_true, Nat.reduceAdd]) | (refine h48 _ _ _ ?_; simp only [bX11_fault_48, zw_0, zw_1, zs_aloadn0, zs_aloadNn0, zg_11_65, zg_11_124, zs_ireturn, zn_int, zn_b0, zn_b1, zb_15, zb_16, zb_17, za_18, za_19, za_20, za_21, za_22, zb_23, za_24, za_25, za_26, za_27, za_28, za_29, za_30, za_31, za_32, zb_35, za_36, za_37, za_38, za_39, za_40, zb_377, zb_378, za_379, za_380, za_381, za_382, za_383, zb_384, za_385, za_386, za_387, za_388, za_389, za_390, za_391, za_392, za_393, zb_396, za_397, za_398, za_399, za_400, za_401, zb_738, za_739, za_740, za_741, za_742, za_743, za_744, za_745, za_746, za_747, zb_748, za_749, za_750, zb_751, zb_752, za_753, za_754, za_755, za_756, zb_757, za_758, za_759, za_760, zb_761, za_763, za_764, za_765, true_and, and_true, Nat.reduceAdd]) | (refine h56 _ _ _ ?_; simp only [bX11_fault_56, zw_0, zw_1, zs_iconst, zs_ireturn, zn_int, zn_b0, zn_b1, zb_15, zb_16, zb_17, za_18, za_19, za_20, za_21, za_22, zb_23, za_24, za_25, za_26, za_27, za_28, za_29, za_30, za_31, za_32, zb_35, za_36, za_37, za_38, za_39, za_40, zb_377, zb_378, za_379, za_380, za_381, za_382, za_383, zb_384, za_385, za_386, za_387, za_388, za_389, za_390, za_391, za_392, za_393, zb_396, za_397, za_398, za_399, za_400, za_401, zb_738, za_739, za_740, za_741, za_742, za_743, za_744, za_745, za_746, za_747, zb_748, za_749, za_750, zb_751, zb_752, za_753, za_754, za_755, za_756, zb_757, za_758, za_759, za_760, zb_761, za_763, za_764, za_765, true_and, and_true, Nat.reduceAdd]) | apply And.intro | intro _ | rfl)
  all_goals simp [zq_ft, *]
theorem c_fault {E : zm_E} (hE : zm_ok E.2.2.1 E.2.2.2.2) (d : Nat) (w : Int32) (M : zm_M) : zm_R E (d + 1) mX12_fault [.ref 0, .int w] M (fun r M' => r = some (.int (zq_ft (M.1 0 5) (M.1 0 6) w)) ∧ M' = M) := by
  refine zX12_fault hE rfl (fun G h0 h11 h23 h24 => ?_)
  show G 0 [some (.ref 0), some (.int w)] [] M
  repeat' (first | (refine h0 _ _ _ ?_; simp only [bX12_fault_0, zw_0, zw_1, zs_iloadn1, zs_ifne, zs_aloadn0, zs_aloadNn0, zg_12_22, zs_goto, zb_0, za_1, za_2, za_3, za_4, za_5, za_6, za_7, za_8, za_9, za_10, za_11, za_12, za_13, za_14, true_and, and_true, Nat.reduceAdd]) | (refine h11 _ _ _ ?_; simp only [bX12_fault_11, zw_0, zw_1, zs_iloadn1, zs_iconst, zs_icne, zs_aloadn0, zs_aloadNn0, zg_12_26, zs_goto, zb_0, za_1, za_2, za_3, za_4, za_5, za_6, za_7, za_8, za_9, za_10, za_11, za_12, za_13, za_14, true_and, and_true, Nat.reduceAdd]) | (refine h23 _ _ _ ?_; simp only [bX12_fault_23, zw_0, zw_1, zs_iconst, zb_0, za_1, za_2, za_3, za_4, za_5, za_6, za_7, za_8, za_9, za_10, za_11, za_12, za_13, za_14, true_and, and_true, Nat.reduceAdd]) | (refine h24 _ _ _ ?_; simp only [bX12_fault_24, zw_0, zw_1, zs_ireturn, zn_int, zn_b0, zn_b1, zb_0, za_1, za_2, za_3, za_4, za_5, za_6, za_7, za_8, za_9, za_10, za_11, za_12, za_13, za_14, true_and, and_true, Nat.reduceAdd]) | apply And.intro | intro _ | rfl)
  all_goals simp [zq_ft, *]
