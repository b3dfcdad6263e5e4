/-! ===== where two meet; how far ===== -/
def zt_mtf (b : Nat → Int32) : Nat → Nat → Nat → Nat
  | 0, p, _ => p
  | f + 1, p, q => if zt_ae b p q then p else zt_mtf b f (b p).toNatClampNeg q
def zt_mt (b : Nat → Int32) (p q : Nat) : Nat := zt_mtf b (p + 1) p q
theorem zt_mtf_ge {n : Nat} {b : Nat → Int32} (h : zt_wf n b) {q : Nat} (hq : q < n) : ∀ (p f g : Nat), p < n → p < f → p < g → zt_mtf b f p q = zt_mtf b g p q := by
  intro p
  induction p using Nat.strongRecOn with
  | _ p ih =>
    intro f g hp hf hg
    obtain ⟨f, rfl⟩ : ∃ k, f = k + 1 := ⟨f - 1, by omega⟩
    obtain ⟨g, rfl⟩ : ∃ k, g = k + 1 := ⟨g - 1, by omega⟩
    simp only [zt_mtf]
    have h10 := h.1
    cases ha : zt_ae b p q with
    | true => rfl
    | false =>
      have h0 : p ≠ 0 := fun z => by rw [z, zt_ae_0 h q hq] at ha; cases ha
      obtain ⟨j, h1, h2⟩ := h.2.2 p (by omega) hp
      simp only [Bool.false_eq_true, if_false]
      rw [h2, nI_clamp (by omega)]
      exact ih j h1 f g (by omega) (by omega) (by omega)
theorem zt_mt_at {b : Nat → Int32} {p q : Nat} (ha : zt_ae b p q = true) : zt_mt b p q = p := by
  unfold zt_mt zt_mtf
  rw [if_pos ha]
theorem zt_mt_up {n : Nat} {b : Nat → Int32} (h : zt_wf n b) {p q j : Nat} (hp : p < n) (hq : q < n) (hj : j < p) (e : b p = nI j) (ha : zt_ae b p q = false) : zt_mt b p q = zt_mt b j q := by
  have h10 := h.1
  unfold zt_mt
  rw [zt_mtf, ha]
  simp only [Bool.false_eq_true, if_false]
  rw [e, nI_clamp (by omega)]
  exact zt_mtf_ge h hq j p (j + 1) (by omega) hj (by omega)
theorem zt_mt_lt {n : Nat} {b : Nat → Int32} (h : zt_wf n b) {q : Nat} (hq : q < n) : ∀ p, p < n → zt_mt b p q ≤ p := by
  intro p
  induction p using Nat.strongRecOn with
  | _ p ih =>
    intro hp
    cases ha : zt_ae b p q with
    | true => rw [zt_mt_at ha]; exact Nat.le_refl _
    | false =>
      have h0 : p ≠ 0 := fun z => by rw [z, zt_ae_0 h q hq] at ha; cases ha
      obtain ⟨j, h1, h2⟩ := h.2.2 p (by omega) hp
      rw [zt_mt_up h hp hq h1 h2 ha]
      have := ih j h1 (by omega)
      omega
theorem c7_meeting {E : zm_E} (hE : zm_ok E.2.2.1 E.2.2.2.2) (d : Nat) {n p q : Nat} {M : zm_M} (hw : zt_wf n (M.1 18)) (hp : p < n) (hq : q < n) : zm_R E (d + 2) mX7_meeting [.ref 17, .int (nI p), .int (nI q)] M (fun r M' => r = some (.int (nI (zt_mt (M.1 18) p q))) ∧ M' = M) := by
  refine zX7_meeting hE rfl (fun G h0 h5 h38 => ?_)
  show G 0 [some (.ref 17), some (.int (nI p)), some (.int (nI q)), none, none] [] M
  have hn10 := hw.1
  have done : ∀ (y : Nat) (c : Int32), y < n → zt_ae (M.1 18) y q = true → zt_mt (M.1 18) y q = zt_mt (M.1 18) p q → G 38 [some (.ref 17), some (.int (nI p)), some (.int (nI q)), some (.int (nI y)), some (.int c)] [] M := by
    intro y c hy ha hc
    refine h38 _ _ _ ?_
    simp only [bX7_meeting_38, zw_0, zw_1, zs_iloadn3, zs_ireturn, zn_int, zn_b0, zn_b1, zb_15, zb_16, zb_17, za_18, za_19, za_20, za_21, za_22, zb_23, za_24, za_25, za_26, za_27, za_28, za_29, za_30, za_31, za_32, zb_35, za_36, za_37, za_38, za_39, za_40, zb_377, zb_378, za_379, za_380, za_381, za_382, za_383, zb_384, za_385, za_386, za_387, za_388, za_389, za_390, za_391, za_392, za_393, zb_396, za_397, za_398, za_399, za_400, za_401, zb_738, za_739, za_740, za_741, za_742, za_743, za_744, za_745, za_746, za_747, zb_748, za_749, za_750, zb_751, zb_752, za_753, za_754, za_755, za_756, zb_757, za_758, za_759, za_760, zb_761, za_763, za_764, za_765, true_and, and_true, Nat.reduceAdd]
    rw [← hc, zt_mt_at ha]
  have loop : ∀ (y c : Nat), y < n → c + y ≤ p → zt_mt (M.1 18) y q = zt_mt (M.1 18) p q → G 5 [some (.ref 17), some (.int (nI p)), some (.int (nI q)), some (.int (nI y)), some (.int (nI c))] [] M := by
    intro y
    induction y using Nat.strongRecOn with
    | _ y ih =>
      intro c hy hcy hc
      refine h5 _ _ _ ?_
      simp only [bX7_meeting_5, zw_0, zw_1, zs_iload4, zs_bipush, zs_icge, zs_iloadn3, zs_ifle, zs_aloadn0, zs_aloadNn0, zs_iloadn2, zi_7_41, zs_ifne, zg_7_15, zs_iaload, zs_istoren3, zs_iinc4, zs_goto, zc_none, zc_int, zc_ref, zc_null, zc_long, zh_0, zh_1, zh_2, zh_3, zh_4, zt_i, zt_l, zt_r, zt_n, zb_15, zb_16, zb_17, za_18, za_19, za_20, za_21, za_22, zb_23, za_24, za_25, za_26, za_27, za_28, za_29, za_30, za_31, za_32, zb_35, za_36, za_37, za_38, za_39, za_40, zb_377, zb_378, za_379, za_380, za_381, za_382, za_383, zb_384, za_385, za_386, za_387, za_388, za_389, za_390, za_391, za_392, za_393, zb_396, za_397, za_398, za_399, za_400, za_401, zb_738, za_739, za_740, za_741, za_742, za_743, za_744, za_745, za_746, za_747, zb_748, za_749, za_750, zb_751, zb_752, za_753, za_754, za_755, za_756, zb_757, za_758, za_759, za_760, zb_761, za_763, za_764, za_765, zu_0, zu_1, zu_2, zu_3, zu_4, zu_5, zu_6, zu_7, zu_8, zu_9, zu_10, zu_11, zu_12, zu_13, zu_14, zu_15, zu_16, zu_17, zu_18, zu_19, zu_20, zu_21, zu_22, zu_23, zu_24, zu_25, zu_26, zu_27, zu_28, zu_29, zu_30, zu_90, zv_0_9, zv_1_9, zv_2_9, zv_3_9, zv_4_9, zv_5_9, zv_6_9, zv_7_9, zv_8_9, zv_0_330, zv_0_4544, zv_1_4544, zv_2_4544, zv_3_4544, zv_4_4544, zv_5_4544, zv_6_4544, zv_7_4544, zv_8_4544, zv_9_4544, zv_10_4544, zv_11_4544, zv_12_4544, zv_13_4544, zv_14_4544, zv_15_4544, zv_16_4544, zv_17_4544, zv_18_4544, zv_19_4544, zv_20_4544, zv_21_4544, zv_22_4544, zv_23_4544, zv_24_4544, zv_25_4544, zv_26_4544, zv_27_4544, zv_28_4544, zv_29_4544, zv_0_11, zv_1_11, zv_0_160, true_and, and_true, Nat.reduceAdd]
      refine ⟨fun hge => ?_, fun _ => ⟨fun hle => ?_, fun hgt => ?_⟩⟩
      · exact absurd hge (nI_ge (a := c) (b := 10) (by omega) (by decide))
      · have hy0 : y = 0 := by
          have : nI y ≤ nI 0 := hle
          have := (nI_leI (by omega) (by omega)).mp this
          omega
        exact done y _ hy (by rw [hy0]; exact zt_ae_0 hw q hq) hc
      · have hy0 : y ≠ 0 := fun z => hgt (by rw [z]; decide)
        refine zm_R_mono (c7_isAboveOrSame hE d hw hy hq) ?_
        rintro _ M' ⟨rfl, hM⟩
        subst hM
        simp only [bX7_meeting_5, zw_0, zw_1, zs_iload4, zs_bipush, zs_icge, zs_iloadn3, zs_ifle, zs_aloadn0, zs_aloadNn0, zs_iloadn2, zi_7_41, zs_ifne, zg_7_15, zs_iaload, zs_istoren3, zs_iinc4, zs_goto, zc_none, zc_int, zc_ref, zc_null, zc_long, zh_0, zh_1, zh_2, zh_3, zh_4, zt_i, zt_l, zt_r, zt_n, zb_15, zb_16, zb_17, za_18, za_19, za_20, za_21, za_22, zb_23, za_24, za_25, za_26, za_27, za_28, za_29, za_30, za_31, za_32, zb_35, za_36, za_37, za_38, za_39, za_40, zb_377, zb_378, za_379, za_380, za_381, za_382, za_383, zb_384, za_385, za_386, za_387, za_388, za_389, za_390, za_391, za_392, za_393, zb_396, za_397, za_398, za_399, za_400, za_401, zb_738, za_739, za_740, za_741, za_742, za_743, za_744, za_745, za_746, za_747, zb_748, za_749, za_750, zb_751, zb_752, za_753, za_754, za_755, za_756, zb_757, za_758, za_759, za_760, zb_761, za_763, za_764, za_765, zu_0, zu_1, zu_2, zu_3, zu_4, zu_5, zu_6, zu_7, zu_8, zu_9, zu_10, zu_11, zu_12, zu_13, zu_14, zu_15, zu_16, zu_17, zu_18, zu_19, zu_20, zu_21, zu_22, zu_23, zu_24, zu_25, zu_26, zu_27, zu_28, zu_29, zu_30, zu_90, zv_0_9, zv_1_9, zv_2_9, zv_3_9, zv_4_9, zv_5_9, zv_6_9, zv_7_9, zv_8_9, zv_0_330, zv_0_4544, zv_1_4544, zv_2_4544, zv_3_4544, zv_4_4544, zv_5_4544, zv_6_4544, zv_7_4544, zv_8_4544, zv_9_4544, zv_10_4544, zv_11_4544, zv_12_4544, zv_13_4544, zv_14_4544, zv_15_4544, zv_16_4544, zv_17_4544, zv_18_4544, zv_19_4544, zv_20_4544, zv_21_4544, zv_22_4544, zv_23_4544, zv_24_4544, zv_25_4544, zv_26_4544, zv_27_4544, zv_28_4544, zv_29_4544, zv_0_11, zv_1_11, zv_0_160, true_and, and_true, Nat.reduceAdd]
        cases ha : zt_ae (M'.1 18) y q with
        | true => exact ⟨fun _ => done y _ hy ha hc, fun h => absurd h (by decide)⟩
        | false =>
          refine ⟨fun h => absurd rfl h, fun _ => ?_⟩
          obtain ⟨j, h1, h2⟩ := hw.2.2 y (by omega) hy
          refine ⟨zx_id (by omega) (by decide), ?_⟩
          rw [nI_clamp (by omega), h2, nI_1]
          refine ih j h1 (c + 1) (by omega) (by omega) ?_
          rw [← hc, zt_mt_up hw hy hq h1 h2 ha]
  refine h0 _ _ _ ?_
  simp only [bX7_meeting_0, zw_0, zw_1, zs_iloadn1, zs_istoren3, zs_iconst, zs_istore4, zc_none, zc_int, zc_ref, zc_null, zc_long, zb_15, zb_16, zb_17, za_18, za_19, za_20, za_21, za_22, zb_23, za_24, za_25, za_26, za_27, za_28, za_29, za_30, za_31, za_32, zb_35, za_36, za_37, za_38, za_39, za_40, zb_377, zb_378, za_379, za_380, za_381, za_382, za_383, zb_384, za_385, za_386, za_387, za_388, za_389, za_390, za_391, za_392, za_393, zb_396, za_397, za_398, za_399, za_400, za_401, zb_738, za_739, za_740, za_741, za_742, za_743, za_744, za_745, za_746, za_747, zb_748, za_749, za_750, zb_751, zb_752, za_753, za_754, za_755, za_756, zb_757, za_758, za_759, za_760, zb_761, za_763, za_764, za_765, true_and, and_true, Nat.reduceAdd]
  exact loop p 0 hp (by omega) rfl
/-- what is laid down of ranks -/
def zs_rk (n : Nat) (M : zm_M) : Prop := zt_wf n (M.1 18) ∧ ∀ i, i < n → M.1 20 i = nI (zt_rk (M.1 18) i)
def zt_ds (b : Nat → Int32) (p q : Nat) : Int32 := nI (zt_rk b p) + nI (zt_rk b q) - 2 * nI (zt_rk b (zt_mt b p q))
theorem c7_distance {E : zm_E} (hE : zm_ok E.2.2.1 E.2.2.2.2) (d : Nat) {n p q : Nat} {M : zm_M} (hw : zs_rk n M) (hp : p < n) (hq : q < n) : zm_R E (d + 3) mX7_distance [.ref 17, .int (nI p), .int (nI q)] M (fun r M' => r = some (.int (zt_ds (M.1 18) p q)) ∧ M' = M) := by
  obtain ⟨hw, hr⟩ := hw
  have hn10 := hw.1
  refine zX7_distance hE rfl (fun G h0 => ?_)
  show G 0 [some (.ref 17), some (.int (nI p)), some (.int (nI q))] [] M
  refine h0 _ _ _ ?_
  simp only [bX7_distance_0, zw_0, zw_1, zs_aloadn0, zs_aloadNn0, zg_7_22, zs_iloadn1, zs_iaload, zs_iloadn2, zs_iadd, zs_iconst, zi_7_45, zs_imul, zs_isub, zs_ireturn, zh_0, zh_1, zh_2, zh_3, zh_4, zt_i, zt_l, zt_r, zt_n, zn_int, zn_b0, zn_b1, zb_15, zb_16, zb_17, za_18, za_19, za_20, za_21, za_22, zb_23, za_24, za_25, za_26, za_27, za_28, za_29, za_30, za_31, za_32, zb_35, za_36, za_37, za_38, za_39, za_40, zb_377, zb_378, za_379, za_380, za_381, za_382, za_383, zb_384, za_385, za_386, za_387, za_388, za_389, za_390, za_391, za_392, za_393, zb_396, za_397, za_398, za_399, za_400, za_401, zb_738, za_739, za_740, za_741, za_742, za_743, za_744, za_745, za_746, za_747, zb_748, za_749, za_750, zb_751, zb_752, za_753, za_754, za_755, za_756, zb_757, za_758, za_759, za_760, zb_761, za_763, za_764, za_765, zu_0, zu_1, zu_2, zu_3, zu_4, zu_5, zu_6, zu_7, zu_8, zu_9, zu_10, zu_11, zu_12, zu_13, zu_14, zu_15, zu_16, zu_17, zu_18, zu_19, zu_20, zu_21, zu_22, zu_23, zu_24, zu_25, zu_26, zu_27, zu_28, zu_29, zu_30, zu_90, zv_0_9, zv_1_9, zv_2_9, zv_3_9, zv_4_9, zv_5_9, zv_6_9, zv_7_9, zv_8_9, zv_0_330, zv_0_4544, zv_1_4544, zv_2_4544, zv_3_4544, zv_4_4544, zv_5_4544, zv_6_4544, zv_7_4544, zv_8_4544, zv_9_4544, zv_10_4544, zv_11_4544, zv_12_4544, zv_13_4544, zv_14_4544, zv_15_4544, zv_16_4544, zv_17_4544, zv_18_4544, zv_19_4544, zv_20_4544, zv_21_4544, zv_22_4544, zv_23_4544, zv_24_4544, zv_25_4544, zv_26_4544, zv_27_4544, zv_28_4544, zv_29_4544, zv_0_11, zv_1_11, zv_0_160, true_and, and_true, Nat.reduceAdd]
  refine ⟨zx_id (by omega) (by decide), zx_id (by omega) (by decide), ?_⟩
  rw [nI_clamp (by omega), nI_clamp (by omega), hr p hp, hr q hq]
  refine zm_R_mono (c7_meeting hE d hw hp hq) ?_
  rintro _ M' ⟨rfl, hM⟩
  subst hM
  simp only [bX7_distance_0, zw_0, zw_1, zs_aloadn0, zs_aloadNn0, zg_7_22, zs_iloadn1, zs_iaload, zs_iloadn2, zs_iadd, zs_iconst, zi_7_45, zs_imul, zs_isub, zs_ireturn, zh_0, zh_1, zh_2, zh_3, zh_4, zt_i, zt_l, zt_r, zt_n, zn_int, zn_b0, zn_b1, zb_15, zb_16, zb_17, za_18, za_19, za_20, za_21, za_22, zb_23, za_24, za_25, za_26, za_27, za_28, za_29, za_30, za_31, za_32, zb_35, za_36, za_37, za_38, za_39, za_40, zb_377, zb_378, za_379, za_380, za_381, za_382, za_383, zb_384, za_385, za_386, za_387, za_388, za_389, za_390, za_391, za_392, za_393, zb_396, za_397, za_398, za_399, za_400, za_401, zb_738, za_739, za_740, za_741, za_742, za_743, za_744, za_745, za_746, za_747, zb_748, za_749, za_750, zb_751, zb_752, za_753, za_754, za_755, za_756, zb_757, za_758, za_759, za_760, zb_761, za_763, za_764, za_765, zu_0, zu_1, zu_2, zu_3, zu_4, zu_5, zu_6, zu_7, zu_8, zu_9, zu_10, zu_11, zu_12, zu_13, zu_14, zu_15, zu_16, zu_17, zu_18, zu_19, zu_20, zu_21, zu_22, zu_23, zu_24, zu_25, zu_26, zu_27, zu_28, zu_29, zu_30, zu_90, zv_0_9, zv_1_9, zv_2_9, zv_3_9, zv_4_9, zv_5_9, zv_6_9, zv_7_9, zv_8_9, zv_0_330, zv_0_4544, zv_1_4544, zv_2_4544, zv_3_4544, zv_4_4544, zv_5_4544, zv_6_4544, zv_7_4544, zv_8_4544, zv_9_4544, zv_10_4544, zv_11_4544, zv_12_4544, zv_13_4544, zv_14_4544, zv_15_4544, zv_16_4544, zv_17_4544, zv_18_4544, zv_19_4544, zv_20_4544, zv_21_4544, zv_22_4544, zv_23_4544, zv_24_4544, zv_25_4544, zv_26_4544, zv_27_4544, zv_28_4544, zv_29_4544, zv_0_11, zv_1_11, zv_0_160, true_and, and_true, Nat.reduceAdd]
  have hm := zt_mt_lt hw hq p hp
  refine ⟨zx_id (by omega) (by decide), ?_⟩
  rw [nI_clamp (by omega), hr _ (by omega)]
  rfl
theorem c7_stepDown {E : zm_E} (hE : zm_ok E.2.2.1 E.2.2.2.2) (d : Nat) {n p q : Nat} {M : zm_M} (hw : zt_wf n (M.1 18)) (hp : p < n) (hq : q < n) (ha : zt_ab (M.1 18) p q = true) : zm_R E (d + 1) mX7_stepDown [.ref 17, .int (nI p), .int (nI q)] M (fun r M' => r = some (.int (nI (zt_dn (M.1 18) p q))) ∧ M' = M) := by
  refine zX7_stepDown hE rfl (fun G h0 h5 h35 => ?_)
  show G 0 [some (.ref 17), some (.int (nI p)), some (.int (nI q)), none, none] [] M
  have hn10 := hw.1
  have loop : ∀ (y c : Nat), y < n → c + y ≤ q → zt_ab (M.1 18) p y = true → zt_dn (M.1 18) p y = zt_dn (M.1 18) p q → G 5 [some (.ref 17), some (.int (nI p)), some (.int (nI q)), some (.int (nI y)), some (.int (nI c))] [] M := by
    intro y
    induction y using Nat.strongRecOn with
    | _ y ih =>
      intro c hy hcy hb hc
      have hlt := zt_ab_lt hw hp y hy hb
      obtain ⟨j, h1, e⟩ := hw.2.2 y (by omega) hy
      rw [zt_ab_boss hw hy h1 e hp] at hb
      refine h5 _ _ _ ?_
      simp only [bX7_stepDown_5, zw_0, zw_1, zs_iload4, zs_bipush, zs_icge, zs_aloadn0, zs_aloadNn0, zg_7_15, zs_iloadn3, zs_iaload, zs_iloadn1, zs_icle, zs_istoren3, zs_iinc4, zs_goto, zc_none, zc_int, zc_ref, zc_null, zc_long, zb_15, zb_16, zb_17, za_18, za_19, za_20, za_21, za_22, zb_23, za_24, za_25, za_26, za_27, za_28, za_29, za_30, za_31, za_32, zb_35, za_36, za_37, za_38, za_39, za_40, zb_377, zb_378, za_379, za_380, za_381, za_382, za_383, zb_384, za_385, za_386, za_387, za_388, za_389, za_390, za_391, za_392, za_393, zb_396, za_397, za_398, za_399, za_400, za_401, zb_738, za_739, za_740, za_741, za_742, za_743, za_744, za_745, za_746, za_747, zb_748, za_749, za_750, zb_751, zb_752, za_753, za_754, za_755, za_756, zb_757, za_758, za_759, za_760, zb_761, za_763, za_764, za_765, zu_0, zu_1, zu_2, zu_3, zu_4, zu_5, zu_6, zu_7, zu_8, zu_9, zu_10, zu_11, zu_12, zu_13, zu_14, zu_15, zu_16, zu_17, zu_18, zu_19, zu_20, zu_21, zu_22, zu_23, zu_24, zu_25, zu_26, zu_27, zu_28, zu_29, zu_30, zu_90, zv_0_9, zv_1_9, zv_2_9, zv_3_9, zv_4_9, zv_5_9, zv_6_9, zv_7_9, zv_8_9, zv_0_330, zv_0_4544, zv_1_4544, zv_2_4544, zv_3_4544, zv_4_4544, zv_5_4544, zv_6_4544, zv_7_4544, zv_8_4544, zv_9_4544, zv_10_4544, zv_11_4544, zv_12_4544, zv_13_4544, zv_14_4544, zv_15_4544, zv_16_4544, zv_17_4544, zv_18_4544, zv_19_4544, zv_20_4544, zv_21_4544, zv_22_4544, zv_23_4544, zv_24_4544, zv_25_4544, zv_26_4544, zv_27_4544, zv_28_4544, zv_29_4544, zv_0_11, zv_1_11, zv_0_160, true_and, and_true, Nat.reduceAdd]
      refine ⟨fun hge => ?_, fun _ => ⟨zx_id (by omega) (by decide), ?_⟩⟩
      · exact absurd hge (nI_ge (a := c) (b := 10) (by omega) (by decide))
      · rw [nI_clamp (by omega), e]
        refine ⟨fun hle => ?_, fun hgt => ⟨zx_id (by omega) (by decide), ?_⟩⟩
        · have hjp : j ≤ p := (nI_leI (by omega) (by omega)).mp hle
          have hjp : j = p := by
            simp only [Bool.or_eq_true, decide_eq_true_eq] at hb
            rcases hb with z | z
            · exact z
            · have := zt_ab_lt hw hp j (by omega) z; omega
          refine h35 _ _ _ ?_
          simp only [bX7_stepDown_35, zw_0, zw_1, zs_iloadn3, zs_ireturn, zn_int, zn_b0, zn_b1, zb_15, zb_16, zb_17, za_18, za_19, za_20, za_21, za_22, zb_23, za_24, za_25, za_26, za_27, za_28, za_29, za_30, za_31, za_32, zb_35, za_36, za_37, za_38, za_39, za_40, zb_377, zb_378, za_379, za_380, za_381, za_382, za_383, zb_384, za_385, za_386, za_387, za_388, za_389, za_390, za_391, za_392, za_393, zb_396, za_397, za_398, za_399, za_400, za_401, zb_738, za_739, za_740, za_741, za_742, za_743, za_744, za_745, za_746, za_747, zb_748, za_749, za_750, zb_751, zb_752, za_753, za_754, za_755, za_756, zb_757, za_758, za_759, za_760, zb_761, za_763, za_764, za_765, true_and, and_true, Nat.reduceAdd]
          have : zt_dn (M.1 18) p y = y := by unfold zt_dn zt_dnf; rw [if_pos (by rw [e, hjp])]
          rw [← hc, this]
        · have hjp : ¬ j = p := fun z => hgt (by rw [z]; exact nI_le (Nat.le_refl _) (by omega))
          have hjn : ¬ nI j = nI p := fun e2 => hjp ((nI_eq (by omega) (by omega)).mp e2)
          simp only [hjp, decide_false, Bool.false_or] at hb
          rw [nI_1]
          refine ih j h1 (c + 1) (by omega) (by omega) hb ?_
          rw [← hc]
          unfold zt_dn
          rw [zt_dnf_ge hw hp j (j + 1) y (by omega) hb (by omega) h1]
          conv => rhs; rw [zt_dnf, e, if_neg hjn, nI_clamp (by omega)]
  refine h0 _ _ _ ?_
  simp only [bX7_stepDown_0, zw_0, zw_1, zs_iloadn2, zs_istoren3, zs_iconst, zs_istore4, zc_none, zc_int, zc_ref, zc_null, zc_long, zb_15, zb_16, zb_17, za_18, za_19, za_20, za_21, za_22, zb_23, za_24, za_25, za_26, za_27, za_28, za_29, za_30, za_31, za_32, zb_35, za_36, za_37, za_38, za_39, za_40, zb_377, zb_378, za_379, za_380, za_381, za_382, za_383, zb_384, za_385, za_386, za_387, za_388, za_389, za_390, za_391, za_392, za_393, zb_396, za_397, za_398, za_399, za_400, za_401, zb_738, za_739, za_740, za_741, za_742, za_743, za_744, za_745, za_746, za_747, zb_748, za_749, za_750, zb_751, zb_752, za_753, za_754, za_755, za_756, zb_757, za_758, za_759, za_760, zb_761, za_763, za_764, za_765, true_and, and_true, Nat.reduceAdd]
  exact loop q 0 hq (by omega) ha rfl
/-! ===== sets as bits ===== -/
theorem nx_or (a b : Nat) : nI a ||| nI b = nI (a ||| b) := by
  apply Int32.toBitVec_inj.1
  show BitVec.ofNat 32 a ||| BitVec.ofNat 32 b = BitVec.ofNat 32 (a ||| b)
  apply BitVec.eq_of_getLsbD_eq
  intro i hi
  simp [hi]
theorem zx_1s : ∀ i, i < 31 → (1 : Int32) <<< (nI i &&& 31) = nI (2 ^ i) := by decide +kernel
/-- those below k of a kind, as a number -/
def zb_set (P : Nat → Bool) : Nat → Nat
  | 0 => 0
  | k + 1 => zb_set P k ||| (if P k then 2 ^ k else 0)
theorem zb_set_tb (P : Nat → Bool) : ∀ k i, (zb_set P k).testBit i = (decide (i < k) && P i) := by
  intro k
  induction k with
  | zero => intro i; simp [zb_set]
  | succ k ih =>
    intro i
    simp only [zb_set, Nat.testBit_or, ih i]
    by_cases hik : i = k
    · subst hik
      cases hP : P i with
      | false => simp
      | true => simp [Nat.testBit_two_pow]
    · have h1 : decide (i < k) = decide (i < k + 1) := by by_cases z : i < k <;> simp [z] <;> omega
      rw [h1]
      cases hP : P k with
      | false => simp
      | true =>
        have : (2 ^ k).testBit i = false := Nat.testBit_two_pow_of_ne (fun z => hik z.symm)
        simp [this]
theorem zb_set_lt (P : Nat → Bool) : ∀ k, zb_set P k < 2 ^ k := by
  intro k
  induction k with
  | zero => simp [zb_set]
  | succ k ih =>
    simp only [zb_set]
    refine Nat.or_lt_two_pow ?_ ?_
    · rw [Nat.pow_succ]; omega
    · split
      · rw [Nat.pow_succ]; have := Nat.two_pow_pos k; omega
      · exact Nat.two_pow_pos _
theorem c7_bitsBelow {E : zm_E} (hE : zm_ok E.2.2.1 E.2.2.2.2) (d : Nat) {n p : Nat} {M : zm_M} (hw : zt_wf n (M.1 18)) (hc : M.1 17 0 = nI n) (hp : p < n) : zm_R E (d + 2) mX7_bitsBelow [.ref 17, .int (nI p)] M (fun r M' => r = some (.int (nI (zb_set (zt_ae (M.1 18) p) n))) ∧ M' = M) := by
  refine zX7_bitsBelow hE rfl (fun G h0 h4 h27 h33 => ?_)
  show G 0 [some (.ref 17), some (.int (nI p)), none, none] [] M
  have hn10 := hw.1
  have loop : ∀ (f i : Nat), i + f = n → p ≤ i → G 4 [some (.ref 17), some (.int (nI p)), some (.int (nI (zb_set (zt_ae (M.1 18) p) i))), some (.int (nI i))] [] M := by
    intro f
    induction f with
    | zero =>
      intro i hi hpi
      refine h4 _ _ _ ?_
      simp only [bX7_bitsBelow_4, zw_0, zw_1, zs_iloadn3, zs_aloadn0, zs_aloadNn0, zg_7_9, zs_icge, zs_iloadn1, zi_7_41, zs_ifeq, zs_iloadn2, zs_iconst, zs_ishl, zs_ior, zs_istoren2, zc_none, zc_int, zc_ref, zc_null, zc_long, zh_0, zh_1, zh_2, zh_3, zh_4, zt_i, zt_l, zt_r, zt_n, zb_15, zb_16, zb_17, za_18, za_19, za_20, za_21, za_22, zb_23, za_24, za_25, za_26, za_27, za_28, za_29, za_30, za_31, za_32, zb_35, za_36, za_37, za_38, za_39, za_40, zb_377, zb_378, za_379, za_380, za_381, za_382, za_383, zb_384, za_385, za_386, za_387, za_388, za_389, za_390, za_391, za_392, za_393, zb_396, za_397, za_398, za_399, za_400, za_401, zb_738, za_739, za_740, za_741, za_742, za_743, za_744, za_745, za_746, za_747, zb_748, za_749, za_750, zb_751, zb_752, za_753, za_754, za_755, za_756, zb_757, za_758, za_759, za_760, zb_761, za_763, za_764, za_765, true_and, and_true, Nat.reduceAdd, hc]
      refine ⟨fun _ => ?_, fun h => absurd (nI_le (by omega) (by omega)) h⟩
      refine h33 _ _ _ ?_
      simp only [bX7_bitsBelow_33, zw_0, zw_1, zs_iloadn2, zs_ireturn, zn_int, zn_b0, zn_b1, zb_15, zb_16, zb_17, za_18, za_19, za_20, za_21, za_22, zb_23, za_24, za_25, za_26, za_27, za_28, za_29, za_30, za_31, za_32, zb_35, za_36, za_37, za_38, za_39, za_40, zb_377, zb_378, za_379, za_380, za_381, za_382, za_383, zb_384, za_385, za_386, za_387, za_388, za_389, za_390, za_391, za_392, za_393, zb_396, za_397, za_398, za_399, za_400, za_401, zb_738, za_739, za_740, za_741, za_742, za_743, za_744, za_745, za_746, za_747, zb_748, za_749, za_750, zb_751, zb_752, za_753, za_754, za_755, za_756, zb_757, za_758, za_759, za_760, zb_761, za_763, za_764, za_765, true_and, and_true, Nat.reduceAdd]
      rw [show i = n by omega]
    | succ f ih =>
      intro i hi hpi
      have next : ∀ v, v = nI (zb_set (zt_ae (M.1 18) p) (i + 1)) → G 27 [some (.ref 17), some (.int (nI p)), some (.int v), some (.int (nI i))] [] M := by
        intro v hv
        refine h27 _ _ _ ?_
        simp only [bX7_bitsBelow_27, zw_0, zw_1, zs_iinc3, zs_goto, zc_none, zc_int, zc_ref, zc_null, zc_long, zb_15, zb_16, zb_17, za_18, za_19, za_20, za_21, za_22, zb_23, za_24, za_25, za_26, za_27, za_28, za_29, za_30, za_31, za_32, zb_35, za_36, za_37, za_38, za_39, za_40, zb_377, zb_378, za_379, za_380, za_381, za_382, za_383, zb_384, za_385, za_386, za_387, za_388, za_389, za_390, za_391, za_392, za_393, zb_396, za_397, za_398, za_399, za_400, za_401, zb_738, za_739, za_740, za_741, za_742, za_743, za_744, za_745, za_746, za_747, zb_748, za_749, za_750, zb_751, zb_752, za_753, za_754, za_755, za_756, zb_757, za_758, za_759, za_760, zb_761, za_763, za_764, za_765, true_and, and_true, Nat.reduceAdd]
        rw [hv, nI_1]
        exact ih (i + 1) (by omega) (by omega)
      refine h4 _ _ _ ?_
      simp only [bX7_bitsBelow_4, zw_0, zw_1, zs_iloadn3, zs_aloadn0, zs_aloadNn0, zg_7_9, zs_icge, zs_iloadn1, zi_7_41, zs_ifeq, zs_iloadn2, zs_iconst, zs_ishl, zs_ior, zs_istoren2, zc_none, zc_int, zc_ref, zc_null, zc_long, zh_0, zh_1, zh_2, zh_3, zh_4, zt_i, zt_l, zt_r, zt_n, zb_15, zb_16, zb_17, za_18, za_19, za_20, za_21, za_22, zb_23, za_24, za_25, za_26, za_27, za_28, za_29, za_30, za_31, za_32, zb_35, za_36, za_37, za_38, za_39, za_40, zb_377, zb_378, za_379, za_380, za_381, za_382, za_383, zb_384, za_385, za_386, za_387, za_388, za_389, za_390, za_391, za_392, za_393, zb_396, za_397, za_398, za_399, za_400, za_401, zb_738, za_739, za_740, za_741, za_742, za_743, za_744, za_745, za_746, za_747, zb_748, za_749, za_750, zb_751, zb_752, za_753, za_754, za_755, za_756, zb_757, za_758, za_759, za_760, zb_761, za_763, za_764, za_765, true_and, and_true, Nat.reduceAdd, hc]
      refine ⟨fun h => absurd h (nI_ge (by omega) (by omega)), fun _ => ?_⟩
      refine zm_R_mono (c7_isAboveOrSame hE d hw hp (show i < n by omega)) ?_
      rintro _ M' ⟨rfl, hM⟩
      subst hM
      simp only [bX7_bitsBelow_4, zw_0, zw_1, zs_iloadn3, zs_aloadn0, zs_aloadNn0, zg_7_9, zs_icge, zs_iloadn1, zi_7_41, zs_ifeq, zs_iloadn2, zs_iconst, zs_ishl, zs_ior, zs_istoren2, zc_none, zc_int, zc_ref, zc_null, zc_long, zh_0, zh_1, zh_2, zh_3, zh_4, zt_i, zt_l, zt_r, zt_n, zb_15, zb_16, zb_17, za_18, za_19, za_20, za_21, za_22, zb_23, za_24, za_25, za_26, za_27, za_28, za_29, za_30, za_31, za_32, zb_35, za_36, za_37, za_38, za_39, za_40, zb_377, zb_378, za_379, za_380, za_381, za_382, za_383, zb_384, za_385, za_386, za_387, za_388, za_389, za_390, za_391, za_392, za_393, zb_396, za_397, za_398, za_399, za_400, za_401, zb_738, za_739, za_740, za_741, za_742, za_743, za_744, za_745, za_746, za_747, zb_748, za_749, za_750, zb_751, zb_752, za_753, za_754, za_755, za_756, zb_757, za_758, za_759, za_760, zb_761, za_763, za_764, za_765, true_and, and_true, Nat.reduceAdd, hc]
      cases ha : zt_ae (M'.1 18) p i with
      | false =>
        refine ⟨fun _ => next _ ?_, fun h => absurd rfl h⟩
        simp only [zb_set, ha, Bool.false_eq_true, if_false, Nat.or_zero]
      | true =>
        refine ⟨fun h => absurd h (by decide), fun _ => next _ ?_⟩
        simp only [zb_set, ha, if_true]
        rw [zx_1s i (by omega), nx_or]
  refine h0 _ _ _ ?_
  simp only [bX7_bitsBelow_0, zw_0, zw_1, zs_iconst, zs_istoren2, zs_iloadn1, zs_istoren3, zc_none, zc_int, zc_ref, zc_null, zc_long, zb_15, zb_16, zb_17, za_18, za_19, za_20, za_21, za_22, zb_23, za_24, za_25, za_26, za_27, za_28, za_29, za_30, za_31, za_32, zb_35, za_36, za_37, za_38, za_39, za_40, zb_377, zb_378, za_379, za_380, za_381, za_382, za_383, zb_384, za_385, za_386, za_387, za_388, za_389, za_390, za_391, za_392, za_393, zb_396, za_397, za_398, za_399, za_400, za_401, zb_738, za_739, za_740, za_741, za_742, za_743, za_744, za_745, za_746, za_747, zb_748, za_749, za_750, zb_751, zb_752, za_753, za_754, za_755, za_756, zb_757, za_758, za_759, za_760, zb_761, za_763, za_764, za_765, true_and, and_true, Nat.reduceAdd]
  have e : zb_set (zt_ae (M.1 18) p) p = 0 := by
    apply Nat.eq_of_testBit_eq
    intro i
    rw [zb_set_tb, Nat.zero_testBit]
    by_cases z : i < p
    · cases ha : zt_ae (M.1 18) p i with
      | false => simp
      | true => have := zt_ae_le hw hp (show i < n by omega) ha; omega
    · simp [z]
  have h := loop (n - p) p (by omega) (Nat.le_refl _)
  rw [e] at h
  exact h
