/-! ===== how many are at or below each one ===== -/
def zt_cn (b : Nat → Int32) (n p : Nat) : Nat := zc_n (zt_ae b p) n
def zt_tpf (b : Nat → Int32) (j : Nat) : Nat → Nat → Nat
  | 0, e => e
  | f + 1, e => if e ≤ j then e else zt_tpf b j f (b e).toNatClampNeg
def zt_tp (b : Nat → Int32) (j e : Nat) : Nat := zt_tpf b j (e + 1) e
theorem zt_tpf_ge {n : Nat} {b : Nat → Int32} (h : zt_wf n b) {j : Nat} : ∀ (e f g : Nat), e < n → e < f → e < g → zt_tpf b j f e = zt_tpf b j g e := by
  intro e
  induction e using Nat.strongRecOn with
  | _ e ih =>
    intro f g he hf hg
    obtain ⟨f, rfl⟩ : ∃ k, f = k + 1 := ⟨f - 1, by omega⟩
    obtain ⟨g, rfl⟩ : ∃ k, g = k + 1 := ⟨g - 1, by omega⟩
    simp only [zt_tpf]
    by_cases c : e ≤ j
    · rw [if_pos c, if_pos c]
    · rw [if_neg c, if_neg c]
      obtain ⟨i, h1, h2⟩ := h.2.2 e (by omega) he
      have := h.1
      rw [h2, nI_clamp (by omega)]
      exact ih i h1 f g (by omega) (by omega) (by omega)
theorem zt_tp_le {b : Nat → Int32} {j e : Nat} (h : e ≤ j) : zt_tp b j e = e := by
  unfold zt_tp zt_tpf
  rw [if_pos h]
theorem zt_tp_gt {n : Nat} {b : Nat → Int32} (h : zt_wf n b) {j e i : Nat} (he : e < n) (hj : j < e) (hi : i < e) (hb : b e = nI i) : zt_tp b j e = zt_tp b j i := by
  have := h.1
  unfold zt_tp
  rw [zt_tpf, if_neg (by omega), hb, nI_clamp (by omega)]
  exact zt_tpf_ge h i e (i + 1) (by omega) hi (by omega)
theorem zt_tp_bd {n : Nat} {b : Nat → Int32} (h : zt_wf n b) {j : Nat} : ∀ e, e < n → zt_tp b j e ≤ j := by
  intro e
  induction e using Nat.strongRecOn with
  | _ e ih =>
    intro he
    by_cases c : e ≤ j
    · rw [zt_tp_le c]; exact c
    · obtain ⟨i, h1, h2⟩ := h.2.2 e (by omega) he
      rw [zt_tp_gt h he (by omega) h1 h2]
      exact ih i h1 (by omega)
theorem zt_tp_st {n : Nat} {b : Nat → Int32} (h : zt_wf n b) {j i : Nat} (hj : j + 1 < n) (hi : i < j + 1) (hb : b (j + 1) = nI i) : ∀ e, e < n → zt_tp b j e = if zt_tp b (j + 1) e = j + 1 then i else zt_tp b (j + 1) e := by
  intro e
  induction e using Nat.strongRecOn with
  | _ e ih =>
    intro he
    by_cases c : e ≤ j
    · rw [zt_tp_le c, zt_tp_le (by omega), if_neg (by omega)]
    · by_cases c2 : e = j + 1
      · subst c2
        rw [zt_tp_le (Nat.le_refl _), if_pos rfl, zt_tp_gt h he (by omega) hi hb, zt_tp_le (by omega)]
      · obtain ⟨x, h1, h2⟩ := h.2.2 e (by omega) he
        rw [zt_tp_gt h he (by omega) h1 h2, zt_tp_gt h he (by omega) h1 h2]
        exact ih x h1 (by omega)
theorem zt_tp_ae {n : Nat} {b : Nat → Int32} (h : zt_wf n b) {j : Nat} (hj : j < n) : ∀ e, e < n → zt_ae b j e = decide (zt_tp b j e = j) := by
  intro e
  induction e using Nat.strongRecOn with
  | _ e ih =>
    intro he
    by_cases c : e ≤ j
    · rw [zt_tp_le c]
      by_cases c2 : e = j
      · subst c2; simp [zt_ae]
      · cases ha : zt_ae b j e with
        | false => simp [c2]
        | true => have := zt_ae_le h hj he ha; omega
    · obtain ⟨x, h1, h2⟩ := h.2.2 e (by omega) he
      rw [zt_tp_gt h he (by omega) h1 h2, zt_ae_boss h he h1 h2 hj (by omega)]
      exact ih x h1 (by omega)
theorem zc_n_or {P R S : Nat → Bool} : ∀ n, (∀ i, i < n → S i = (P i || R i)) → (∀ i, i < n → ¬ (P i = true ∧ R i = true)) → zc_n S n = zc_n P n + zc_n R n := by
  intro n
  induction n with
  | zero => intro _ _; rfl
  | succ n ih =>
    intro h1 h2
    simp only [zc_n]
    rw [ih (fun i hi => h1 i (by omega)) (fun i hi => h2 i (by omega)), h1 n (by omega)]
    have := h2 n (by omega)
    by_cases p : P n = true <;> by_cases r : R n = true <;> simp_all <;> omega
theorem zc_n_0 : ∀ n, zc_n (fun _ => false) n = 0 := by
  intro n
  induction n with
  | zero => rfl
  | succ n ih => simp only [zc_n]; rw [ih]; rfl
theorem zt_tp_cn {n : Nat} {b : Nat → Int32} (h : zt_wf n b) {j i : Nat} (hj : j + 1 < n) (hi : i < j + 1) (hb : b (j + 1) = nI i) {p : Nat} (hp : p ≤ j) : zc_n (fun e => decide (zt_tp b j e = p)) n = zc_n (fun e => decide (zt_tp b (j + 1) e = p)) n + if p = i then zc_n (fun e => decide (zt_tp b (j + 1) e = j + 1)) n else 0 := by
  by_cases c : p = i
  · rw [if_pos c]
    refine zc_n_or n (fun e he => ?_) (fun e he => ?_)
    · rw [zt_tp_st h hj hi hb e he]
      by_cases c2 : zt_tp b (j + 1) e = j + 1
      · rw [if_pos c2]; simp [c2, c]
      · rw [if_neg c2]; simp [c2]
    · simp only [decide_eq_true_eq]
      omega
  · rw [if_neg c, Nat.add_zero]
    refine zc_n_c n (fun e he => ?_)
    rw [zt_tp_st h hj hi hb e he]
    by_cases c2 : zt_tp b (j + 1) e = j + 1
    · rw [if_pos c2, c2]
      have h1 : ¬ i = p := fun z => c z.symm
      have h2 : ¬ j + 1 = p := by omega
      simp [h1, h2]
    · rw [if_neg c2]
/-- how the row of sizes looks when those above j are done -/
def zt_sz (b : Nat → Int32) (n j p : Nat) : Nat := if p ≤ j then zc_n (fun e => decide (zt_tp b j e = p)) n else zt_cn b n p
theorem zt_sz_0 {n : Nat} {b : Nat → Int32} (h : zt_wf n b) {p : Nat} (hp : p < n) : zt_sz b n 0 p = zt_cn b n p := by
  unfold zt_sz
  split
  · next c =>
    have : p = 0 := by omega
    subst this
    exact (zc_n_c n (fun e he => zt_tp_ae h hp e he)).symm
  · rfl
theorem zt_sz_top {n : Nat} {b : Nat → Int32} {p : Nat} (hp : p < n) : zt_sz b n (n - 1) p = 1 := by
  unfold zt_sz
  rw [if_pos (by omega)]
  have e : ∀ i, i < n → decide (zt_tp b (n - 1) i = p) = decide (i = p) := fun i hi => by rw [zt_tp_le (by omega)]
  rw [zc_n_c n e]
  clear e
  induction n with
  | zero => omega
  | succ n ih =>
    simp only [zc_n]
    by_cases c : p = n
    · subst c
      have : zc_n (fun i => decide (i = p)) p = 0 := by
        rw [zc_n_c (g := fun _ => false) p (fun i hi => by simp; omega)]
        exact zc_n_0 p
      rw [this]; simp
    · rw [ih (by omega)]
      have : ¬ n = p := fun z => c z.symm
      simp [this]
theorem zt_cn_bd {n : Nat} {b : Nat → Int32} (h : zt_wf n b) {p : Nat} (hp : p < n) : 1 ≤ zt_cn b n p ∧ zt_cn b n p ≤ n := by
  refine ⟨?_, zc_n_le _ _⟩
  unfold zt_cn
  have key : ∀ m, p < m → 1 ≤ zc_n (zt_ae b p) m := by
    intro m
    induction m with
    | zero => intro z; omega
    | succ m ih =>
      intro z
      simp only [zc_n]
      by_cases c : p = m
      · subst c
        have : zt_ae b p p = true := by simp [zt_ae]
        rw [this]; simp
      · have := ih (by omega); omega
  exact key n hp
theorem zx_dn {k : Nat} (hk : 0 < k) : nI k + (-1) = nI (k - 1) := by
  obtain ⟨j, rfl⟩ : ∃ j, k = j + 1 := ⟨k - 1, by omega⟩
  rw [pk_m1]; rfl
theorem c8_measure {E : zm_E} (hE : zm_ok E.2.2.1 E.2.2.2.2) (d : Nat) {n : Nat} {M : zm_M} (hw : zt_wf n (M.1 18)) (hc : M.1 17 0 = nI n) : zm_R E (d + 2) mX8_measure [.ref 752] M (fun r M' => r = none ∧ zf [753] M M' ∧ ∀ p, p < n → M'.1 753 p = nI (zt_cn (M.1 18) n p)) := by
  refine zX8_measure hE rfl (fun G h0 h18 h51 => ?_)
  show G 0 [some (.ref 752), none] [] M
  have hn := hw.1
  have loop : ∀ (j : Nat) (M' : zm_M), j < n → zf [753] M M' → (∀ p, p < n → M'.1 753 p = nI (zt_sz (M.1 18) n j p)) → G 18 [some (.ref 752), some (.int (nI j))] [] M' := by
    intro j
    induction j with
    | zero =>
      intro M' hj f1 f2
      refine h18 _ _ _ ?_
      simp only [bX8_measure_18, zw_0, zw_1, zs_iloadn1, zs_ifle, zs_aloadn0, zs_aloadNn0, zg_8_9, zg_8_24, zg_8_40, zs_iaload, zs_dup2, zs_iadd, zs_iastore, zs_iinc1, zs_goto, zc_none, zc_int, zc_ref, zc_null, zc_long, zb_15, zb_16, zb_17, za_18, za_19, za_20, za_21, za_22, zb_23, za_24, za_25, za_26, za_27, za_28, za_29, za_30, za_31, za_32, zb_35, za_36, za_37, za_38, za_39, za_40, zb_377, zb_378, za_379, za_380, za_381, za_382, za_383, zb_384, za_385, za_386, za_387, za_388, za_389, za_390, za_391, za_392, za_393, zb_396, za_397, za_398, za_399, za_400, za_401, zb_738, za_739, za_740, za_741, za_742, za_743, za_744, za_745, za_746, za_747, zb_748, za_749, za_750, zb_751, zb_752, za_753, za_754, za_755, za_756, zb_757, za_758, za_759, za_760, zb_761, za_763, za_764, za_765, zu_0, zu_1, zu_2, zu_3, zu_4, zu_5, zu_6, zu_7, zu_8, zu_9, zu_10, zu_11, zu_12, zu_13, zu_14, zu_15, zu_16, zu_17, zu_18, zu_19, zu_20, zu_21, zu_22, zu_23, zu_24, zu_25, zu_26, zu_27, zu_28, zu_29, zu_30, zu_90, zv_0_9, zv_1_9, zv_2_9, zv_3_9, zv_4_9, zv_5_9, zv_6_9, zv_7_9, zv_8_9, zv_0_330, zv_0_4544, zv_1_4544, zv_2_4544, zv_3_4544, zv_4_4544, zv_5_4544, zv_6_4544, zv_7_4544, zv_8_4544, zv_9_4544, zv_10_4544, zv_11_4544, zv_12_4544, zv_13_4544, zv_14_4544, zv_15_4544, zv_16_4544, zv_17_4544, zv_18_4544, zv_19_4544, zv_20_4544, zv_21_4544, zv_22_4544, zv_23_4544, zv_24_4544, zv_25_4544, zv_26_4544, zv_27_4544, zv_28_4544, zv_29_4544, zv_0_11, zv_1_11, zv_0_160, true_and, and_true, Nat.reduceAdd]
      refine ⟨fun _ => ?_, fun h => absurd (by decide) h⟩
      refine h51 _ _ _ ?_
      simp only [bX8_measure_51, zw_0, zw_1, zs_return, zn_int, zn_b0, zn_b1, zb_15, zb_16, zb_17, za_18, za_19, za_20, za_21, za_22, zb_23, za_24, za_25, za_26, za_27, za_28, za_29, za_30, za_31, za_32, zb_35, za_36, za_37, za_38, za_39, za_40, zb_377, zb_378, za_379, za_380, za_381, za_382, za_383, zb_384, za_385, za_386, za_387, za_388, za_389, za_390, za_391, za_392, za_393, zb_396, za_397, za_398, za_399, za_400, za_401, zb_738, za_739, za_740, za_741, za_742, za_743, za_744, za_745, za_746, za_747, zb_748, za_749, za_750, zb_751, zb_752, za_753, za_754, za_755, za_756, zb_757, za_758, za_759, za_760, zb_761, za_763, za_764, za_765, true_and, and_true, Nat.reduceAdd]
      exact ⟨f1, fun p hp => by rw [f2 p hp, zt_sz_0 hw hp]⟩
    | succ j ih =>
      intro M' hj f1 f2
      obtain ⟨i, hi, hb⟩ := hw.2.2 (j + 1) (by omega) hj
      have e18 : M'.1 18 = M.1 18 := (f1 18 (by decide)).1
      have hb' : M'.1 18 (j + 1) = nI i := by rw [e18]; exact hb
      have i1 : vp_in (nI (j + 1)) 10 := vp_in_nI (by omega) (by decide)
      have i2 : (nI (j + 1)).toNatClampNeg = j + 1 := nI_clamp (by omega)
      have i3 : vp_in (nI i) 10 := vp_in_nI (by omega) (by decide)
      have i4 : (nI i).toNatClampNeg = i := nI_clamp (by omega)
      refine h18 _ _ _ ?_
      simp only [bX8_measure_18, zw_0, zw_1, zs_iloadn1, zs_ifle, zs_aloadn0, zs_aloadNn0, zg_8_9, zg_8_24, zg_8_40, zs_iaload, zs_dup2, zs_iadd, zs_iastore, zs_iinc1, zs_goto, zc_none, zc_int, zc_ref, zc_null, zc_long, zb_15, zb_16, zb_17, za_18, za_19, za_20, za_21, za_22, zb_23, za_24, za_25, za_26, za_27, za_28, za_29, za_30, za_31, za_32, zb_35, za_36, za_37, za_38, za_39, za_40, zb_377, zb_378, za_379, za_380, za_381, za_382, za_383, zb_384, za_385, za_386, za_387, za_388, za_389, za_390, za_391, za_392, za_393, zb_396, za_397, za_398, za_399, za_400, za_401, zb_738, za_739, za_740, za_741, za_742, za_743, za_744, za_745, za_746, za_747, zb_748, za_749, za_750, zb_751, zb_752, za_753, za_754, za_755, za_756, zb_757, za_758, za_759, za_760, zb_761, za_763, za_764, za_765, zu_0, zu_1, zu_2, zu_3, zu_4, zu_5, zu_6, zu_7, zu_8, zu_9, zu_10, zu_11, zu_12, zu_13, zu_14, zu_15, zu_16, zu_17, zu_18, zu_19, zu_20, zu_21, zu_22, zu_23, zu_24, zu_25, zu_26, zu_27, zu_28, zu_29, zu_30, zu_90, zv_0_9, zv_1_9, zv_2_9, zv_3_9, zv_4_9, zv_5_9, zv_6_9, zv_7_9, zv_8_9, zv_0_330, zv_0_4544, zv_1_4544, zv_2_4544, zv_3_4544, zv_4_4544, zv_5_4544, zv_6_4544, zv_7_4544, zv_8_4544, zv_9_4544, zv_10_4544, zv_11_4544, zv_12_4544, zv_13_4544, zv_14_4544, zv_15_4544, zv_16_4544, zv_17_4544, zv_18_4544, zv_19_4544, zv_20_4544, zv_21_4544, zv_22_4544, zv_23_4544, zv_24_4544, zv_25_4544, zv_26_4544, zv_27_4544, zv_28_4544, zv_29_4544, zv_0_11, zv_1_11, zv_0_160, true_and, and_true, Nat.reduceAdd, i1, i2, hb', i3, i4]
      refine ⟨fun h => absurd h (nI_nle (by omega) (by omega)), fun _ => ?_⟩
      rw [pk_m1]
      refine ih _ (by omega) (zf_wi f1 (by decide)) (fun p hp => ?_)
      rw [zm_wi_same]
      have key := fun (p : Nat) (hp : p ≤ j) => zt_tp_cn hw hj hi hb hp
      have self : zt_sz (M.1 18) n (j + 1) (j + 1) = zt_cn (M.1 18) n (j + 1) := by
        unfold zt_sz
        rw [if_pos (Nat.le_refl _)]
        exact (zc_n_c n (fun e he => zt_tp_ae hw hj e he)).symm
      split
      · next c =>
        subst c
        rw [f2 p hp, f2 (j + 1) hj, nI_add]
        congr 1
        unfold zt_sz
        rw [if_pos (by omega), if_pos (Nat.le_refl _), if_pos (by omega), key p (by omega), if_pos rfl]
      · next c =>
        rw [f2 p hp]
        congr 1
        by_cases c2 : p ≤ j
        · unfold zt_sz
          rw [if_pos (by omega), if_pos c2, key p c2, if_neg c]
          rfl
        · by_cases c3 : p = j + 1
          · subst c3
            rw [self]
            unfold zt_sz
            rw [if_neg (by omega)]
          · unfold zt_sz
            rw [if_neg (by omega), if_neg (by omega)]
  refine h0 _ _ _ ?_
  simp only [bX8_measure_0, zw_0, zw_1, zs_aloadn0, zs_aloadNn0, zg_8_9, zs_iconst, zi_8_28, zg_8_24, zg_8_34, zs_isub, zs_istoren1, zc_none, zc_int, zc_ref, zc_null, zc_long, zh_0, zh_1, zh_2, zh_3, zh_4, zt_i, zt_l, zt_r, zt_n, zb_15, zb_16, zb_17, za_18, za_19, za_20, za_21, za_22, zb_23, za_24, za_25, za_26, za_27, za_28, za_29, za_30, za_31, za_32, zb_35, za_36, za_37, za_38, za_39, za_40, zb_377, zb_378, za_379, za_380, za_381, za_382, za_383, zb_384, za_385, za_386, za_387, za_388, za_389, za_390, za_391, za_392, za_393, zb_396, za_397, za_398, za_399, za_400, za_401, zb_738, za_739, za_740, za_741, za_742, za_743, za_744, za_745, za_746, za_747, zb_748, za_749, za_750, zb_751, zb_752, za_753, za_754, za_755, za_756, zb_757, za_758, za_759, za_760, zb_761, za_763, za_764, za_765, true_and, and_true, Nat.reduceAdd]
  have h753 : zm_ar 753 0 10 := ⟨by decide, by decide +kernel⟩
  refine zm_R_mono (c_fill hE d h753 (by decide) 1) ?_
  rintro _ M1 ⟨rfl, f1, f2⟩
  have hc' : M1.1 17 0 = nI n := by rw [(f1 17 (by decide)).1]; exact hc
  simp only [bX8_measure_0, zw_0, zw_1, zs_aloadn0, zs_aloadNn0, zg_8_9, zs_iconst, zi_8_28, zg_8_24, zg_8_34, zs_isub, zs_istoren1, zc_none, zc_int, zc_ref, zc_null, zc_long, zh_0, zh_1, zh_2, zh_3, zh_4, zt_i, zt_l, zt_r, zt_n, zb_15, zb_16, zb_17, za_18, za_19, za_20, za_21, za_22, zb_23, za_24, za_25, za_26, za_27, za_28, za_29, za_30, za_31, za_32, zb_35, za_36, za_37, za_38, za_39, za_40, zb_377, zb_378, za_379, za_380, za_381, za_382, za_383, zb_384, za_385, za_386, za_387, za_388, za_389, za_390, za_391, za_392, za_393, zb_396, za_397, za_398, za_399, za_400, za_401, zb_738, za_739, za_740, za_741, za_742, za_743, za_744, za_745, za_746, za_747, zb_748, za_749, za_750, zb_751, zb_752, za_753, za_754, za_755, za_756, zb_757, za_758, za_759, za_760, zb_761, za_763, za_764, za_765, true_and, and_true, Nat.reduceAdd, hc']
  by_cases hn0 : n = 0
  · subst hn0
    refine h18 _ _ _ ?_
    simp only [bX8_measure_18, zw_0, zw_1, zs_iloadn1, zs_ifle, zs_aloadn0, zs_aloadNn0, zg_8_9, zg_8_24, zg_8_40, zs_iaload, zs_dup2, zs_iadd, zs_iastore, zs_iinc1, zs_goto, zc_none, zc_int, zc_ref, zc_null, zc_long, zb_15, zb_16, zb_17, za_18, za_19, za_20, za_21, za_22, zb_23, za_24, za_25, za_26, za_27, za_28, za_29, za_30, za_31, za_32, zb_35, za_36, za_37, za_38, za_39, za_40, zb_377, zb_378, za_379, za_380, za_381, za_382, za_383, zb_384, za_385, za_386, za_387, za_388, za_389, za_390, za_391, za_392, za_393, zb_396, za_397, za_398, za_399, za_400, za_401, zb_738, za_739, za_740, za_741, za_742, za_743, za_744, za_745, za_746, za_747, zb_748, za_749, za_750, zb_751, zb_752, za_753, za_754, za_755, za_756, zb_757, za_758, za_759, za_760, zb_761, za_763, za_764, za_765, zu_0, zu_1, zu_2, zu_3, zu_4, zu_5, zu_6, zu_7, zu_8, zu_9, zu_10, zu_11, zu_12, zu_13, zu_14, zu_15, zu_16, zu_17, zu_18, zu_19, zu_20, zu_21, zu_22, zu_23, zu_24, zu_25, zu_26, zu_27, zu_28, zu_29, zu_30, zu_90, zv_0_9, zv_1_9, zv_2_9, zv_3_9, zv_4_9, zv_5_9, zv_6_9, zv_7_9, zv_8_9, zv_0_330, zv_0_4544, zv_1_4544, zv_2_4544, zv_3_4544, zv_4_4544, zv_5_4544, zv_6_4544, zv_7_4544, zv_8_4544, zv_9_4544, zv_10_4544, zv_11_4544, zv_12_4544, zv_13_4544, zv_14_4544, zv_15_4544, zv_16_4544, zv_17_4544, zv_18_4544, zv_19_4544, zv_20_4544, zv_21_4544, zv_22_4544, zv_23_4544, zv_24_4544, zv_25_4544, zv_26_4544, zv_27_4544, zv_28_4544, zv_29_4544, zv_0_11, zv_1_11, zv_0_160, true_and, and_true, Nat.reduceAdd]
    refine ⟨fun _ => ?_, fun h => absurd (by decide) h⟩
    refine h51 _ _ _ ?_
    simp only [bX8_measure_51, zw_0, zw_1, zs_return, zn_int, zn_b0, zn_b1, zb_15, zb_16, zb_17, za_18, za_19, za_20, za_21, za_22, zb_23, za_24, za_25, za_26, za_27, za_28, za_29, za_30, za_31, za_32, zb_35, za_36, za_37, za_38, za_39, za_40, zb_377, zb_378, za_379, za_380, za_381, za_382, za_383, zb_384, za_385, za_386, za_387, za_388, za_389, za_390, za_391, za_392, za_393, zb_396, za_397, za_398, za_399, za_400, za_401, zb_738, za_739, za_740, za_741, za_742, za_743, za_744, za_745, za_746, za_747, zb_748, za_749, za_750, zb_751, zb_752, za_753, za_754, za_755, za_756, zb_757, za_758, za_759, za_760, zb_761, za_763, za_764, za_765, true_and, and_true, Nat.reduceAdd]
    exact ⟨f1, fun p hp => absurd hp (by omega)⟩
  · have e : nI n - 1 = nI (n - 1) := by
      have := pk_sub (a := n) (b := 1) (by omega)
      exact this
    rw [e]
    exact loop (n - 1) M1 (by omega) f1 (fun p hp => by rw [f2 p (by omega), zt_sz_top hp]; rfl)
/-! bits of a set -/
theorem zx_pc : ∀ S, S < 1024 → S ≠ 0 → zc_n (S &&& (S - 1)).testBit 10 + 1 = zc_n S.testBit 10 := by decide +kernel
theorem zx_and (a b : Nat) : nI a &&& nI b = nI (a &&& b) := by
  apply Int32.toBitVec_inj.mp
  show BitVec.ofNat 32 a &&& BitVec.ofNat 32 b = BitVec.ofNat 32 (a &&& b)
  exact (BitVec.ofNat_and ..).symm
theorem c_bits {E : zm_E} (hE : zm_ok E.2.2.1 E.2.2.2.2) (d : Nat) {S : Nat} (hS : S < 1024) (M : zm_M) : zm_R E (d + 1) mX12_bits [.int (nI S)] M (fun r M' => r = some (.int (nI (zc_n S.testBit 10))) ∧ M' = M) := by
  refine zX12_bits hE rfl (fun G h0 h4 h20 => ?_)
  show G 0 [some (.int (nI S)), none, none] [] M
  have loop : ∀ (T k : Nat), T < 1024 → k + zc_n T.testBit 10 = zc_n S.testBit 10 → G 4 [some (.int (nI S)), some (.int (nI k)), some (.int (nI T))] [] M := by
    intro T
    induction T using Nat.strongRecOn with
    | _ T ih =>
      intro k hT hk
      refine h4 _ _ _ ?_
      simp only [bX12_bits_4, zw_0, zw_1, zs_iloadn2, zs_ifeq, zs_iinc1, zs_iconst, zs_isub, zs_iand, zs_istoren2, zs_goto, zc_none, zc_int, zc_ref, zc_null, zc_long, zb_0, za_1, za_2, za_3, za_4, za_5, za_6, za_7, za_8, za_9, za_10, za_11, za_12, za_13, za_14, true_and, and_true, Nat.reduceAdd]
      refine ⟨fun h => ?_, fun h => ?_⟩
      · have h0 : T = 0 := (nI_eq (b := 0) (by omega) (by decide)).mp h
        subst h0
        refine h20 _ _ _ ?_
        simp only [bX12_bits_20, zw_0, zw_1, zs_iloadn1, zs_ireturn, zn_int, zn_b0, zn_b1, zb_0, za_1, za_2, za_3, za_4, za_5, za_6, za_7, za_8, za_9, za_10, za_11, za_12, za_13, za_14, true_and, and_true, Nat.reduceAdd]
        have : zc_n (Nat.testBit 0) 10 = 0 := by decide +kernel
        rw [← hk, this, Nat.add_zero]
      · have h0 : T ≠ 0 := fun z => h (by rw [z]; rfl)
        have e : nI T - 1 = nI (T - 1) := pk_sub (a := T) (b := 1) (by omega)
        rw [e, zx_and, nI_1]
        have hl : T &&& (T - 1) ≤ T - 1 := Nat.and_le_right
        have := zx_pc T hT h0
        exact ih _ (by omega) (k + 1) (by omega) (by omega)
  refine h0 _ _ _ ?_
  simp only [bX12_bits_0, zw_0, zw_1, zs_iconst, zs_istoren1, zs_iloadn0, zs_istoren2, zc_none, zc_int, zc_ref, zc_null, zc_long, zb_0, za_1, za_2, za_3, za_4, za_5, za_6, za_7, za_8, za_9, za_10, za_11, za_12, za_13, za_14, true_and, and_true, Nat.reduceAdd]
  exact loop S 0 hS (by omega)
theorem zc_n_ext {P R : Nat → Bool} {n : Nat} : ∀ m, n ≤ m → (∀ i, i < n → P i = R i) → (∀ i, n ≤ i → i < m → R i = false) → zc_n R m = zc_n P n := by
  intro m
  induction m with
  | zero => intro h _ _; have : n = 0 := by omega
            subst this; rfl
  | succ m ih =>
    intro h h1 h2
    by_cases c : n = m + 1
    · subst c
      exact (zc_n_c (m + 1) h1).symm
    · simp only [zc_n]
      rw [ih (by omega) h1 (fun i a b => h2 i a (by omega)), h2 m (by omega) (by omega)]
      rfl
theorem zb_pc (P : Nat → Bool) {n : Nat} (hn : n ≤ 10) : zc_n (zb_set P n).testBit 10 = zc_n P n := by
  refine zc_n_ext 10 hn (fun i hi => ?_) (fun i h1 h2 => ?_)
  · rw [zb_set_tb]; simp [hi]
  · rw [zb_set_tb]; have : ¬ i < n := by omega
    simp [this]
theorem c_bitsB {E : zm_E} (hE : zm_ok E.2.2.1 E.2.2.2.2) (d : Nat) (b : Nat → Int32) {n : Nat} (hn : n ≤ 10) (p : Nat) (M : zm_M) : zm_R E (d + 1) mX12_bits [.int (nI (zb_set (zt_ae b p) n))] M (fun r M' => r = some (.int (nI (zt_cn b n p))) ∧ M' = M) := by
  have := c_bits hE d (S := zb_set (zt_ae b p) n) (Nat.lt_of_lt_of_le (zb_set_lt _ _) (Nat.pow_le_pow_right (n := 2) (by decide) hn)) M
  rw [zb_pc _ hn] at this
  exact this
/-! parts -/
def zt_pt (b : Nat → Int32) (n p : Nat) : Nat → Nat
  | 0 => n - zt_cn b n p
  | k + 1 => if b k = nI p ∧ zt_pt b n p k < zt_cn b n k then zt_cn b n k else zt_pt b n p k
theorem zt_pt_bd {b : Nat → Int32} {n p : Nat} : ∀ k, zt_pt b n p k ≤ n := by
  intro k
  induction k with
  | zero => simp only [zt_pt]; omega
  | succ k ih => simp only [zt_pt]; split; exact zc_n_le _ _; exact ih
theorem zt_pt_low {b : Nat → Int32} {n p : Nat} (h : zt_wf n b) (hp : p < n) : ∀ k, k ≤ p + 1 → zt_pt b n p k = n - zt_cn b n p := by
  intro k
  induction k with
  | zero => intro _; rfl
  | succ k ih =>
    intro hk
    simp only [zt_pt]
    rw [if_neg, ih (by omega)]
    rintro ⟨e, -⟩
    have := h.1
    rcases h.at (show k < n by omega) with z | ⟨j, h1, h2, z⟩
    · rw [z] at e; exact zt_ne (by omega) e.symm
    · rw [z] at e; have := (nI_eq (by omega) (by omega)).mp e; omega
theorem c8_greatestPart {E : zm_E} (hE : zm_ok E.2.2.1 E.2.2.2.2) (d : Nat) {n p : Nat} {M : zm_M} (hw : zt_wf n (M.1 18)) (hc : M.1 17 0 = nI n) (hp : p < n) : zm_R E (d + 3) mX8_greatestPart [.ref 752, .int (nI p)] M (fun r M' => r = some (.int (nI (zt_pt (M.1 18) n p n))) ∧ zf [753] M M') := by
  refine zX8_greatestPart hE rfl (fun G h0 h23 h58 h64 => ?_)
  show G 0 [some (.ref 752), some (.int (nI p)), none, none] [] M
  have hn := hw.1
  refine h0 _ _ _ ?_
  simp only [bX8_greatestPart_0, zw_0, zw_1, zs_aloadn0, zs_aloadNn0, zi_8_43, zg_8_24, zg_8_34, zg_8_9, zs_iloadn1, zs_iaload, zs_isub, zs_istoren2, zs_iconst, zs_iadd, zs_istoren3, zc_none, zc_int, zc_ref, zc_null, zc_long, zh_0, zh_1, zh_2, zh_3, zh_4, zt_i, zt_l, zt_r, zt_n, zb_15, zb_16, zb_17, za_18, za_19, za_20, za_21, za_22, zb_23, za_24, za_25, za_26, za_27, za_28, za_29, za_30, za_31, za_32, zb_35, za_36, za_37, za_38, za_39, za_40, zb_377, zb_378, za_379, za_380, za_381, za_382, za_383, zb_384, za_385, za_386, za_387, za_388, za_389, za_390, za_391, za_392, za_393, zb_396, za_397, za_398, za_399, za_400, za_401, zb_738, za_739, za_740, za_741, za_742, za_743, za_744, za_745, za_746, za_747, zb_748, za_749, za_750, zb_751, zb_752, za_753, za_754, za_755, za_756, zb_757, za_758, za_759, za_760, zb_761, za_763, za_764, za_765, zu_0, zu_1, zu_2, zu_3, zu_4, zu_5, zu_6, zu_7, zu_8, zu_9, zu_10, zu_11, zu_12, zu_13, zu_14, zu_15, zu_16, zu_17, zu_18, zu_19, zu_20, zu_21, zu_22, zu_23, zu_24, zu_25, zu_26, zu_27, zu_28, zu_29, zu_30, zu_90, zv_0_9, zv_1_9, zv_2_9, zv_3_9, zv_4_9, zv_5_9, zv_6_9, zv_7_9, zv_8_9, zv_0_330, zv_0_4544, zv_1_4544, zv_2_4544, zv_3_4544, zv_4_4544, zv_5_4544, zv_6_4544, zv_7_4544, zv_8_4544, zv_9_4544, zv_10_4544, zv_11_4544, zv_12_4544, zv_13_4544, zv_14_4544, zv_15_4544, zv_16_4544, zv_17_4544, zv_18_4544, zv_19_4544, zv_20_4544, zv_21_4544, zv_22_4544, zv_23_4544, zv_24_4544, zv_25_4544, zv_26_4544, zv_27_4544, zv_28_4544, zv_29_4544, zv_0_11, zv_1_11, zv_0_160, true_and, and_true, Nat.reduceAdd]
  refine zm_R_mono (c8_measure hE d hw hc) ?_
  rintro _ M1 ⟨rfl, f1, f2⟩
  have hc' : M1.1 17 0 = nI n := by rw [(f1 17 (by decide)).1]; exact hc
  have e18 : M1.1 18 = M.1 18 := (f1 18 (by decide)).1
  have j1 : vp_in (nI p) 10 := vp_in_nI (by omega) (by decide)
  have j2 : (nI p).toNatClampNeg = p := nI_clamp (by omega)
  have loop : ∀ (f k : Nat), k + f = n → p < k → G 23 [some (.ref 752), some (.int (nI p)), some (.int (nI (zt_pt (M.1 18) n p k))), some (.int (nI k))] [] M1 := by
    intro f
    induction f with
    | zero =>
      intro k hk hpk
      have hk : k = n := by omega
      subst hk
      refine h23 _ _ _ ?_
      simp only [bX8_greatestPart_23, zw_0, zw_1, zs_iloadn3, zs_aloadn0, zs_aloadNn0, zg_8_24, zg_8_34, zs_icge, zg_8_40, zs_iaload, zs_iloadn1, zs_icne, zs_iloadn2, zg_8_9, zi_8_56, zs_istoren2, zc_none, zc_int, zc_ref, zc_null, zc_long, zh_0, zh_1, zh_2, zh_3, zh_4, zt_i, zt_l, zt_r, zt_n, zb_15, zb_16, zb_17, za_18, za_19, za_20, za_21, za_22, zb_23, za_24, za_25, za_26, za_27, za_28, za_29, za_30, za_31, za_32, zb_35, za_36, za_37, za_38, za_39, za_40, zb_377, zb_378, za_379, za_380, za_381, za_382, za_383, zb_384, za_385, za_386, za_387, za_388, za_389, za_390, za_391, za_392, za_393, zb_396, za_397, za_398, za_399, za_400, za_401, zb_738, za_739, za_740, za_741, za_742, za_743, za_744, za_745, za_746, za_747, zb_748, za_749, za_750, zb_751, zb_752, za_753, za_754, za_755, za_756, zb_757, za_758, za_759, za_760, zb_761, za_763, za_764, za_765, zu_0, zu_1, zu_2, zu_3, zu_4, zu_5, zu_6, zu_7, zu_8, zu_9, zu_10, zu_11, zu_12, zu_13, zu_14, zu_15, zu_16, zu_17, zu_18, zu_19, zu_20, zu_21, zu_22, zu_23, zu_24, zu_25, zu_26, zu_27, zu_28, zu_29, zu_30, zu_90, zv_0_9, zv_1_9, zv_2_9, zv_3_9, zv_4_9, zv_5_9, zv_6_9, zv_7_9, zv_8_9, zv_0_330, zv_0_4544, zv_1_4544, zv_2_4544, zv_3_4544, zv_4_4544, zv_5_4544, zv_6_4544, zv_7_4544, zv_8_4544, zv_9_4544, zv_10_4544, zv_11_4544, zv_12_4544, zv_13_4544, zv_14_4544, zv_15_4544, zv_16_4544, zv_17_4544, zv_18_4544, zv_19_4544, zv_20_4544, zv_21_4544, zv_22_4544, zv_23_4544, zv_24_4544, zv_25_4544, zv_26_4544, zv_27_4544, zv_28_4544, zv_29_4544, zv_0_11, zv_1_11, zv_0_160, true_and, and_true, Nat.reduceAdd, hc']
      refine ⟨fun _ => ?_, fun h => absurd (nI_le (Nat.le_refl _) (by omega)) h⟩
      refine h64 _ _ _ ?_
      simp only [bX8_greatestPart_64, zw_0, zw_1, zs_iloadn2, zs_ireturn, zn_int, zn_b0, zn_b1, zb_15, zb_16, zb_17, za_18, za_19, za_20, za_21, za_22, zb_23, za_24, za_25, za_26, za_27, za_28, za_29, za_30, za_31, za_32, zb_35, za_36, za_37, za_38, za_39, za_40, zb_377, zb_378, za_379, za_380, za_381, za_382, za_383, zb_384, za_385, za_386, za_387, za_388, za_389, za_390, za_391, za_392, za_393, zb_396, za_397, za_398, za_399, za_400, za_401, zb_738, za_739, za_740, za_741, za_742, za_743, za_744, za_745, za_746, za_747, zb_748, za_749, za_750, zb_751, zb_752, za_753, za_754, za_755, za_756, zb_757, za_758, za_759, za_760, zb_761, za_763, za_764, za_765, true_and, and_true, Nat.reduceAdd]
      exact f1
    | succ f ih =>
      intro k hk hpk
      have i1 : vp_in (nI k) 10 := vp_in_nI (by omega) (by decide)
      have i2 : (nI k).toNatClampNeg = k := nI_clamp (by omega)
      have s1 := f2 k (by omega)
      have bd1 := zt_pt_bd (b := M.1 18) (n := n) (p := p) k
      have bd2 := (zt_cn_bd hw (show k < n by omega)).2
      have next : ∀ v, v = nI (zt_pt (M.1 18) n p (k + 1)) → G 58 [some (.ref 752), some (.int (nI p)), some (.int v), some (.int (nI k))] [] M1 := by
        intro v hv
        refine h58 _ _ _ ?_
        simp only [bX8_greatestPart_58, zw_0, zw_1, zs_iinc3, zs_goto, zc_none, zc_int, zc_ref, zc_null, zc_long, zb_15, zb_16, zb_17, za_18, za_19, za_20, za_21, za_22, zb_23, za_24, za_25, za_26, za_27, za_28, za_29, za_30, za_31, za_32, zb_35, za_36, za_37, za_38, za_39, za_40, zb_377, zb_378, za_379, za_380, za_381, za_382, za_383, zb_384, za_385, za_386, za_387, za_388, za_389, za_390, za_391, za_392, za_393, zb_396, za_397, za_398, za_399, za_400, za_401, zb_738, za_739, za_740, za_741, za_742, za_743, za_744, za_745, za_746, za_747, zb_748, za_749, za_750, zb_751, zb_752, za_753, za_754, za_755, za_756, zb_757, za_758, za_759, za_760, zb_761, za_763, za_764, za_765, true_and, and_true, Nat.reduceAdd]
        rw [hv, nI_1]
        exact ih (k + 1) (by omega) (by omega)
      refine h23 _ _ _ ?_
      simp only [bX8_greatestPart_23, zw_0, zw_1, zs_iloadn3, zs_aloadn0, zs_aloadNn0, zg_8_24, zg_8_34, zs_icge, zg_8_40, zs_iaload, zs_iloadn1, zs_icne, zs_iloadn2, zg_8_9, zi_8_56, zs_istoren2, zc_none, zc_int, zc_ref, zc_null, zc_long, zh_0, zh_1, zh_2, zh_3, zh_4, zt_i, zt_l, zt_r, zt_n, zb_15, zb_16, zb_17, za_18, za_19, za_20, za_21, za_22, zb_23, za_24, za_25, za_26, za_27, za_28, za_29, za_30, za_31, za_32, zb_35, za_36, za_37, za_38, za_39, za_40, zb_377, zb_378, za_379, za_380, za_381, za_382, za_383, zb_384, za_385, za_386, za_387, za_388, za_389, za_390, za_391, za_392, za_393, zb_396, za_397, za_398, za_399, za_400, za_401, zb_738, za_739, za_740, za_741, za_742, za_743, za_744, za_745, za_746, za_747, zb_748, za_749, za_750, zb_751, zb_752, za_753, za_754, za_755, za_756, zb_757, za_758, za_759, za_760, zb_761, za_763, za_764, za_765, zu_0, zu_1, zu_2, zu_3, zu_4, zu_5, zu_6, zu_7, zu_8, zu_9, zu_10, zu_11, zu_12, zu_13, zu_14, zu_15, zu_16, zu_17, zu_18, zu_19, zu_20, zu_21, zu_22, zu_23, zu_24, zu_25, zu_26, zu_27, zu_28, zu_29, zu_30, zu_90, zv_0_9, zv_1_9, zv_2_9, zv_3_9, zv_4_9, zv_5_9, zv_6_9, zv_7_9, zv_8_9, zv_0_330, zv_0_4544, zv_1_4544, zv_2_4544, zv_3_4544, zv_4_4544, zv_5_4544, zv_6_4544, zv_7_4544, zv_8_4544, zv_9_4544, zv_10_4544, zv_11_4544, zv_12_4544, zv_13_4544, zv_14_4544, zv_15_4544, zv_16_4544, zv_17_4544, zv_18_4544, zv_19_4544, zv_20_4544, zv_21_4544, zv_22_4544, zv_23_4544, zv_24_4544, zv_25_4544, zv_26_4544, zv_27_4544, zv_28_4544, zv_29_4544, zv_0_11, zv_1_11, zv_0_160, true_and, and_true, Nat.reduceAdd, hc', i1, i2, e18, s1]
      refine ⟨fun h => absurd h (nI_ge (by omega) (by omega)), fun _ => ⟨fun h => next _ ?_, fun h => next _ ?_⟩⟩
      · simp only [zt_pt]; rw [if_neg (fun z => h z.1)]
      · simp only [zt_pt]
        by_cases c : zt_pt (M.1 18) n p k < zt_cn (M.1 18) n k
        · rw [if_pos ((nI_ltI (by omega) (by omega)).mpr c), if_pos ⟨h, c⟩]
        · rw [if_neg (fun z => c ((nI_ltI (by omega) (by omega)).mp z)), if_neg (fun z => c z.2)]
  have s0 := f2 p hp
  have bd := (zt_cn_bd hw hp).2
  simp only [bX8_greatestPart_0, zw_0, zw_1, zs_aloadn0, zs_aloadNn0, zi_8_43, zg_8_24, zg_8_34, zg_8_9, zs_iloadn1, zs_iaload, zs_isub, zs_istoren2, zs_iconst, zs_iadd, zs_istoren3, zc_none, zc_int, zc_ref, zc_null, zc_long, zh_0, zh_1, zh_2, zh_3, zh_4, zt_i, zt_l, zt_r, zt_n, zb_15, zb_16, zb_17, za_18, za_19, za_20, za_21, za_22, zb_23, za_24, za_25, za_26, za_27, za_28, za_29, za_30, za_31, za_32, zb_35, za_36, za_37, za_38, za_39, za_40, zb_377, zb_378, za_379, za_380, za_381, za_382, za_383, zb_384, za_385, za_386, za_387, za_388, za_389, za_390, za_391, za_392, za_393, zb_396, za_397, za_398, za_399, za_400, za_401, zb_738, za_739, za_740, za_741, za_742, za_743, za_744, za_745, za_746, za_747, zb_748, za_749, za_750, zb_751, zb_752, za_753, za_754, za_755, za_756, zb_757, za_758, za_759, za_760, zb_761, za_763, za_764, za_765, zu_0, zu_1, zu_2, zu_3, zu_4, zu_5, zu_6, zu_7, zu_8, zu_9, zu_10, zu_11, zu_12, zu_13, zu_14, zu_15, zu_16, zu_17, zu_18, zu_19, zu_20, zu_21, zu_22, zu_23, zu_24, zu_25, zu_26, zu_27, zu_28, zu_29, zu_30, zu_90, zv_0_9, zv_1_9, zv_2_9, zv_3_9, zv_4_9, zv_5_9, zv_6_9, zv_7_9, zv_8_9, zv_0_330, zv_0_4544, zv_1_4544, zv_2_4544, zv_3_4544, zv_4_4544, zv_5_4544, zv_6_4544, zv_7_4544, zv_8_4544, zv_9_4544, zv_10_4544, zv_11_4544, zv_12_4544, zv_13_4544, zv_14_4544, zv_15_4544, zv_16_4544, zv_17_4544, zv_18_4544, zv_19_4544, zv_20_4544, zv_21_4544, zv_22_4544, zv_23_4544, zv_24_4544, zv_25_4544, zv_26_4544, zv_27_4544, zv_28_4544, zv_29_4544, zv_0_11, zv_1_11, zv_0_160, true_and, and_true, Nat.reduceAdd, hc', j1, j2, s0]
  rw [nI_1, pk_sub bd]
  have := loop (n - (p + 1)) (p + 1) (by omega) (by omega)
  rw [zt_pt_low hw hp (p + 1) (Nat.le_refl _)] at this
  exact this
theorem c11_parts {E : zm_E} (hE : zm_ok E.2.2.1 E.2.2.2.2) (d : Nat) {n : Nat} (o : Int32) {M : zm_M} (hw : zt_wf n (M.1 18)) (hc : M.1 17 0 = nI n) {Q : Option Value → zm_M → Prop} (q1 : zo_is n o = false → Q (some (.int (-1))) M) (q2 : ∀ p M', p < n → o = nI p → zf [753] M M' → Q (some (.int (nI (zt_pt (M.1 18) n p n)))) M') : zm_R E (d + 4) mX11_parts [.ref 15, .int o] M Q := by
  refine zX11_parts hE rfl (fun G h0 h25 h26 => ?_)
  show G 0 [some (.ref 15), some (.int o)] [] M
  have hn := hw.1
  refine h0 _ _ _ ?_
  simp only [bX11_parts_0, zw_0, zw_1, zs_aloadn0, zs_aloadNn0, zg_11_10, zg_11_28, zs_iloadn1, zi_11_82, zs_ifeq, zg_11_51, zi_11_352, zs_goto, zh_0, zh_1, zh_2, zh_3, zh_4, zt_i, zt_l, zt_r, zt_n, zb_15, zb_16, zb_17, za_18, za_19, za_20, za_21, za_22, zb_23, za_24, za_25, za_26, za_27, za_28, za_29, za_30, za_31, za_32, zb_35, za_36, za_37, za_38, za_39, za_40, zb_377, zb_378, za_379, za_380, za_381, za_382, za_383, zb_384, za_385, za_386, za_387, za_388, za_389, za_390, za_391, za_392, za_393, zb_396, za_397, za_398, za_399, za_400, za_401, zb_738, za_739, za_740, za_741, za_742, za_743, za_744, za_745, za_746, za_747, zb_748, za_749, za_750, zb_751, zb_752, za_753, za_754, za_755, za_756, zb_757, za_758, za_759, za_760, zb_761, za_763, za_764, za_765, true_and, and_true, Nat.reduceAdd]
  refine zm_R_eq (c7_has hE (d + 2) (n := n) (by omega) o hc) ?_
  simp only [bX11_parts_0, zw_0, zw_1, zs_aloadn0, zs_aloadNn0, zg_11_10, zg_11_28, zs_iloadn1, zi_11_82, zs_ifeq, zg_11_51, zi_11_352, zs_goto, zh_0, zh_1, zh_2, zh_3, zh_4, zt_i, zt_l, zt_r, zt_n, zb_15, zb_16, zb_17, za_18, za_19, za_20, za_21, za_22, zb_23, za_24, za_25, za_26, za_27, za_28, za_29, za_30, za_31, za_32, zb_35, za_36, za_37, za_38, za_39, za_40, zb_377, zb_378, za_379, za_380, za_381, za_382, za_383, zb_384, za_385, za_386, za_387, za_388, za_389, za_390, za_391, za_392, za_393, zb_396, za_397, za_398, za_399, za_400, za_401, zb_738, za_739, za_740, za_741, za_742, za_743, za_744, za_745, za_746, za_747, zb_748, za_749, za_750, zb_751, zb_752, za_753, za_754, za_755, za_756, zb_757, za_758, za_759, za_760, zb_761, za_763, za_764, za_765, true_and, and_true, Nat.reduceAdd, zi_b0]
  refine ⟨fun h => ?_, fun hp => ?_⟩
  · refine h25 _ _ _ ?_
    simp only [bX11_parts_25, zw_0, zw_1, zs_iconst, zb_15, zb_16, zb_17, za_18, za_19, za_20, za_21, za_22, zb_23, za_24, za_25, za_26, za_27, za_28, za_29, za_30, za_31, za_32, zb_35, za_36, za_37, za_38, za_39, za_40, zb_377, zb_378, za_379, za_380, za_381, za_382, za_383, zb_384, za_385, za_386, za_387, za_388, za_389, za_390, za_391, za_392, za_393, zb_396, za_397, za_398, za_399, za_400, za_401, zb_738, za_739, za_740, za_741, za_742, za_743, za_744, za_745, za_746, za_747, zb_748, za_749, za_750, zb_751, zb_752, za_753, za_754, za_755, za_756, zb_757, za_758, za_759, za_760, zb_761, za_763, za_764, za_765, true_and, and_true, Nat.reduceAdd]
    refine h26 _ _ _ ?_
    simp only [bX11_parts_26, zw_0, zw_1, zs_ireturn, zn_int, zn_b0, zn_b1, zb_15, zb_16, zb_17, za_18, za_19, za_20, za_21, za_22, zb_23, za_24, za_25, za_26, za_27, za_28, za_29, za_30, za_31, za_32, zb_35, za_36, za_37, za_38, za_39, za_40, zb_377, zb_378, za_379, za_380, za_381, za_382, za_383, zb_384, za_385, za_386, za_387, za_388, za_389, za_390, za_391, za_392, za_393, zb_396, za_397, za_398, za_399, za_400, za_401, zb_738, za_739, za_740, za_741, za_742, za_743, za_744, za_745, za_746, za_747, zb_748, za_749, za_750, zb_751, zb_752, za_753, za_754, za_755, za_756, zb_757, za_758, za_759, za_760, zb_761, za_763, za_764, za_765, true_and, and_true, Nat.reduceAdd]
    exact q1 h
  · simp only [Bool.not_eq_false] at hp
    obtain ⟨p, hp', rfl⟩ := zo_of hp (by omega)
    replace hp := hp'
    refine zm_R_mono (c8_greatestPart hE d hw hc hp) ?_
    rintro _ M1 ⟨rfl, f1⟩
    simp only [bX11_parts_0, zw_0, zw_1, zs_aloadn0, zs_aloadNn0, zg_11_10, zg_11_28, zs_iloadn1, zi_11_82, zs_ifeq, zg_11_51, zi_11_352, zs_goto, zh_0, zh_1, zh_2, zh_3, zh_4, zt_i, zt_l, zt_r, zt_n, zb_15, zb_16, zb_17, za_18, za_19, za_20, za_21, za_22, zb_23, za_24, za_25, za_26, za_27, za_28, za_29, za_30, za_31, za_32, zb_35, za_36, za_37, za_38, za_39, za_40, zb_377, zb_378, za_379, za_380, za_381, za_382, za_383, zb_384, za_385, za_386, za_387, za_388, za_389, za_390, za_391, za_392, za_393, zb_396, za_397, za_398, za_399, za_400, za_401, zb_738, za_739, za_740, za_741, za_742, za_743, za_744, za_745, za_746, za_747, zb_748, za_749, za_750, zb_751, zb_752, za_753, za_754, za_755, za_756, zb_757, za_758, za_759, za_760, zb_761, za_763, za_764, za_765, true_and, and_true, Nat.reduceAdd]
    refine h26 _ _ _ ?_
    simp only [bX11_parts_26, zw_0, zw_1, zs_ireturn, zn_int, zn_b0, zn_b1, zb_15, zb_16, zb_17, za_18, za_19, za_20, za_21, za_22, zb_23, za_24, za_25, za_26, za_27, za_28, za_29, za_30, za_31, za_32, zb_35, za_36, za_37, za_38, za_39, za_40, zb_377, zb_378, za_379, za_380, za_381, za_382, za_383, zb_384, za_385, za_386, za_387, za_388, za_389, za_390, za_391, za_392, za_393, zb_396, za_397, za_398, za_399, za_400, za_401, zb_738, za_739, za_740, za_741, za_742, za_743, za_744, za_745, za_746, za_747, zb_748, za_749, za_750, zb_751, zb_752, za_753, za_754, za_755, za_756, zb_757, za_758, za_759, za_760, zb_761, za_763, za_764, za_765, true_and, and_true, Nat.reduceAdd]
    exact q2 p M1 hp rfl f1
theorem c_parts {E : zm_E} (hE : zm_ok E.2.2.1 E.2.2.2.2) (d : Nat) {n : Nat} (o : Int32) {M : zm_M} (hw : zt_wf n (fun i => M.1 1 (90 + i))) (hc : M.1 1 0 = nI n) {Q : Option Value → zm_M → Prop} (q1 : zo_is n o = false → Q (some (.int (-1))) M) (q2 : ∀ p, p < n → o = nI p → Q (some (.int (nI (zt_pt (fun i => M.1 1 (90 + i)) n p n)))) M) : zm_R E (d + 3) mX12_parts [.ref 0, .int o] M Q := by
  refine zX12_parts hE rfl (fun G h0 h10 h28 h72 h78 => ?_)
  show G 0 [some (.ref 0), some (.int o), none, none] [] M
  have hn := hw.1
  refine h0 _ _ _ ?_
  simp only [bX12_parts_0, zw_0, zw_1, zs_aloadn0, zs_aloadNn0, zs_iloadn1, zi_12_73, zs_ifne, zs_iconst, zs_ireturn, zh_0, zh_1, zh_2, zh_3, zh_4, zt_i, zt_l, zt_r, zt_n, zn_int, zn_b0, zn_b1, zb_0, za_1, za_2, za_3, za_4, za_5, za_6, za_7, za_8, za_9, za_10, za_11, za_12, za_13, za_14, true_and, and_true, Nat.reduceAdd]
  refine zm_R_eq (c_isOfficer hE d o M) ?_
  rw [hc, zo_in (by omega)]
  simp only [bX12_parts_0, zw_0, zw_1, zs_aloadn0, zs_aloadNn0, zs_iloadn1, zi_12_73, zs_ifne, zs_iconst, zs_ireturn, zh_0, zh_1, zh_2, zh_3, zh_4, zt_i, zt_l, zt_r, zt_n, zn_int, zn_b0, zn_b1, zb_0, za_1, za_2, za_3, za_4, za_5, za_6, za_7, za_8, za_9, za_10, za_11, za_12, za_13, za_14, true_and, and_true, Nat.reduceAdd, zi_b1]
  refine ⟨fun hp => ?_, fun h => q1 (by simpa [zi_b0] using h)⟩
  obtain ⟨p, hp', rfl⟩ := zo_of hp (by omega)
  replace hp := hp'
  have q2 := q2 p hp rfl
  have loop : ∀ (f k : Nat), k + f = n → 1 ≤ k → G 28 [some (.ref 0), some (.int (nI p)), some (.int (nI (zt_pt (fun i => M.1 1 (90 + i)) n p k))), some (.int (nI k))] [] M := by
    intro f
    induction f with
    | zero =>
      intro k hk _
      have hk : k = n := by omega
      subst hk
      refine h28 _ _ _ ?_
      simp only [bX12_parts_28, zw_0, zw_1, zs_iloadn3, zs_aloadn0, zs_aloadNn0, zg_12_7, zs_iconst, zs_iaload, zs_icge, zs_bipush, zs_iadd, zs_iloadn1, zs_icne, zi_12_398, zi_12_449, zs_iloadn2, zs_icle, zs_istoren2, zc_none, zc_int, zc_ref, zc_null, zc_long, zh_0, zh_1, zh_2, zh_3, zh_4, zt_i, zt_l, zt_r, zt_n, zb_0, za_1, za_2, za_3, za_4, za_5, za_6, za_7, za_8, za_9, za_10, za_11, za_12, za_13, za_14, zu_0, zu_1, zu_2, zu_3, zu_4, zu_5, zu_6, zu_7, zu_8, zu_9, zu_10, zu_11, zu_12, zu_13, zu_14, zu_15, zu_16, zu_17, zu_18, zu_19, zu_20, zu_21, zu_22, zu_23, zu_24, zu_25, zu_26, zu_27, zu_28, zu_29, zu_30, zu_90, zv_0_9, zv_1_9, zv_2_9, zv_3_9, zv_4_9, zv_5_9, zv_6_9, zv_7_9, zv_8_9, zv_0_330, zv_0_4544, zv_1_4544, zv_2_4544, zv_3_4544, zv_4_4544, zv_5_4544, zv_6_4544, zv_7_4544, zv_8_4544, zv_9_4544, zv_10_4544, zv_11_4544, zv_12_4544, zv_13_4544, zv_14_4544, zv_15_4544, zv_16_4544, zv_17_4544, zv_18_4544, zv_19_4544, zv_20_4544, zv_21_4544, zv_22_4544, zv_23_4544, zv_24_4544, zv_25_4544, zv_26_4544, zv_27_4544, zv_28_4544, zv_29_4544, zv_0_11, zv_1_11, zv_0_160, true_and, and_true, Nat.reduceAdd, hc]
      refine ⟨fun _ => ?_, fun h => absurd (nI_le (Nat.le_refl _) (by omega)) h⟩
      refine h78 _ _ _ ?_
      simp only [bX12_parts_78, zw_0, zw_1, zs_iloadn2, zs_ireturn, zn_int, zn_b0, zn_b1, zb_0, za_1, za_2, za_3, za_4, za_5, za_6, za_7, za_8, za_9, za_10, za_11, za_12, za_13, za_14, true_and, and_true, Nat.reduceAdd]
      exact q2
    | succ f ih =>
      intro k hk hk1
      obtain ⟨i1, i2⟩ := zx_ck (k := 90) (p := k) (N := 4544) (by omega) (by decide)
      have bd1 := zt_pt_bd (b := (fun i => M.1 1 (90 + i))) (n := n) (p := p) k
      have bd2 := (zt_cn_bd hw (show k < n by omega)).2
      have next : ∀ v, v = nI (zt_pt (fun i => M.1 1 (90 + i)) n p (k + 1)) → G 72 [some (.ref 0), some (.int (nI p)), some (.int v), some (.int (nI k))] [] M := by
        intro v hv
        refine h72 _ _ _ ?_
        simp only [bX12_parts_72, zw_0, zw_1, zs_iinc3, zs_goto, zc_none, zc_int, zc_ref, zc_null, zc_long, zb_0, za_1, za_2, za_3, za_4, za_5, za_6, za_7, za_8, za_9, za_10, za_11, za_12, za_13, za_14, true_and, and_true, Nat.reduceAdd]
        rw [hv, nI_1]
        exact ih (k + 1) (by omega) (by omega)
      refine h28 _ _ _ ?_
      simp only [bX12_parts_28, zw_0, zw_1, zs_iloadn3, zs_aloadn0, zs_aloadNn0, zg_12_7, zs_iconst, zs_iaload, zs_icge, zs_bipush, zs_iadd, zs_iloadn1, zs_icne, zi_12_398, zi_12_449, zs_iloadn2, zs_icle, zs_istoren2, zc_none, zc_int, zc_ref, zc_null, zc_long, zh_0, zh_1, zh_2, zh_3, zh_4, zt_i, zt_l, zt_r, zt_n, zb_0, za_1, za_2, za_3, za_4, za_5, za_6, za_7, za_8, za_9, za_10, za_11, za_12, za_13, za_14, zu_0, zu_1, zu_2, zu_3, zu_4, zu_5, zu_6, zu_7, zu_8, zu_9, zu_10, zu_11, zu_12, zu_13, zu_14, zu_15, zu_16, zu_17, zu_18, zu_19, zu_20, zu_21, zu_22, zu_23, zu_24, zu_25, zu_26, zu_27, zu_28, zu_29, zu_30, zu_90, zv_0_9, zv_1_9, zv_2_9, zv_3_9, zv_4_9, zv_5_9, zv_6_9, zv_7_9, zv_8_9, zv_0_330, zv_0_4544, zv_1_4544, zv_2_4544, zv_3_4544, zv_4_4544, zv_5_4544, zv_6_4544, zv_7_4544, zv_8_4544, zv_9_4544, zv_10_4544, zv_11_4544, zv_12_4544, zv_13_4544, zv_14_4544, zv_15_4544, zv_16_4544, zv_17_4544, zv_18_4544, zv_19_4544, zv_20_4544, zv_21_4544, zv_22_4544, zv_23_4544, zv_24_4544, zv_25_4544, zv_26_4544, zv_27_4544, zv_28_4544, zv_29_4544, zv_0_11, zv_1_11, zv_0_160, true_and, and_true, Nat.reduceAdd, hc, zx_boss, i1, i2]
      refine ⟨fun h => absurd h (nI_ge (by omega) (by omega)), fun _ => ⟨fun h => next _ ?_, fun h => ?_⟩⟩
      · simp only [zt_pt]; rw [if_neg (fun z => h z.1)]
      · refine zm_R_eq (c_belowOf hE d hw hc (show k < n by omega)) ?_
        simp only [bX12_parts_28, zw_0, zw_1, zs_iloadn3, zs_aloadn0, zs_aloadNn0, zg_12_7, zs_iconst, zs_iaload, zs_icge, zs_bipush, zs_iadd, zs_iloadn1, zs_icne, zi_12_398, zi_12_449, zs_iloadn2, zs_icle, zs_istoren2, zc_none, zc_int, zc_ref, zc_null, zc_long, zh_0, zh_1, zh_2, zh_3, zh_4, zt_i, zt_l, zt_r, zt_n, zb_0, za_1, za_2, za_3, za_4, za_5, za_6, za_7, za_8, za_9, za_10, za_11, za_12, za_13, za_14, zu_0, zu_1, zu_2, zu_3, zu_4, zu_5, zu_6, zu_7, zu_8, zu_9, zu_10, zu_11, zu_12, zu_13, zu_14, zu_15, zu_16, zu_17, zu_18, zu_19, zu_20, zu_21, zu_22, zu_23, zu_24, zu_25, zu_26, zu_27, zu_28, zu_29, zu_30, zu_90, zv_0_9, zv_1_9, zv_2_9, zv_3_9, zv_4_9, zv_5_9, zv_6_9, zv_7_9, zv_8_9, zv_0_330, zv_0_4544, zv_1_4544, zv_2_4544, zv_3_4544, zv_4_4544, zv_5_4544, zv_6_4544, zv_7_4544, zv_8_4544, zv_9_4544, zv_10_4544, zv_11_4544, zv_12_4544, zv_13_4544, zv_14_4544, zv_15_4544, zv_16_4544, zv_17_4544, zv_18_4544, zv_19_4544, zv_20_4544, zv_21_4544, zv_22_4544, zv_23_4544, zv_24_4544, zv_25_4544, zv_26_4544, zv_27_4544, zv_28_4544, zv_29_4544, zv_0_11, zv_1_11, zv_0_160, true_and, and_true, Nat.reduceAdd]
        refine zm_R_eq (c_bitsB hE (d + 1) _ hn k M) ?_
        simp only [bX12_parts_28, zw_0, zw_1, zs_iloadn3, zs_aloadn0, zs_aloadNn0, zg_12_7, zs_iconst, zs_iaload, zs_icge, zs_bipush, zs_iadd, zs_iloadn1, zs_icne, zi_12_398, zi_12_449, zs_iloadn2, zs_icle, zs_istoren2, zc_none, zc_int, zc_ref, zc_null, zc_long, zh_0, zh_1, zh_2, zh_3, zh_4, zt_i, zt_l, zt_r, zt_n, zb_0, za_1, za_2, za_3, za_4, za_5, za_6, za_7, za_8, za_9, za_10, za_11, za_12, za_13, za_14, zu_0, zu_1, zu_2, zu_3, zu_4, zu_5, zu_6, zu_7, zu_8, zu_9, zu_10, zu_11, zu_12, zu_13, zu_14, zu_15, zu_16, zu_17, zu_18, zu_19, zu_20, zu_21, zu_22, zu_23, zu_24, zu_25, zu_26, zu_27, zu_28, zu_29, zu_30, zu_90, zv_0_9, zv_1_9, zv_2_9, zv_3_9, zv_4_9, zv_5_9, zv_6_9, zv_7_9, zv_8_9, zv_0_330, zv_0_4544, zv_1_4544, zv_2_4544, zv_3_4544, zv_4_4544, zv_5_4544, zv_6_4544, zv_7_4544, zv_8_4544, zv_9_4544, zv_10_4544, zv_11_4544, zv_12_4544, zv_13_4544, zv_14_4544, zv_15_4544, zv_16_4544, zv_17_4544, zv_18_4544, zv_19_4544, zv_20_4544, zv_21_4544, zv_22_4544, zv_23_4544, zv_24_4544, zv_25_4544, zv_26_4544, zv_27_4544, zv_28_4544, zv_29_4544, zv_0_11, zv_1_11, zv_0_160, true_and, and_true, Nat.reduceAdd]
        refine ⟨fun h2 => next _ ?_, fun h2 => ?_⟩
        · simp only [zt_pt]; rw [if_neg (fun z => absurd ((nI_leI (by omega) (by omega)).mp h2) (by omega))]
        · refine zm_R_eq (c_belowOf hE d hw hc (show k < n by omega)) ?_
          simp only [bX12_parts_28, zw_0, zw_1, zs_iloadn3, zs_aloadn0, zs_aloadNn0, zg_12_7, zs_iconst, zs_iaload, zs_icge, zs_bipush, zs_iadd, zs_iloadn1, zs_icne, zi_12_398, zi_12_449, zs_iloadn2, zs_icle, zs_istoren2, zc_none, zc_int, zc_ref, zc_null, zc_long, zh_0, zh_1, zh_2, zh_3, zh_4, zt_i, zt_l, zt_r, zt_n, zb_0, za_1, za_2, za_3, za_4, za_5, za_6, za_7, za_8, za_9, za_10, za_11, za_12, za_13, za_14, zu_0, zu_1, zu_2, zu_3, zu_4, zu_5, zu_6, zu_7, zu_8, zu_9, zu_10, zu_11, zu_12, zu_13, zu_14, zu_15, zu_16, zu_17, zu_18, zu_19, zu_20, zu_21, zu_22, zu_23, zu_24, zu_25, zu_26, zu_27, zu_28, zu_29, zu_30, zu_90, zv_0_9, zv_1_9, zv_2_9, zv_3_9, zv_4_9, zv_5_9, zv_6_9, zv_7_9, zv_8_9, zv_0_330, zv_0_4544, zv_1_4544, zv_2_4544, zv_3_4544, zv_4_4544, zv_5_4544, zv_6_4544, zv_7_4544, zv_8_4544, zv_9_4544, zv_10_4544, zv_11_4544, zv_12_4544, zv_13_4544, zv_14_4544, zv_15_4544, zv_16_4544, zv_17_4544, zv_18_4544, zv_19_4544, zv_20_4544, zv_21_4544, zv_22_4544, zv_23_4544, zv_24_4544, zv_25_4544, zv_26_4544, zv_27_4544, zv_28_4544, zv_29_4544, zv_0_11, zv_1_11, zv_0_160, true_and, and_true, Nat.reduceAdd]
          refine zm_R_eq (c_bitsB hE (d + 1) _ hn k M) ?_
          simp only [bX12_parts_28, zw_0, zw_1, zs_iloadn3, zs_aloadn0, zs_aloadNn0, zg_12_7, zs_iconst, zs_iaload, zs_icge, zs_bipush, zs_iadd, zs_iloadn1, zs_icne, zi_12_398, zi_12_449, zs_iloadn2, zs_icle, zs_istoren2, zc_none, zc_int, zc_ref, zc_null, zc_long, zh_0, zh_1, zh_2, zh_3, zh_4, zt_i, zt_l, zt_r, zt_n, zb_0, za_1, za_2, za_3, za_4, za_5, za_6, za_7, za_8, za_9, za_10, za_11, za_12, za_13, za_14, zu_0, zu_1, zu_2, zu_3, zu_4, zu_5, zu_6, zu_7, zu_8, zu_9, zu_10, zu_11, zu_12, zu_13, zu_14, zu_15, zu_16, zu_17, zu_18, zu_19, zu_20, zu_21, zu_22, zu_23, zu_24, zu_25, zu_26, zu_27, zu_28, zu_29, zu_30, zu_90, zv_0_9, zv_1_9, zv_2_9, zv_3_9, zv_4_9, zv_5_9, zv_6_9, zv_7_9, zv_8_9, zv_0_330, zv_0_4544, zv_1_4544, zv_2_4544, zv_3_4544, zv_4_4544, zv_5_4544, zv_6_4544, zv_7_4544, zv_8_4544, zv_9_4544, zv_10_4544, zv_11_4544, zv_12_4544, zv_13_4544, zv_14_4544, zv_15_4544, zv_16_4544, zv_17_4544, zv_18_4544, zv_19_4544, zv_20_4544, zv_21_4544, zv_22_4544, zv_23_4544, zv_24_4544, zv_25_4544, zv_26_4544, zv_27_4544, zv_28_4544, zv_29_4544, zv_0_11, zv_1_11, zv_0_160, true_and, and_true, Nat.reduceAdd]
          refine next _ ?_
          simp only [zt_pt]
          rw [if_pos ⟨h, (nI_ltI (by omega) (by omega)).mp (Int32.not_le.mp h2)⟩]
  refine h10 _ _ _ ?_
  simp only [bX12_parts_10, zw_0, zw_1, zs_aloadn0, zs_aloadNn0, zg_12_7, zs_iconst, zs_iaload, zs_iloadn1, zi_12_398, zi_12_449, zs_isub, zs_istoren2, zs_istoren3, zc_none, zc_int, zc_ref, zc_null, zc_long, zh_0, zh_1, zh_2, zh_3, zh_4, zt_i, zt_l, zt_r, zt_n, zb_0, za_1, za_2, za_3, za_4, za_5, za_6, za_7, za_8, za_9, za_10, za_11, za_12, za_13, za_14, zu_0, zu_1, zu_2, zu_3, zu_4, zu_5, zu_6, zu_7, zu_8, zu_9, zu_10, zu_11, zu_12, zu_13, zu_14, zu_15, zu_16, zu_17, zu_18, zu_19, zu_20, zu_21, zu_22, zu_23, zu_24, zu_25, zu_26, zu_27, zu_28, zu_29, zu_30, zu_90, zv_0_9, zv_1_9, zv_2_9, zv_3_9, zv_4_9, zv_5_9, zv_6_9, zv_7_9, zv_8_9, zv_0_330, zv_0_4544, zv_1_4544, zv_2_4544, zv_3_4544, zv_4_4544, zv_5_4544, zv_6_4544, zv_7_4544, zv_8_4544, zv_9_4544, zv_10_4544, zv_11_4544, zv_12_4544, zv_13_4544, zv_14_4544, zv_15_4544, zv_16_4544, zv_17_4544, zv_18_4544, zv_19_4544, zv_20_4544, zv_21_4544, zv_22_4544, zv_23_4544, zv_24_4544, zv_25_4544, zv_26_4544, zv_27_4544, zv_28_4544, zv_29_4544, zv_0_11, zv_1_11, zv_0_160, true_and, and_true, Nat.reduceAdd, hc]
  refine zm_R_eq (c_belowOf hE d hw hc hp) ?_
  simp only [bX12_parts_10, zw_0, zw_1, zs_aloadn0, zs_aloadNn0, zg_12_7, zs_iconst, zs_iaload, zs_iloadn1, zi_12_398, zi_12_449, zs_isub, zs_istoren2, zs_istoren3, zc_none, zc_int, zc_ref, zc_null, zc_long, zh_0, zh_1, zh_2, zh_3, zh_4, zt_i, zt_l, zt_r, zt_n, zb_0, za_1, za_2, za_3, za_4, za_5, za_6, za_7, za_8, za_9, za_10, za_11, za_12, za_13, za_14, zu_0, zu_1, zu_2, zu_3, zu_4, zu_5, zu_6, zu_7, zu_8, zu_9, zu_10, zu_11, zu_12, zu_13, zu_14, zu_15, zu_16, zu_17, zu_18, zu_19, zu_20, zu_21, zu_22, zu_23, zu_24, zu_25, zu_26, zu_27, zu_28, zu_29, zu_30, zu_90, zv_0_9, zv_1_9, zv_2_9, zv_3_9, zv_4_9, zv_5_9, zv_6_9, zv_7_9, zv_8_9, zv_0_330, zv_0_4544, zv_1_4544, zv_2_4544, zv_3_4544, zv_4_4544, zv_5_4544, zv_6_4544, zv_7_4544, zv_8_4544, zv_9_4544, zv_10_4544, zv_11_4544, zv_12_4544, zv_13_4544, zv_14_4544, zv_15_4544, zv_16_4544, zv_17_4544, zv_18_4544, zv_19_4544, zv_20_4544, zv_21_4544, zv_22_4544, zv_23_4544, zv_24_4544, zv_25_4544, zv_26_4544, zv_27_4544, zv_28_4544, zv_29_4544, zv_0_11, zv_1_11, zv_0_160, true_and, and_true, Nat.reduceAdd]
  refine zm_R_eq (c_bitsB hE (d + 1) _ hn p M) ?_
  simp only [bX12_parts_10, zw_0, zw_1, zs_aloadn0, zs_aloadNn0, zg_12_7, zs_iconst, zs_iaload, zs_iloadn1, zi_12_398, zi_12_449, zs_isub, zs_istoren2, zs_istoren3, zc_none, zc_int, zc_ref, zc_null, zc_long, zh_0, zh_1, zh_2, zh_3, zh_4, zt_i, zt_l, zt_r, zt_n, zb_0, za_1, za_2, za_3, za_4, za_5, za_6, za_7, za_8, za_9, za_10, za_11, za_12, za_13, za_14, zu_0, zu_1, zu_2, zu_3, zu_4, zu_5, zu_6, zu_7, zu_8, zu_9, zu_10, zu_11, zu_12, zu_13, zu_14, zu_15, zu_16, zu_17, zu_18, zu_19, zu_20, zu_21, zu_22, zu_23, zu_24, zu_25, zu_26, zu_27, zu_28, zu_29, zu_30, zu_90, zv_0_9, zv_1_9, zv_2_9, zv_3_9, zv_4_9, zv_5_9, zv_6_9, zv_7_9, zv_8_9, zv_0_330, zv_0_4544, zv_1_4544, zv_2_4544, zv_3_4544, zv_4_4544, zv_5_4544, zv_6_4544, zv_7_4544, zv_8_4544, zv_9_4544, zv_10_4544, zv_11_4544, zv_12_4544, zv_13_4544, zv_14_4544, zv_15_4544, zv_16_4544, zv_17_4544, zv_18_4544, zv_19_4544, zv_20_4544, zv_21_4544, zv_22_4544, zv_23_4544, zv_24_4544, zv_25_4544, zv_26_4544, zv_27_4544, zv_28_4544, zv_29_4544, zv_0_11, zv_1_11, zv_0_160, true_and, and_true, Nat.reduceAdd]
  rw [pk_sub (zt_cn_bd hw hp).2]
  have := loop (n - 1) 1 (by omega) (by omega)
  rw [zt_pt_low hw hp 1 (by omega)] at this
  exact this
