/-! ===== days that pass, of both ===== -/
def ze_days (n : Nat) (b pr : Nat → Int32) (T : Nat → Option zD) : Nat → zW → Nat → (Nat → zW) → zW × Nat × (Nat → zW) × Nat
  | 0, S, s, H => (S, s, H, 0)
  | f + 1, S, s, H => if zWd S = 9999 then (S, s, H, 0) else ((ze_days n b pr T f (ze_ps true n b pr T S) (zk_n s) (zk_ps s H S)).1, (ze_days n b pr T f (ze_ps true n b pr T S) (zk_n s) (zk_ps s H S)).2.1, (ze_days n b pr T f (ze_ps true n b pr T S) (zk_n s) (zk_ps s H S)).2.2.1, ze_pn true n b pr T S + (ze_days n b pr T f (ze_ps true n b pr T S) (zk_n s) (zk_ps s H S)).2.2.2)
def zAl (n : Nat) (b : Nat → Int32) (T : Nat → Option zD) (S : zW) (s : Nat) (H : Nat → zW) : Prop := zt_wf n b ∧ (∀ w, w ≤ 2 → zDo w (T w)) ∧ zw_i n b S ∧ ∀ i, i < s → zw_i n b (H i)
theorem zk_i {n s : Nat} {b : Nat → Int32} {H : Nat → zW} {S : zW} (hs : zw_i n b S) (hH : ∀ i, i < s → zw_i n b (H i)) : ∀ i, i < zk_n s → zw_i n b (zk_ps s H S i) := by
  intro i hi
  unfold zk_n at hi
  unfold zk_ps
  by_cases e : s = 30
  · rw [if_pos e] at hi ⊢
    show zw_i n b (if i = 29 then S else H (i + 1))
    split
    · exact hs
    · exact hH _ (by omega)
  · rw [if_neg e] at hi ⊢
    show zw_i n b (if i = s then S else H i)
    split
    · exact hs
    · exact hH _ (by omega)
theorem zw_d9 {n : Nat} {b : Nat → Int32} {S : zW} (h : zw_i n b S) : ∃ dd, dd ≤ 9999 ∧ zWd S = nI dd ∧ ((zWd S = 9999) ↔ dd = 9999) := by
  obtain ⟨dd, h1, h2⟩ := h.2.1
  refine ⟨dd, h1, h2, ?_⟩
  rw [h2]
  exact nI_eq (b := 9999) (by omega) (by decide)
theorem zAl_st {n s : Nat} {b pr : Nat → Int32} {T : Nat → Option zD} {S : zW} {H : Nat → zW} (h : zAl n b T S s H) (hd : ¬ zWd S = 9999) : zAl n b T (ze_ps true n b pr T S) (zk_n s) (zk_ps s H S) := by
  obtain ⟨h1, h2, h3, h4⟩ := h
  obtain ⟨dd, d1, d2, d3⟩ := zw_d9 h3
  have hne : ¬ dd = 9999 := fun z => hd (d3.mpr z)
  exact ⟨h1, h2, (ze_ps_i (wr := true) (pr := pr) (T := T) h1 h3 d2 (by omega)).1, zk_i h3 h4⟩
theorem ze_days_i {n : Nat} {b pr : Nat → Int32} {T : Nat → Option zD} : ∀ (f : Nat) (S : zW) (s : Nat) (H : Nat → zW), zAl n b T S s H → zAl n b T (ze_days n b pr T f S s H).1 (ze_days n b pr T f S s H).2.1 (ze_days n b pr T f S s H).2.2.1 := by
  intro f
  induction f with
  | zero => intro S s H h; exact h
  | succ f ih =>
    intro S s H h
    simp only [ze_days]
    split
    · exact h
    · next c => exact ih _ _ _ (zAl_st h c)
theorem zi_1of {p : Int32} {lo hi : Nat} (hb : hi < 2 ^ 30 ∧ lo ≤ hi) (h : ¬ zi_in p (nI lo) (nI hi) = 0) : ∃ f, lo ≤ f ∧ f ≤ hi ∧ p = nI f := by
  unfold zi_in at h
  by_cases c1 : p < nI lo
  · rw [if_pos c1] at h; exact absurd rfl h
  · rw [if_neg c1] at h
    by_cases c2 : nI hi < p
    · rw [if_pos c2] at h; exact absurd rfl h
    · have e1 := Int32.not_lt.mp c1
      have e2 := Int32.not_lt.mp c2
      rw [zx_i32le, nI_toInt (by omega)] at e1
      rw [zx_i32le, nI_toInt (by omega)] at e2
      exact ⟨p.toInt.toNat, by omega, by omega, zx_toInt rfl (by omega) (by omega)⟩
/-! the class -/
def zP_d (q : Nat) : Prop := zP_c q ∨ (748 ≤ q ∧ q ≤ 750)
def zcg (M M' : zm_M) : Prop := zu zP_d M M' ∧ zg 16 [3, 4] M M'
theorem zcg_refl {M : zm_M} : zcg M M := ⟨zu_refl, zg_refl⟩
theorem zcg_trans {M M' M'' : zm_M} (h : zcg M M') (h2 : zcg M' M'') : zcg M M'' := ⟨zu_trans h.1 h2.1, zg_trans h.2 h2.2⟩
theorem zcg_c {M M' : zm_M} (h : zcf M M') : zcg M M' := ⟨zu_mono h.1 (fun _ z => Or.inl z), h.2⟩
theorem zcg_F {M M' : zm_M} (h : zf (zF 23) M M') : zcg M M' := by
  refine ⟨zu_zf h (fun q hq => ?_), zg_of h (zF_no (by omega) (by omega))⟩
  rcases List.mem_append.mp hq with z | z
  · have := zw_L_mem z
    exact Or.inl (Or.inr (Or.inl (by omega)))
  · simp at z
    exact Or.inr (by omega)
theorem zcg_3 {M M' : zm_M} (h : zf [748, 749, 750] M M') : zcg M M' := zcg_F (zf_sub h (fun q hq => zF_m hq))
theorem zr_law_g {M M' : zm_M} (h : zg 16 [3, 4] M M') : zr_law M' = zr_law M := by
  unfold zr_law
  rw [h 6 (by decide), h 7 (by decide)]
def zCs (n tn : Nat) (b pr : Nat → Int32) (T : Nat → Option zD) (S : zW) (s : Nat) (H : Nat → zW) (M : zm_M) : Prop := zc_s9 n b pr M ∧ zN M ∧ M.1 16 6 = nI tn ∧ zc_T M (zr_law M) T ∧ zw_c M 23 S ∧ ∃ c, zk_c M 16 s c H
theorem zcs_9g {n : Nat} {b pr : Nat → Int32} {M M' : zm_M} (h : zc_s9 n b pr M) (hf : zcg M M') : zc_s9 n b pr M' := by
  have k : ∀ q, q = 17 ∨ q = 18 ∨ q = 19 ∨ q = 20 → M'.1 q = M.1 q := fun q hq => (hf.1 q (fun z => by
    rcases z with (z | z | z) | z <;> omega)).1
  obtain ⟨⟨a1, a2⟩, a3, a4, a5, a6⟩ := h
  exact ⟨⟨by rw [k 18 (by omega)]; exact a1, fun i hi => by rw [k 18 (by omega), k 20 (by omega)]; exact a2 i hi⟩, by rw [k 17 (by omega)]; exact a3, fun i hi => by rw [k 18 (by omega)]; exact a4 i hi, fun i hi => by rw [k 19 (by omega)]; exact a5 i hi, a6⟩
theorem zcs_Tg {M M' : zm_M} {lw : Value} {T : Nat → Option zD} (h : zc_T M lw T) (hf : zcg M M') : zc_T M' lw T := by
  rcases h with h | ⟨q, h1, h2, h3⟩
  · exact Or.inl h
  · refine Or.inr ⟨q, h1, h2, fun w hw => zl_law_c (h3 w hw) (fun j a b => (hf.1 _ (fun z => ?_)).1)⟩
    have := h2.1
    rcases z with (z | z | z) | z <;> omega
theorem zk_c_g {M M' : zm_M} {s c : Nat} {H : Nat → zW} (hH : ∀ i, i < s → zw_sz (H i)) (h : zk_c M 16 s c H) (e : ∀ q, q = 16 ∨ (77 ≤ q ∧ q < 377) → M'.1 q = M.1 q) : zk_c M' 16 s c H := by
  obtain ⟨k1, k2, k3, k4, k5⟩ := h
  have e16 := e 16 (Or.inl rfl)
  refine ⟨by rw [e16]; exact k1, k2, by rw [e16]; exact k3, k4, fun i hi => zw_cong (hH i hi) (k5 i hi) (fun q hq => e q (Or.inr ?_))⟩
  have a := zw_L_mem hq
  omega
/-- a day of the class, kept ahead -/
theorem zCs_pass {n tn s c : Nat} {b pr : Nat → Int32} {T : Nat → Option zD} {S : zW} {H : Nat → zW} {M M1 M2 : zm_M} (hA : zAl n b T S s H) (hC : zCs n tn b pr T S s H M) (hj : zj M M1) (hk : zk_c M1 16 (zk_n s) c (zk_ps s H S)) (hS : zw_c M2 23 (ze_ps true n b pr T S)) (hN : zN M2) (hf : zf (zF 23) M1 M2) : zCs n tn b pr T (ze_ps true n b pr T S) (zk_n s) (zk_ps s H S) M2 ∧ zcg M M2 := by
  have g : zcg M M2 := zcg_trans (zcg_c (zcf_j hj)) (zcg_F hf)
  obtain ⟨c1, c2, c3, c4, c5, c6⟩ := hC
  refine ⟨⟨zcs_9g c1 g, hN, by rw [g.2 6 (by decide)]; exact c3, ?_, hS, c, zk_c_g (fun i hi => (zk_i hA.2.2.1 hA.2.2.2 i hi).1) hk (fun q hq => (hf q (zF_no (by omega) (by omega))).1)⟩, g⟩
  rw [zr_law_g g.2]
  exact zcs_Tg c4 g
theorem c11_passDays {E : zm_E} (hE : zm_ok E.2.2.1 E.2.2.2.2) (d : Nat) {n tn s f : Nat} (hf60 : f ≤ 60) {b pr : Nat → Int32} {T : Nat → Option zD} {S : zW} {H : Nat → zW} {M : zm_M} (htn : tn ≤ 4) (hA : zAl n b T S s H) (hC : zCs n tn b pr T S s H M) {Q : Option Value → zm_M → Prop} (q : ∀ M', zCs n tn b pr T (ze_days n b pr T f S s H).1 (ze_days n b pr T f S s H).2.1 (ze_days n b pr T f S s H).2.2.1 M' → zcg M M' → Q (some (.int (nI (ze_days n b pr T f S s H).2.2.2))) M') : zm_R E (d + 6) mX11_passDays [.ref 15, .int (nI f)] M Q := by
  refine zX11_passDays hE rfl (fun G h0 h13 h60 => ?_)
  show G 0 [some (.ref 15), some (.int (nI f)), none, none, none] [] M
  have loop : ∀ (g i c : Nat) (S1 : zW) (s1 : Nat) (H1 : Nat → zW) (M1 : zm_M), i + g = f → zAl n b T S1 s1 H1 → zCs n tn b pr T S1 s1 H1 M1 → zcg M M1 → (ze_days n b pr T g S1 s1 H1).1 = (ze_days n b pr T f S s H).1 → (ze_days n b pr T g S1 s1 H1).2.1 = (ze_days n b pr T f S s H).2.1 → (ze_days n b pr T g S1 s1 H1).2.2.1 = (ze_days n b pr T f S s H).2.2.1 → c + (ze_days n b pr T g S1 s1 H1).2.2.2 = (ze_days n b pr T f S s H).2.2.2 → G 13 [some (.ref 15), some (.int (nI f)), some (.ref 23), some (.int (nI c)), some (.int (nI i))] [] M1 := by
    intro g
    induction g with
    | zero =>
      intro i c S1 s1 H1 M1 hi hA1 hC1 g1 e1 e2 e3 e4
      have fin : G 60 [some (.ref 15), some (.int (nI f)), some (.ref 23), some (.int (nI c)), some (.int (nI i))] [] M1 := by
        refine h60 _ _ _ ?_
        simp only [bX11_passDays_60, zw_0, zw_1, zs_iloadn3, zs_ireturn, zn_int, zn_b0, zn_b1, zb_15, zb_16, zb_17, za_18, za_19, za_20, za_21, za_22, zb_23, za_24, za_25, za_26, za_27, za_28, za_29, za_30, za_31, za_32, zb_35, za_36, za_37, za_38, za_39, za_40, zb_377, zb_378, za_379, za_380, za_381, za_382, za_383, zb_384, za_385, za_386, za_387, za_388, za_389, za_390, za_391, za_392, za_393, zb_396, za_397, za_398, za_399, za_400, za_401, zb_738, za_739, za_740, za_741, za_742, za_743, za_744, za_745, za_746, za_747, zb_748, za_749, za_750, zb_751, zb_752, za_753, za_754, za_755, za_756, zb_757, za_758, za_759, za_760, zb_761, za_763, za_764, za_765, true_and, and_true, Nat.reduceAdd]
        have := q M1 (by rw [← e1, ← e2, ← e3]; exact hC1) g1
        rw [← e4] at this
        exact this
      refine h13 _ _ _ ?_
      simp only [bX11_passDays_13, zw_0, zw_1, zs_iload4, zs_iloadn1, zs_icge, zs_aloadn2, zs_aloadNn2, zg_11_167, zs_sipush, zs_aloadn0, zs_aloadNn0, zg_11_10, zi_11_133, zs_iloadn3, zg_11_44, zi_11_174, zi_11_178, zs_iadd, zs_istoren3, zs_iinc4, zs_goto, zc_none, zc_int, zc_ref, zc_null, zc_long, zh_0, zh_1, zh_2, zh_3, zh_4, zt_i, zt_l, zt_r, zt_n, zb_15, zb_16, zb_17, za_18, za_19, za_20, za_21, za_22, zb_23, za_24, za_25, za_26, za_27, za_28, za_29, za_30, za_31, za_32, zb_35, za_36, za_37, za_38, za_39, za_40, zb_377, zb_378, za_379, za_380, za_381, za_382, za_383, zb_384, za_385, za_386, za_387, za_388, za_389, za_390, za_391, za_392, za_393, zb_396, za_397, za_398, za_399, za_400, za_401, zb_738, za_739, za_740, za_741, za_742, za_743, za_744, za_745, za_746, za_747, zb_748, za_749, za_750, zb_751, zb_752, za_753, za_754, za_755, za_756, zb_757, za_758, za_759, za_760, zb_761, za_763, za_764, za_765, true_and, and_true, Nat.reduceAdd]
      exact ⟨fun _ => fin, fun h => absurd (nI_le (by omega) (by omega)) h⟩
    | succ g ih =>
      intro i c S1 s1 H1 M1 hi hA1 hC1 g1 e1 e2 e3 e4
      obtain ⟨dd, d1, d2, d3⟩ := zw_d9 hA1.2.2.1
      have m0 : M1.1 23 0 = nI dd := by rw [← d2]; exact hC1.2.2.2.2.1.1
      have c9 : ((9999 : Int32) ≤ nI dd) = (9999 ≤ dd) := propext (nI_leI (a := 9999) (by decide) (by omega))
      simp only [ze_days] at e1 e2 e3 e4
      refine h13 _ _ _ ?_
      simp only [bX11_passDays_13, zw_0, zw_1, zs_iload4, zs_iloadn1, zs_icge, zs_aloadn2, zs_aloadNn2, zg_11_167, zs_sipush, zs_aloadn0, zs_aloadNn0, zg_11_10, zi_11_133, zs_iloadn3, zg_11_44, zi_11_174, zi_11_178, zs_iadd, zs_istoren3, zs_iinc4, zs_goto, zc_none, zc_int, zc_ref, zc_null, zc_long, zh_0, zh_1, zh_2, zh_3, zh_4, zt_i, zt_l, zt_r, zt_n, zb_15, zb_16, zb_17, za_18, za_19, za_20, za_21, za_22, zb_23, za_24, za_25, za_26, za_27, za_28, za_29, za_30, za_31, za_32, zb_35, za_36, za_37, za_38, za_39, za_40, zb_377, zb_378, za_379, za_380, za_381, za_382, za_383, zb_384, za_385, za_386, za_387, za_388, za_389, za_390, za_391, za_392, za_393, zb_396, za_397, za_398, za_399, za_400, za_401, zb_738, za_739, za_740, za_741, za_742, za_743, za_744, za_745, za_746, za_747, zb_748, za_749, za_750, zb_751, zb_752, za_753, za_754, za_755, za_756, zb_757, za_758, za_759, za_760, zb_761, za_763, za_764, za_765, true_and, and_true, Nat.reduceAdd, m0, c9]
      refine ⟨fun h => absurd h (nI_ge (by omega) (by omega)), fun _ => ⟨fun h9 => ?_, fun h9 => ?_⟩⟩
      · have c9 : zWd S1 = 9999 := d3.mpr (by omega)
        rw [if_pos c9] at e1 e2 e3 e4
        refine h60 _ _ _ ?_
        simp only [bX11_passDays_60, zw_0, zw_1, zs_iloadn3, zs_ireturn, zn_int, zn_b0, zn_b1, zb_15, zb_16, zb_17, za_18, za_19, za_20, za_21, za_22, zb_23, za_24, za_25, za_26, za_27, za_28, za_29, za_30, za_31, za_32, zb_35, za_36, za_37, za_38, za_39, za_40, zb_377, zb_378, za_379, za_380, za_381, za_382, za_383, zb_384, za_385, za_386, za_387, za_388, za_389, za_390, za_391, za_392, za_393, zb_396, za_397, za_398, za_399, za_400, za_401, zb_738, za_739, za_740, za_741, za_742, za_743, za_744, za_745, za_746, za_747, zb_748, za_749, za_750, zb_751, zb_752, za_753, za_754, za_755, za_756, zb_757, za_758, za_759, za_760, zb_761, za_763, za_764, za_765, true_and, and_true, Nat.reduceAdd]
        have := q M1 (by rw [← e1, ← e2, ← e3]; exact hC1) g1
        rw [← e4] at this
        exact this
      · have c9 : ¬ zWd S1 = 9999 := fun z => h9 (by have := d3.mp z; omega)
        rw [if_neg c9] at e1 e2 e3 e4
        obtain ⟨cc, hcc⟩ := hC1.2.2.2.2.2
        refine c6_keep hE (d + 3) hA1.2.2.1.1 (fun i hi => (hA1.2.2.2 i hi).1) hC1.2.2.2.2.1 hcc (fun M2 c' a1 a2 a3 => ?_)
        have g2 := zcg_c (zcf_j a3)
        have n2 : zN M2 := fun i hi => by
          rw [a3.1 749 (by decide) (by decide)]; exact hC1.2.1 i hi
        simp only [bX11_passDays_13, zw_0, zw_1, zs_iload4, zs_iloadn1, zs_icge, zs_aloadn2, zs_aloadNn2, zg_11_167, zs_sipush, zs_aloadn0, zs_aloadNn0, zg_11_10, zi_11_133, zs_iloadn3, zg_11_44, zi_11_174, zi_11_178, zs_iadd, zs_istoren3, zs_iinc4, zs_goto, zc_none, zc_int, zc_ref, zc_null, zc_long, zh_0, zh_1, zh_2, zh_3, zh_4, zt_i, zt_l, zt_r, zt_n, zb_15, zb_16, zb_17, za_18, za_19, za_20, za_21, za_22, zb_23, za_24, za_25, za_26, za_27, za_28, za_29, za_30, za_31, za_32, zb_35, za_36, za_37, za_38, za_39, za_40, zb_377, zb_378, za_379, za_380, za_381, za_382, za_383, zb_384, za_385, za_386, za_387, za_388, za_389, za_390, za_391, za_392, za_393, zb_396, za_397, za_398, za_399, za_400, za_401, zb_738, za_739, za_740, za_741, za_742, za_743, za_744, za_745, za_746, za_747, zb_748, za_749, za_750, zb_751, zb_752, za_753, za_754, za_755, za_756, zb_757, za_758, za_759, za_760, zb_761, za_763, za_764, za_765, true_and, and_true, Nat.reduceAdd]
        refine zm_R_eq (c6_law hE (d + 3) htn (by rw [g2.2 6 (by decide)]; exact hC1.2.2.1)) ?_
        rw [zr_law_g g2.2]
        simp only [bX11_passDays_13, zw_0, zw_1, zs_iload4, zs_iloadn1, zs_icge, zs_aloadn2, zs_aloadNn2, zg_11_167, zs_sipush, zs_aloadn0, zs_aloadNn0, zg_11_10, zi_11_133, zs_iloadn3, zg_11_44, zi_11_174, zi_11_178, zs_iadd, zs_istoren3, zs_iinc4, zs_goto, zc_none, zc_int, zc_ref, zc_null, zc_long, zh_0, zh_1, zh_2, zh_3, zh_4, zt_i, zt_l, zt_r, zt_n, zb_15, zb_16, zb_17, za_18, za_19, za_20, za_21, za_22, zb_23, za_24, za_25, za_26, za_27, za_28, za_29, za_30, za_31, za_32, zb_35, za_36, za_37, za_38, za_39, za_40, zb_377, zb_378, za_379, za_380, za_381, za_382, za_383, zb_384, za_385, za_386, za_387, za_388, za_389, za_390, za_391, za_392, za_393, zb_396, za_397, za_398, za_399, za_400, za_401, zb_738, za_739, za_740, za_741, za_742, za_743, za_744, za_745, za_746, za_747, zb_748, za_749, za_750, zb_751, zb_752, za_753, za_754, za_755, za_756, zb_757, za_758, za_759, za_760, zb_761, za_763, za_764, za_765, true_and, and_true, Nat.reduceAdd, zt_val]
        refine c0_pass hE d (Or.inl rfl) (zcs_9g hC1.1 g2) n2 (zcs_Tg hC1.2.2.2.1 g2) hA1.2.1 hA1.2.2.1 a1 (fun M3 b1 b2 b3 => ?_)
        obtain ⟨x1, x2⟩ := zCs_pass hA1 hC1 a3 a2 b1 b2 b3
        simp only [bX11_passDays_13, zw_0, zw_1, zs_iload4, zs_iloadn1, zs_icge, zs_aloadn2, zs_aloadNn2, zg_11_167, zs_sipush, zs_aloadn0, zs_aloadNn0, zg_11_10, zi_11_133, zs_iloadn3, zg_11_44, zi_11_174, zi_11_178, zs_iadd, zs_istoren3, zs_iinc4, zs_goto, zc_none, zc_int, zc_ref, zc_null, zc_long, zh_0, zh_1, zh_2, zh_3, zh_4, zt_i, zt_l, zt_r, zt_n, zb_15, zb_16, zb_17, za_18, za_19, za_20, za_21, za_22, zb_23, za_24, za_25, za_26, za_27, za_28, za_29, za_30, za_31, za_32, zb_35, za_36, za_37, za_38, za_39, za_40, zb_377, zb_378, za_379, za_380, za_381, za_382, za_383, zb_384, za_385, za_386, za_387, za_388, za_389, za_390, za_391, za_392, za_393, zb_396, za_397, za_398, za_399, za_400, za_401, zb_738, za_739, za_740, za_741, za_742, za_743, za_744, za_745, za_746, za_747, zb_748, za_749, za_750, zb_751, zb_752, za_753, za_754, za_755, za_756, zb_757, za_758, za_759, za_760, zb_761, za_763, za_764, za_765, true_and, and_true, Nat.reduceAdd, nI_add, nI_1]
        exact ih (i + 1) _ _ _ _ M3 (by omega) (zAl_st hA1 c9) x1 (zcg_trans g1 x2) e1 e2 e3 (by rw [Nat.add_assoc]; exact e4)
  refine h0 _ _ _ ?_
  simp only [bX11_passDays_0, zw_0, zw_1, zs_aloadn0, zs_aloadNn0, zg_11_10, zg_11_136, zs_astoren2, zs_astoreNn2, zs_iconst, zs_istoren3, zs_istore4, zc_none, zc_int, zc_ref, zc_null, zc_long, zb_15, zb_16, zb_17, za_18, za_19, za_20, za_21, za_22, zb_23, za_24, za_25, za_26, za_27, za_28, za_29, za_30, za_31, za_32, zb_35, za_36, za_37, za_38, za_39, za_40, zb_377, zb_378, za_379, za_380, za_381, za_382, za_383, zb_384, za_385, za_386, za_387, za_388, za_389, za_390, za_391, za_392, za_393, zb_396, za_397, za_398, za_399, za_400, za_401, zb_738, za_739, za_740, za_741, za_742, za_743, za_744, za_745, za_746, za_747, zb_748, za_749, za_750, zb_751, zb_752, za_753, za_754, za_755, za_756, zb_757, za_758, za_759, za_760, zb_761, za_763, za_764, za_765, true_and, and_true, Nat.reduceAdd]
  exact loop f 0 0 S s H M (by omega) hA hC zcg_refl rfl rfl rfl (by omega)
theorem c11_day {E : zm_E} (hE : zm_ok E.2.2.1 E.2.2.2.2) (d : Nat) {n tn s dd : Nat} (v : Int32) {b pr : Nat → Int32} {T : Nat → Option zD} {S : zW} {H : Nat → zW} {M : zm_M} (htn : tn ≤ 4) (hA : zAl n b T S s H) (hdd : dd ≤ 9999) (hd : zWd S = nI dd) (hC : zCs n tn b pr T S s H M) {Q : Option Value → zm_M → Prop} (q1 : (zi_in v 1 60 = 0 ∨ ∃ f, f ≤ 60 ∧ v = nI f ∧ 9999 < dd + f) → Q (some (.int (-1))) M) (q2 : ∀ f M', 1 ≤ f → f ≤ 60 → v = nI f → dd + f ≤ 9999 → zCs n tn b pr T (ze_days n b pr T f S s H).1 (ze_days n b pr T f S s H).2.1 (ze_days n b pr T f S s H).2.2.1 M' → zcg M M' → Q (some (.int (nI (ze_days n b pr T f S s H).2.2.2))) M') : zm_R E (d + 7) mX11_day [.ref 15, .int v] M Q := by
  refine zX11_day hE rfl (fun G h0 h28 h30 => ?_)
  show G 0 [some (.ref 15), some (.int v)] [] M
  have bad : (zi_in v 1 60 = 0 ∨ ∃ f, f ≤ 60 ∧ v = nI f ∧ 9999 < dd + f) → G 28 [some (.ref 15), some (.int v)] [] M := by
    intro h
    refine h28 _ _ _ ?_
    simp only [bX11_day_28, zw_0, zw_1, zs_iconst, zs_ireturn, zn_int, zn_b0, zn_b1, zb_15, zb_16, zb_17, za_18, za_19, za_20, za_21, za_22, zb_23, za_24, za_25, za_26, za_27, za_28, za_29, za_30, za_31, za_32, zb_35, za_36, za_37, za_38, za_39, za_40, zb_377, zb_378, za_379, za_380, za_381, za_382, za_383, zb_384, za_385, za_386, za_387, za_388, za_389, za_390, za_391, za_392, za_393, zb_396, za_397, za_398, za_399, za_400, za_401, zb_738, za_739, za_740, za_741, za_742, za_743, za_744, za_745, za_746, za_747, zb_748, za_749, za_750, zb_751, zb_752, za_753, za_754, za_755, za_756, zb_757, za_758, za_759, za_760, zb_761, za_763, za_764, za_765, true_and, and_true, Nat.reduceAdd]
    exact q1 h
  have m0 : M.1 23 0 = nI dd := by rw [← hd]; exact hC.2.2.2.2.1.1
  refine h0 _ _ _ ?_
  simp only [bX11_day_0, zw_0, zw_1, zs_iloadn1, zs_iconst, zs_bipush, zi_11_86, zs_ifeq, zs_aloadn0, zs_aloadNn0, zg_11_10, zg_11_136, zg_11_167, zs_iadd, zs_sipush, zs_icle, zh_0, zh_1, zh_2, zh_3, zh_4, zt_i, zt_l, zt_r, zt_n, zb_15, zb_16, zb_17, za_18, za_19, za_20, za_21, za_22, zb_23, za_24, za_25, za_26, za_27, za_28, za_29, za_30, za_31, za_32, zb_35, za_36, za_37, za_38, za_39, za_40, zb_377, zb_378, za_379, za_380, za_381, za_382, za_383, zb_384, za_385, za_386, za_387, za_388, za_389, za_390, za_391, za_392, za_393, zb_396, za_397, za_398, za_399, za_400, za_401, zb_738, za_739, za_740, za_741, za_742, za_743, za_744, za_745, za_746, za_747, zb_748, za_749, za_750, zb_751, zb_752, za_753, za_754, za_755, za_756, zb_757, za_758, za_759, za_760, zb_761, za_763, za_764, za_765, true_and, and_true, Nat.reduceAdd]
  refine zm_R_eq (c11_within hE (d + 5) v 1 60 M) ?_
  simp only [bX11_day_0, zw_0, zw_1, zs_iloadn1, zs_iconst, zs_bipush, zi_11_86, zs_ifeq, zs_aloadn0, zs_aloadNn0, zg_11_10, zg_11_136, zg_11_167, zs_iadd, zs_sipush, zs_icle, zh_0, zh_1, zh_2, zh_3, zh_4, zt_i, zt_l, zt_r, zt_n, zb_15, zb_16, zb_17, za_18, za_19, za_20, za_21, za_22, zb_23, za_24, za_25, za_26, za_27, za_28, za_29, za_30, za_31, za_32, zb_35, za_36, za_37, za_38, za_39, za_40, zb_377, zb_378, za_379, za_380, za_381, za_382, za_383, zb_384, za_385, za_386, za_387, za_388, za_389, za_390, za_391, za_392, za_393, zb_396, za_397, za_398, za_399, za_400, za_401, zb_738, za_739, za_740, za_741, za_742, za_743, za_744, za_745, za_746, za_747, zb_748, za_749, za_750, zb_751, zb_752, za_753, za_754, za_755, za_756, zb_757, za_758, za_759, za_760, zb_761, za_763, za_764, za_765, true_and, and_true, Nat.reduceAdd, m0]
  refine ⟨fun h => bad (Or.inl h), fun h => ?_⟩
  obtain ⟨f, hf1, hf2, rfl⟩ : ∃ f, 1 ≤ f ∧ f ≤ 60 ∧ v = nI f := zi_1of (by decide) h
  have c9 : (nI dd + nI f ≤ 9999) = (dd + f ≤ 9999) := by rw [nI_add]; exact propext (nI_leI (b := 9999) (by omega) (by decide))
  rw [c9]
  refine ⟨fun h9 => ?_, fun h9 => bad (Or.inr ⟨f, hf2, rfl, by omega⟩)⟩
  refine h30 _ _ _ ?_
  simp only [bX11_day_30, zw_0, zw_1, zs_aloadn0, zs_aloadNn0, zs_iloadn1, zi_11_170, zs_ireturn, zh_0, zh_1, zh_2, zh_3, zh_4, zt_i, zt_l, zt_r, zt_n, zn_int, zn_b0, zn_b1, zb_15, zb_16, zb_17, za_18, za_19, za_20, za_21, za_22, zb_23, za_24, za_25, za_26, za_27, za_28, za_29, za_30, za_31, za_32, zb_35, za_36, za_37, za_38, za_39, za_40, zb_377, zb_378, za_379, za_380, za_381, za_382, za_383, zb_384, za_385, za_386, za_387, za_388, za_389, za_390, za_391, za_392, za_393, zb_396, za_397, za_398, za_399, za_400, za_401, zb_738, za_739, za_740, za_741, za_742, za_743, za_744, za_745, za_746, za_747, zb_748, za_749, za_750, zb_751, zb_752, za_753, za_754, za_755, za_756, zb_757, za_758, za_759, za_760, zb_761, za_763, za_764, za_765, true_and, and_true, Nat.reduceAdd]
  refine c11_passDays hE d hf2 htn hA hC (fun M1 a1 a2 => ?_)
  simp only [bX11_day_30, zw_0, zw_1, zs_aloadn0, zs_aloadNn0, zs_iloadn1, zi_11_170, zs_ireturn, zh_0, zh_1, zh_2, zh_3, zh_4, zt_i, zt_l, zt_r, zt_n, zn_int, zn_b0, zn_b1, zb_15, zb_16, zb_17, za_18, za_19, za_20, za_21, za_22, zb_23, za_24, za_25, za_26, za_27, za_28, za_29, za_30, za_31, za_32, zb_35, za_36, za_37, za_38, za_39, za_40, zb_377, zb_378, za_379, za_380, za_381, za_382, za_383, zb_384, za_385, za_386, za_387, za_388, za_389, za_390, za_391, za_392, za_393, zb_396, za_397, za_398, za_399, za_400, za_401, zb_738, za_739, za_740, za_741, za_742, za_743, za_744, za_745, za_746, za_747, zb_748, za_749, za_750, zb_751, zb_752, za_753, za_754, za_755, za_756, zb_757, za_758, za_759, za_760, zb_761, za_763, za_764, za_765, true_and, and_true, Nat.reduceAdd]
  exact q2 f M1 hf1 hf2 rfl h9 a1 a2
