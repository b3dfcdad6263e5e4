/-! ===== the route: the reference answers ===== -/
theorem zr_all_9 {n : Nat} {b pr cs : Nat → Int32} {D : Option zD} {dy : Int32} {fr to : Nat} (hw : zt_wf n b) (hfr : fr < n) (hto : to < n) (hab : zt_ab b to fr = true) : (zr_all n b pr cs D dy fr to 10000).1 < 10000 := by
  have hn := hw.1
  have hg : ∀ p e s, s ≤ 9999 → zr_gr n b pr D dy fr to p e s ≤ 9999 := fun p e s h => zr_gr_in h
  have h2 := zr_dfs_fin (b := b) (cs := cs) hn hto hg 9 fr 10 [] (10000, []) hfr (zr_reach hw hto fr hfr (Or.inr hab)) (by decide) (zr_rk_9 hfr hn)
  show (zr_dfs _ _ _ _ _ _ _ _ _).1 < 10000
  omega
/-- the answer of a route, outside of what is asked -/
theorem zr_an_lo {n fr to : Nat} {b pr cs : Nat → Int32} {D : Option zD} {dy i : Int32} (hn : n ≤ 10) (hi : i < -3) : zr_an n b pr cs D dy fr to i = -4 := by
  unfold zr_an
  have h1 : ¬ i = -3 := by rintro rfl; exact absurd hi (by decide)
  have h2 : ¬ i = -2 := by rintro rfl; exact absurd hi (by decide)
  have h3 : ¬ i = -1 := by rintro rfl; exact absurd hi (by decide)
  have h4 : zo_is (zr_all n b pr cs D dy fr to 10000).2.length i = false := by
    cases h : zo_is (zr_all n b pr cs D dy fr to 10000).2.length i with
    | false => rfl
    | true =>
      unfold zo_is at h
      have := (of_decide_eq_true h)
      rw [Int32.lt_iff_toInt_lt] at hi
      have e : (-3 : Int32).toInt = -3 := rfl
      omega
  rw [if_neg h1, if_neg h2, if_neg h3, h4]; rfl
theorem zr_nn {i : Int32} (h : 0 ≤ i) : ∃ j, j < 2 ^ 31 ∧ i = nI j := by
  refine ⟨i.toInt.toNat, ?_, ?_⟩
  · have := Int32.toInt_lt i
    omega
  · rw [Int32.le_iff_toInt_le] at h
    have e : (0 : Int32).toInt = 0 := rfl
    have l := Int32.toInt_lt i
    refine Int32.toInt_inj.mp ?_
    rw [nI_toInt (by omega)]
    omega
theorem zr_m3 {i : Int32} (h : -3 ≤ i) (h0 : ¬ 0 ≤ i) (h2 : ¬ i = -2) (h1 : ¬ i = -1) : i = -3 := by
  rw [Int32.le_iff_toInt_le] at h h0
  have e0 : (0 : Int32).toInt = 0 := rfl
  have e3 : (-3 : Int32).toInt = -3 := rfl
  have n2 : ¬ i.toInt = -2 := fun z => h2 (Int32.toInt_inj.mp z)
  have n1 : ¬ i.toInt = -1 := fun z => h1 (Int32.toInt_inj.mp z)
  exact Int32.toInt_inj.mp (by rw [e3]; omega)
theorem c_route {E : zm_E} (hE : zm_ok E.2.2.1 E.2.2.2.2) (d : Nat) {n dd : Nat} (v w i : Int32) {b pr cs : Nat → Int32} {D : Option zD} {M : zm_M} (hF : zM_f n b pr cs M) (hT : zm_T M (M.1 1 2) 0 D) (hD : zDo 0 D) (hdd : dd ≤ 9999) (hd : M.1 1 6 = nI dd) {Q : Option Value → zm_M → Prop} (q1 : (zo_is n v = false ∨ zo_is n w = false ∨ ∃ f t, f < n ∧ t < n ∧ v = nI f ∧ w = nI t ∧ zt_ab b t f = false) → Q (some (.int (-4))) M) (q2 : ∀ f t M', f < n → t < n → v = nI f → w = nI t → zt_ab b t f = true → zf [0, 6, 7, 8, 10, 11, 12, 13] M M' → zg 0 [31, 32] M M' → Q (some (.int (zr_an n b pr cs D (nI dd) f t i))) M') : zm_R E (d + 8) mX12_route [.ref 0, .int v, .int w, .int i] M Q := by
  refine zX12_route hE rfl (fun G h0 h31 h34 h59 h71 h75 h76 h95 h97 => ?_)
  show G 0 [some (.ref 0), some (.int v), some (.int w), some (.int i)] [] M
  have h9 := hF.1
  have hw : zt_wf n b := zt_wf_c h9.1 h9.2.2.1
  have hn := hw.1
  have bad : Q (some (.int (-4))) M → G 31 [some (.ref 0), some (.int v), some (.int w), some (.int i)] [] M := by
    intro h
    refine h31 _ _ _ ?_
    simp only [bX12_route_31, zw_0, zw_1, zs_bipush, zs_ireturn, zn_int, zn_b0, zn_b1, zb_0, za_1, za_2, za_3, za_4, za_5, za_6, za_7, za_8, za_9, za_10, za_11, za_12, za_13, za_14, true_and, and_true, Nat.reduceAdd]
    exact h
  refine h0 _ _ _ ?_
  simp only [bX12_route_0, zw_0, zw_1, zs_aloadn0, zs_aloadNn0, zs_iloadn1, zi_12_73, zs_ifeq, zs_iloadn2, zi_12_350, zs_iloadn3, zs_bipush, zs_icge, zh_0, zh_1, zh_2, zh_3, zh_4, zt_i, zt_l, zt_r, zt_n, zb_0, za_1, za_2, za_3, za_4, za_5, za_6, za_7, za_8, za_9, za_10, za_11, za_12, za_13, za_14, true_and, and_true, Nat.reduceAdd]
  refine zm_R_eq (c_isOfficer hE (d + 5) v M) ?_
  rw [h9.2.1, zo_in (by omega)]
  simp only [bX12_route_0, zw_0, zw_1, zs_aloadn0, zs_aloadNn0, zs_iloadn1, zi_12_73, zs_ifeq, zs_iloadn2, zi_12_350, zs_iloadn3, zs_bipush, zs_icge, zh_0, zh_1, zh_2, zh_3, zh_4, zt_i, zt_l, zt_r, zt_n, zb_0, za_1, za_2, za_3, za_4, za_5, za_6, za_7, za_8, za_9, za_10, za_11, za_12, za_13, za_14, true_and, and_true, Nat.reduceAdd, zi_b0]
  refine ⟨fun h => bad (q1 (Or.inl h)), fun hv => ?_⟩
  refine zm_R_eq (c_isOfficer hE (d + 5) w M) ?_
  rw [h9.2.1, zo_in (by omega)]
  simp only [bX12_route_0, zw_0, zw_1, zs_aloadn0, zs_aloadNn0, zs_iloadn1, zi_12_73, zs_ifeq, zs_iloadn2, zi_12_350, zs_iloadn3, zs_bipush, zs_icge, zh_0, zh_1, zh_2, zh_3, zh_4, zt_i, zt_l, zt_r, zt_n, zb_0, za_1, za_2, za_3, za_4, za_5, za_6, za_7, za_8, za_9, za_10, za_11, za_12, za_13, za_14, true_and, and_true, Nat.reduceAdd, zi_b0]
  refine ⟨fun h => bad (q1 (Or.inr (Or.inl h))), fun hw' => ?_⟩
  have hv : zo_is n v = true := by simpa using hv
  have hw' : zo_is n w = true := by simpa using hw'
  obtain ⟨f, hf, rfl⟩ := zo_of hv (by omega)
  obtain ⟨t, ht, rfl⟩ := zo_of hw' (by omega)
  refine zm_R_eq (c_isAbove hE (d + 6) h9.1 ht hf) ?_
  rw [zt_ab_c h9.1 h9.2.2.1 ht f hf]
  simp only [bX12_route_0, zw_0, zw_1, zs_aloadn0, zs_aloadNn0, zs_iloadn1, zi_12_73, zs_ifeq, zs_iloadn2, zi_12_350, zs_iloadn3, zs_bipush, zs_icge, zh_0, zh_1, zh_2, zh_3, zh_4, zt_i, zt_l, zt_r, zt_n, zb_0, za_1, za_2, za_3, za_4, za_5, za_6, za_7, za_8, za_9, za_10, za_11, za_12, za_13, za_14, true_and, and_true, Nat.reduceAdd, zi_b0]
  refine ⟨fun hab => bad (q1 (Or.inr (Or.inr ⟨f, t, hf, ht, rfl, rfl, hab⟩))), fun hab => ?_⟩
  have hab : zt_ab b t f = true := by simpa using hab
  have q2 := fun M' => q2 f t M' hf ht rfl rfl hab
  refine ⟨fun hge => ?_, fun hlt => ?_⟩
  · refine h34 _ _ _ ?_
    simp only [bX12_route_34, zw_0, zw_1, zs_aloadn0, zs_aloadNn0, zs_iloadn1, zs_iloadn2, zi_12_440, zs_iloadn3, zs_ifge, zs_bipush, zs_icne, zg_12_50, zs_iaload, zs_goto, zh_0, zh_1, zh_2, zh_3, zh_4, zt_i, zt_l, zt_r, zt_n, zb_0, za_1, za_2, za_3, za_4, za_5, za_6, za_7, za_8, za_9, za_10, za_11, za_12, za_13, za_14, zu_0, zu_1, zu_2, zu_3, zu_4, zu_5, zu_6, zu_7, zu_8, zu_9, zu_10, zu_11, zu_12, zu_13, zu_14, zu_15, zu_16, zu_17, zu_18, zu_19, zu_20, zu_21, zu_22, zu_23, zu_24, zu_25, zu_26, zu_27, zu_28, zu_29, zu_30, zu_90, zv_0_9, zv_1_9, zv_2_9, zv_3_9, zv_4_9, zv_5_9, zv_6_9, zv_7_9, zv_8_9, zv_0_330, zv_0_4544, zv_1_4544, zv_2_4544, zv_3_4544, zv_4_4544, zv_5_4544, zv_6_4544, zv_7_4544, zv_8_4544, zv_9_4544, zv_10_4544, zv_11_4544, zv_12_4544, zv_13_4544, zv_14_4544, zv_15_4544, zv_16_4544, zv_17_4544, zv_18_4544, zv_19_4544, zv_20_4544, zv_21_4544, zv_22_4544, zv_23_4544, zv_24_4544, zv_25_4544, zv_26_4544, zv_27_4544, zv_28_4544, zv_29_4544, zv_0_11, zv_1_11, zv_0_160, true_and, and_true, Nat.reduceAdd]
    refine c_layRoute hE d hF hT hD hf ht hdd hd hab (fun M1 d1 b1 f1 g1 => ?_)
    have q2 := q2 M1 f1 g1
    rw [zr_all_eq hw hf ht hab] at b1
    have a9 := zr_all_9 (pr := pr) (cs := cs) (D := D) (dy := nI dd) hw hf ht hab
    have rch := zr_reach (cs := cs) hw ht f hf (Or.inr hab)
    unfold zr_an at q2
    obtain ⟨x1, x2, x3, x4⟩ := b1
    obtain ⟨x4, x5⟩ := x4.resolve_left (by omega)
    have v1 : vp_in (nI f) 10 := vp_in_nI (by omega) (by decide)
    have v2 : (nI f).toNatClampNeg = f := nI_clamp (by omega)
    have m10 : M1.1 10 f = nI (zr_ds n b cs t f) := by
      rw [d1 f hf]; unfold zr_D; rw [if_neg (by omega)]
    simp only [bX12_route_34, zw_0, zw_1, zs_aloadn0, zs_aloadNn0, zs_iloadn1, zs_iloadn2, zi_12_440, zs_iloadn3, zs_ifge, zs_bipush, zs_icne, zg_12_50, zs_iaload, zs_goto, zh_0, zh_1, zh_2, zh_3, zh_4, zt_i, zt_l, zt_r, zt_n, zb_0, za_1, za_2, za_3, za_4, za_5, za_6, za_7, za_8, za_9, za_10, za_11, za_12, za_13, za_14, zu_0, zu_1, zu_2, zu_3, zu_4, zu_5, zu_6, zu_7, zu_8, zu_9, zu_10, zu_11, zu_12, zu_13, zu_14, zu_15, zu_16, zu_17, zu_18, zu_19, zu_20, zu_21, zu_22, zu_23, zu_24, zu_25, zu_26, zu_27, zu_28, zu_29, zu_30, zu_90, zv_0_9, zv_1_9, zv_2_9, zv_3_9, zv_4_9, zv_5_9, zv_6_9, zv_7_9, zv_8_9, zv_0_330, zv_0_4544, zv_1_4544, zv_2_4544, zv_3_4544, zv_4_4544, zv_5_4544, zv_6_4544, zv_7_4544, zv_8_4544, zv_9_4544, zv_10_4544, zv_11_4544, zv_12_4544, zv_13_4544, zv_14_4544, zv_15_4544, zv_16_4544, zv_17_4544, zv_18_4544, zv_19_4544, zv_20_4544, zv_21_4544, zv_22_4544, zv_23_4544, zv_24_4544, zv_25_4544, zv_26_4544, zv_27_4544, zv_28_4544, zv_29_4544, zv_0_11, zv_1_11, zv_0_160, true_and, and_true, Nat.reduceAdd, v1, v2, m10]
    have ret : ∀ x, Q (some (.int x)) M1 → G 75 [some (.ref 0), some (.int (nI f)), some (.int (nI t)), some (.int i)] [.int x] M1 := by
      intro x hx
      refine h75 _ _ _ ?_
      simp only [bX12_route_75, zw_0, zw_1, zs_ireturn, zn_int, zn_b0, zn_b1, zb_0, za_1, za_2, za_3, za_4, za_5, za_6, za_7, za_8, za_9, za_10, za_11, za_12, za_13, za_14, true_and, and_true, Nat.reduceAdd]
      exact hx
    have ret2 : ∀ x, Q (some (.int x)) M1 → G 97 [some (.ref 0), some (.int (nI f)), some (.int (nI t)), some (.int i)] [.int x] M1 := by
      intro x hx
      refine h97 _ _ _ ?_
      simp only [bX12_route_97, zw_0, zw_1, zs_ireturn, zn_int, zn_b0, zn_b1, zb_0, za_1, za_2, za_3, za_4, za_5, za_6, za_7, za_8, za_9, za_10, za_11, za_12, za_13, za_14, true_and, and_true, Nat.reduceAdd]
      exact hx
    refine ⟨fun h0 => ?_, fun hneg => ⟨fun n2 => ?_, fun h2 => ?_⟩⟩
    · have n3 : ¬ i = -3 := by rintro rfl; exact absurd h0 (by decide)
      have n2 : ¬ i = -2 := by rintro rfl; exact absurd h0 (by decide)
      have n1 : ¬ i = -1 := by rintro rfl; exact absurd h0 (by decide)
      rw [if_neg n3, if_neg n2, if_neg n1] at q2
      refine h76 _ _ _ ?_
      simp only [bX12_route_76, zw_0, zw_1, zs_iloadn3, zs_aloadn0, zs_aloadNn0, zg_12_424, zs_icge, zg_12_59, zs_iconst, zs_iadd, zs_iaload, zs_goto, zb_0, za_1, za_2, za_3, za_4, za_5, za_6, za_7, za_8, za_9, za_10, za_11, za_12, za_13, za_14, zu_0, zu_1, zu_2, zu_3, zu_4, zu_5, zu_6, zu_7, zu_8, zu_9, zu_10, zu_11, zu_12, zu_13, zu_14, zu_15, zu_16, zu_17, zu_18, zu_19, zu_20, zu_21, zu_22, zu_23, zu_24, zu_25, zu_26, zu_27, zu_28, zu_29, zu_30, zu_90, zv_0_9, zv_1_9, zv_2_9, zv_3_9, zv_4_9, zv_5_9, zv_6_9, zv_7_9, zv_8_9, zv_0_330, zv_0_4544, zv_1_4544, zv_2_4544, zv_3_4544, zv_4_4544, zv_5_4544, zv_6_4544, zv_7_4544, zv_8_4544, zv_9_4544, zv_10_4544, zv_11_4544, zv_12_4544, zv_13_4544, zv_14_4544, zv_15_4544, zv_16_4544, zv_17_4544, zv_18_4544, zv_19_4544, zv_20_4544, zv_21_4544, zv_22_4544, zv_23_4544, zv_24_4544, zv_25_4544, zv_26_4544, zv_27_4544, zv_28_4544, zv_29_4544, zv_0_11, zv_1_11, zv_0_160, true_and, and_true, Nat.reduceAdd, x4]
      obtain ⟨j, hj, rfl⟩ : ∃ j, j < 2 ^ 31 ∧ i = nI j := zr_nn h0
      refine ⟨fun hge2 => ?_, fun hlt2 => ?_⟩
      · have := (nI_leI (by omega) hj).mp hge2
        rw [show zo_is (zr_all n b pr cs D (nI dd) f t 10000).2.length (nI j) = false from decide_eq_false (fun z => by have := nI_toInt (n := j) hj; omega), if_neg (by decide)] at q2
        refine h95 _ _ _ ?_
        simp only [bX12_route_95, zw_0, zw_1, zs_bipush, zb_0, za_1, za_2, za_3, za_4, za_5, za_6, za_7, za_8, za_9, za_10, za_11, za_12, za_13, za_14, true_and, and_true, Nat.reduceAdd]
        exact ret2 _ q2
      · have hj2 : j < (zr_all n b pr cs D (nI dd) f t 10000).2.length := by
          rcases Nat.lt_or_ge j (zr_all n b pr cs D (nI dd) f t 10000).2.length with z | z
          · exact z
          · exact absurd ((nI_leI (by omega) hj).mpr z) hlt2
        rw [show zo_is (zr_all n b pr cs D (nI dd) f t 10000).2.length (nI j) = true from decide_eq_true (by have := nI_toInt (n := j) hj; omega), if_pos rfl, nI_clamp (by omega)] at q2
        have w1 : vp_in (nI j + 1) 11 := by rw [nI_1]; exact vp_in_nI (by omega) (by decide)
        have w2 : (nI j + 1).toNatClampNeg = j + 1 := by rw [nI_1]; exact nI_clamp (by omega)
        rw [w2]
        refine ⟨w1, ?_⟩
        rw [x5 j hj2]
        exact ret2 _ q2
    · rw [if_neg n2] at q2
      refine h59 _ _ _ ?_
      simp only [bX12_route_59, zw_0, zw_1, zs_iloadn3, zs_iconst, zs_icne, zs_aloadn0, zs_aloadNn0, zg_12_424, zs_goto, zb_0, za_1, za_2, za_3, za_4, za_5, za_6, za_7, za_8, za_9, za_10, za_11, za_12, za_13, za_14, true_and, and_true, Nat.reduceAdd, x4]
      refine ⟨fun n1 => ?_, fun h1 => ?_⟩
      · have h3 : i = -3 := zr_m3 hge hneg n2 n1
        rw [if_pos h3] at q2
        refine h71 _ _ _ ?_
        simp only [bX12_route_71, zw_0, zw_1, zs_aloadn0, zs_aloadNn0, zg_12_421, zb_0, za_1, za_2, za_3, za_4, za_5, za_6, za_7, za_8, za_9, za_10, za_11, za_12, za_13, za_14, true_and, and_true, Nat.reduceAdd, x1]
        exact ret _ q2
      · rw [if_neg (by rintro rfl; exact absurd h1 (by decide)), if_pos h1] at q2
        exact ret _ q2
    · rw [if_neg (by rintro rfl; exact absurd h2 (by decide)), if_pos h2] at q2
      exact ret _ q2
  · have := q2 M zf_refl zg_refl
    rw [zr_an_lo hn (Int32.not_le.mp hlt)] at this
    exact bad this
