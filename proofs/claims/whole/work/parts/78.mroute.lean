/-! ===== the route: the reference's days ===== -/
def zr_B (c : Nat) : Nat := if c = 0 then 1000000000 else c
def zr_D (x : Nat) : Nat := if x = 1000 then 1000000000 else x
def zM_f (n : Nat) (b pr cs : Nat → Int32) (M : zm_M) : Prop := zm_s9 n b pr M ∧ ∀ i, i < n → M.1 1 (110 + i) = cs i
def zM_dy (n : Nat) (ds : Nat → Nat) (M : zm_M) : Prop := ∀ i, i < n → M.1 10 i = nI (zr_D (ds i))
theorem zM_f_f {n : Nat} {b pr cs : Nat → Int32} {M M' : zm_M} {L : List Nat} (h : zM_f n b pr cs M) (f : zf L M M') (h1 : 1 ∉ L) : zM_f n b pr cs M' := by
  have e : M'.1 1 = M.1 1 := (f 1 h1).1
  unfold zM_f zm_s9
  rw [e]; exact h
theorem c_daysOf {E : zm_E} (hE : zm_ok E.2.2.1 E.2.2.2.2) (d : Nat) {n to p e : Nat} {b pr cs : Nat → Int32} {M : zm_M} (hF : zM_f n b pr cs M) (hto : to < n) (hp : p < n) (he : e < n) (hab : zt_ab b to p = true) : zm_R E (d + 2) mX12_daysOf [.ref 0, .int (nI p), .int (nI e), .int (nI to)] M (fun r M' => r = some (.int (nI (zr_B (zr_c b cs to p e)))) ∧ M' = M) := by
  refine zX12_daysOf hE rfl (fun G h0 h17 h46 h49 => ?_)
  show G 0 [some (.ref 0), some (.int (nI p)), some (.int (nI e)), some (.int (nI to))] [] M
  obtain ⟨h9, hcs⟩ := hF
  have hw : zt_wf n b := zt_wf_c h9.1 h9.2.2.1
  have hn := hw.1
  have fin : ∀ (v : Nat), v = zr_B (zr_c b cs to p e) → G 49 [some (.ref 0), some (.int (nI p)), some (.int (nI e)), some (.int (nI to))] [.int (nI v)] M := by
    intro v hv
    refine h49 _ _ _ ?_
    simp only [bX12_daysOf_49, zw_0, zw_1, zs_ireturn, zn_int, zn_b0, zn_b1, zb_0, za_1, za_2, za_3, za_4, za_5, za_6, za_7, za_8, za_9, za_10, za_11, za_12, za_13, za_14, true_and, and_true, Nat.reduceAdd]
    rw [hv]
  obtain ⟨v1, v2⟩ := zx_ck (k := 90) (p := p) (N := 4544) (by omega) (by decide)
  obtain ⟨v3, v4⟩ := zx_ck (k := 110) (p := p) (N := 4544) (by omega) (by decide)
  have m90 : M.1 1 (90 + p) = b p := h9.2.2.1 p hp
  have m110 : M.1 1 (110 + p) = cs p := hcs p hp
  have none' : zr_c b cs to p e = 0 → G 46 [some (.ref 0), some (.int (nI p)), some (.int (nI e)), some (.int (nI to))] [] M := by
    intro hz
    refine h46 _ _ _ ?_
    simp only [bX12_daysOf_46, zw_0, zw_1, zdw_12_417, zb_0, za_1, za_2, za_3, za_4, za_5, za_6, za_7, za_8, za_9, za_10, za_11, za_12, za_13, za_14, true_and, and_true, Nat.reduceAdd]
    exact fin 1000000000 (by rw [hz]; rfl)
  refine h0 _ _ _ ?_
  simp only [bX12_daysOf_0, zw_0, zw_1, zs_aloadn0, zs_aloadNn0, zg_12_7, zs_bipush, zs_iloadn1, zs_iadd, zs_iaload, zs_iloadn2, zs_icne, zs_iconst, zs_goto, zb_0, za_1, za_2, za_3, za_4, za_5, za_6, za_7, za_8, za_9, za_10, za_11, za_12, za_13, za_14, zu_0, zu_1, zu_2, zu_3, zu_4, zu_5, zu_6, zu_7, zu_8, zu_9, zu_10, zu_11, zu_12, zu_13, zu_14, zu_15, zu_16, zu_17, zu_18, zu_19, zu_20, zu_21, zu_22, zu_23, zu_24, zu_25, zu_26, zu_27, zu_28, zu_29, zu_30, zu_90, zv_0_9, zv_1_9, zv_2_9, zv_3_9, zv_4_9, zv_5_9, zv_6_9, zv_7_9, zv_8_9, zv_0_330, zv_0_4544, zv_1_4544, zv_2_4544, zv_3_4544, zv_4_4544, zv_5_4544, zv_6_4544, zv_7_4544, zv_8_4544, zv_9_4544, zv_10_4544, zv_11_4544, zv_12_4544, zv_13_4544, zv_14_4544, zv_15_4544, zv_16_4544, zv_17_4544, zv_18_4544, zv_19_4544, zv_20_4544, zv_21_4544, zv_22_4544, zv_23_4544, zv_24_4544, zv_25_4544, zv_26_4544, zv_27_4544, zv_28_4544, zv_29_4544, zv_0_11, zv_1_11, zv_0_160, true_and, and_true, Nat.reduceAdd, zx_boss, v1, v2, m90]
  refine ⟨fun hne => ?_, fun heq => ?_⟩
  · refine h17 _ _ _ ?_
    simp only [bX12_daysOf_17, zw_0, zw_1, zs_aloadn0, zs_aloadNn0, zg_12_7, zs_bipush, zs_iloadn1, zs_iadd, zs_iaload, zs_iloadn2, zi_12_77, zs_ifeq, zs_iloadn3, zi_12_350, zs_iconst, zs_goto, zh_0, zh_1, zh_2, zh_3, zh_4, zt_i, zt_l, zt_r, zt_n, zb_0, za_1, za_2, za_3, za_4, za_5, za_6, za_7, za_8, za_9, za_10, za_11, za_12, za_13, za_14, zu_0, zu_1, zu_2, zu_3, zu_4, zu_5, zu_6, zu_7, zu_8, zu_9, zu_10, zu_11, zu_12, zu_13, zu_14, zu_15, zu_16, zu_17, zu_18, zu_19, zu_20, zu_21, zu_22, zu_23, zu_24, zu_25, zu_26, zu_27, zu_28, zu_29, zu_30, zu_90, zv_0_9, zv_1_9, zv_2_9, zv_3_9, zv_4_9, zv_5_9, zv_6_9, zv_7_9, zv_8_9, zv_0_330, zv_0_4544, zv_1_4544, zv_2_4544, zv_3_4544, zv_4_4544, zv_5_4544, zv_6_4544, zv_7_4544, zv_8_4544, zv_9_4544, zv_10_4544, zv_11_4544, zv_12_4544, zv_13_4544, zv_14_4544, zv_15_4544, zv_16_4544, zv_17_4544, zv_18_4544, zv_19_4544, zv_20_4544, zv_21_4544, zv_22_4544, zv_23_4544, zv_24_4544, zv_25_4544, zv_26_4544, zv_27_4544, zv_28_4544, zv_29_4544, zv_0_11, zv_1_11, zv_0_160, true_and, and_true, Nat.reduceAdd, zx_110, v3, v4, m110]
    refine zm_R_eq (c_has hE d _ _ M) ?_
    simp only [bX12_daysOf_17, zw_0, zw_1, zs_aloadn0, zs_aloadNn0, zg_12_7, zs_bipush, zs_iloadn1, zs_iadd, zs_iaload, zs_iloadn2, zi_12_77, zs_ifeq, zs_iloadn3, zi_12_350, zs_iconst, zs_goto, zh_0, zh_1, zh_2, zh_3, zh_4, zt_i, zt_l, zt_r, zt_n, zb_0, za_1, za_2, za_3, za_4, za_5, za_6, za_7, za_8, za_9, za_10, za_11, za_12, za_13, za_14, zu_0, zu_1, zu_2, zu_3, zu_4, zu_5, zu_6, zu_7, zu_8, zu_9, zu_10, zu_11, zu_12, zu_13, zu_14, zu_15, zu_16, zu_17, zu_18, zu_19, zu_20, zu_21, zu_22, zu_23, zu_24, zu_25, zu_26, zu_27, zu_28, zu_29, zu_30, zu_90, zv_0_9, zv_1_9, zv_2_9, zv_3_9, zv_4_9, zv_5_9, zv_6_9, zv_7_9, zv_8_9, zv_0_330, zv_0_4544, zv_1_4544, zv_2_4544, zv_3_4544, zv_4_4544, zv_5_4544, zv_6_4544, zv_7_4544, zv_8_4544, zv_9_4544, zv_10_4544, zv_11_4544, zv_12_4544, zv_13_4544, zv_14_4544, zv_15_4544, zv_16_4544, zv_17_4544, zv_18_4544, zv_19_4544, zv_20_4544, zv_21_4544, zv_22_4544, zv_23_4544, zv_24_4544, zv_25_4544, zv_26_4544, zv_27_4544, zv_28_4544, zv_29_4544, zv_0_11, zv_1_11, zv_0_160, true_and, and_true, Nat.reduceAdd]
    refine ⟨fun hz => none' (by unfold zr_c; rw [if_pos hab, if_neg hne, if_neg (fun z => z.1 hz)]), fun hz => ?_⟩
    refine zm_R_eq (c_isAbove hE d h9.1 hto he) ?_
    rw [zt_ab_c h9.1 h9.2.2.1 hto e he]
    simp only [bX12_daysOf_17, zw_0, zw_1, zs_aloadn0, zs_aloadNn0, zg_12_7, zs_bipush, zs_iloadn1, zs_iadd, zs_iaload, zs_iloadn2, zi_12_77, zs_ifeq, zs_iloadn3, zi_12_350, zs_iconst, zs_goto, zh_0, zh_1, zh_2, zh_3, zh_4, zt_i, zt_l, zt_r, zt_n, zb_0, za_1, za_2, za_3, za_4, za_5, za_6, za_7, za_8, za_9, za_10, za_11, za_12, za_13, za_14, zu_0, zu_1, zu_2, zu_3, zu_4, zu_5, zu_6, zu_7, zu_8, zu_9, zu_10, zu_11, zu_12, zu_13, zu_14, zu_15, zu_16, zu_17, zu_18, zu_19, zu_20, zu_21, zu_22, zu_23, zu_24, zu_25, zu_26, zu_27, zu_28, zu_29, zu_30, zu_90, zv_0_9, zv_1_9, zv_2_9, zv_3_9, zv_4_9, zv_5_9, zv_6_9, zv_7_9, zv_8_9, zv_0_330, zv_0_4544, zv_1_4544, zv_2_4544, zv_3_4544, zv_4_4544, zv_5_4544, zv_6_4544, zv_7_4544, zv_8_4544, zv_9_4544, zv_10_4544, zv_11_4544, zv_12_4544, zv_13_4544, zv_14_4544, zv_15_4544, zv_16_4544, zv_17_4544, zv_18_4544, zv_19_4544, zv_20_4544, zv_21_4544, zv_22_4544, zv_23_4544, zv_24_4544, zv_25_4544, zv_26_4544, zv_27_4544, zv_28_4544, zv_29_4544, zv_0_11, zv_1_11, zv_0_160, true_and, and_true, Nat.reduceAdd, zi_b0]
    refine ⟨fun ha => none' (by unfold zr_c; rw [if_pos hab, if_neg hne, if_neg (fun z => by rw [ha] at z; exact absurd z.2 (by decide))]), fun ha => ?_⟩
    have ha : zt_ab b to e = true := by simpa using ha
    exact fin 2 (by unfold zr_c; rw [if_pos hab, if_neg hne, if_pos ⟨hz, ha⟩]; rfl)
  · exact fin 1 (by unfold zr_c; rw [if_pos hab, if_pos heq]; rfl)
theorem zr_B_9 {c : Nat} (hc : c ≤ 2) : ((1000000000 : Int32) ≤ nI (zr_B c)) = (c = 0) := by
  refine propext ⟨fun h => ?_, fun h => by rw [h]; decide⟩
  have := (nI_leI (a := 1000000000) (b := zr_B c) (by decide) (by unfold zr_B; split <;> omega)).mp h
  unfold zr_B at this
  split at this <;> omega
theorem zr_D_9 {c : Nat} (hc : c ≤ 1000) : ((1000000000 : Int32) ≤ nI (zr_D c)) = (c = 1000) := by
  refine propext ⟨fun h => ?_, fun h => by rw [h]; decide⟩
  have := (nI_leI (a := 1000000000) (b := zr_D c) (by decide) (by unfold zr_D; split <;> omega)).mp h
  unfold zr_D at this
  split at this <;> omega
theorem c_layDays {E : zm_E} (hE : zm_ok E.2.2.1 E.2.2.2.2) (d : Nat) {n to : Nat} {b pr cs : Nat → Int32} {M : zm_M} (hF : zM_f n b pr cs M) (hto : to < n) {Q : Option Value → zm_M → Prop} (q : ∀ M', zM_dy n (zr_ds n b cs to) M' → zf [10] M M' → Q none M') : zm_R E (d + 3) mX12_layDays [.ref 0, .int (nI to)] M Q := by
  refine zX12_layDays hE rfl (fun G h0 h2 h26 h29 h36 h38 h50 h72 h75 h152 h158 h164 h170 => ?_)
  show G 0 [some (.ref 0), some (.int (nI to)), none, none, none, none] [] M
  have hw : zt_wf n b := zt_wf_c hF.1.1 hF.1.2.2.1
  have hn := hw.1
  have hc2 : ∀ p e, zr_c b cs to p e ≤ 2 := fun p e => zr_c_2 b cs to p e
  have m0 : ∀ {M1 : zm_M}, zf [10] M M1 → M1.1 1 0 = nI n := fun f => by rw [(f 1 (by decide)).1]; exact hF.1.2.1
  have l1 : ∀ (g e r p : Nat) (ds : Nat → Nat) (M1 : zm_M) (l5 : Option Value), e + g = n → p < n → zt_ab b to p = true → zr_i n ds → zM_dy n ds M1 → zf [10] M M1 → (∀ M2 l4 l5, zM_dy n (zr_l1 (zr_c b cs to) p g e ds) M2 → zf [10] M M2 → G 158 [some (.ref 0), some (.int (nI to)), some (.int (nI r)), some (.int (nI p)), l4, l5] [] M2) → G 75 [some (.ref 0), some (.int (nI to)), some (.int (nI r)), some (.int (nI p)), some (.int (nI e)), l5] [] M1 := by
    intro g
    induction g with
    | zero =>
      intro e r p ds M1 l5 he hp hab hi hd f1 K
      have n0 := m0 f1
      refine h75 _ _ _ ?_
      simp only [bX12_layDays_75, zw_0, zw_1, zs_iload4, zs_aloadn0, zs_aloadNn0, zg_12_7, zs_iconst, zs_iaload, zs_icge, zs_iloadn3, zs_iloadn1, zi_12_418, zs_istore5, zs_iload5, zdw_12_417, zg_12_50, zs_iadd, zs_iastore, zc_none, zc_int, zc_ref, zc_null, zc_long, zh_0, zh_1, zh_2, zh_3, zh_4, zt_i, zt_l, zt_r, zt_n, zb_0, za_1, za_2, za_3, za_4, za_5, za_6, za_7, za_8, za_9, za_10, za_11, za_12, za_13, za_14, zu_0, zu_1, zu_2, zu_3, zu_4, zu_5, zu_6, zu_7, zu_8, zu_9, zu_10, zu_11, zu_12, zu_13, zu_14, zu_15, zu_16, zu_17, zu_18, zu_19, zu_20, zu_21, zu_22, zu_23, zu_24, zu_25, zu_26, zu_27, zu_28, zu_29, zu_30, zu_90, zv_0_9, zv_1_9, zv_2_9, zv_3_9, zv_4_9, zv_5_9, zv_6_9, zv_7_9, zv_8_9, zv_0_330, zv_0_4544, zv_1_4544, zv_2_4544, zv_3_4544, zv_4_4544, zv_5_4544, zv_6_4544, zv_7_4544, zv_8_4544, zv_9_4544, zv_10_4544, zv_11_4544, zv_12_4544, zv_13_4544, zv_14_4544, zv_15_4544, zv_16_4544, zv_17_4544, zv_18_4544, zv_19_4544, zv_20_4544, zv_21_4544, zv_22_4544, zv_23_4544, zv_24_4544, zv_25_4544, zv_26_4544, zv_27_4544, zv_28_4544, zv_29_4544, zv_0_11, zv_1_11, zv_0_160, true_and, and_true, Nat.reduceAdd, n0]
      refine ⟨fun _ => K M1 _ _ hd f1, fun h => absurd (nI_le (by omega) (by omega)) h⟩
    | succ g ih =>
      intro e r p ds M1 l5 he hp hab hi hd f1 K
      have n0 := m0 f1
      have F1 : zM_f n b pr cs M1 := zM_f_f hF f1 (by decide)
      have hi' := zr_rel_i (p := p) (e := e) hc2 hn hp (by omega) hi
      have ve : vp_in (nI e) 10 := vp_in_nI (by omega) (by decide)
      have ve2 : (nI e).toNatClampNeg = e := nI_clamp (by omega)
      have vp : vp_in (nI p) 10 := vp_in_nI (by omega) (by decide)
      have vp2 : (nI p).toNatClampNeg = p := nI_clamp (by omega)
      have de := hd e (by omega)
      have dp := hd p hp
      have be := hi.1 e
      have bp := hi.1 p
      have c2 := hc2 p e
      have next : ∀ (M2 : zm_M) l5, zM_dy n (zr_rel (zr_c b cs to) ds p e) M2 → zf [10] M M2 → G 152 [some (.ref 0), some (.int (nI to)), some (.int (nI r)), some (.int (nI p)), some (.int (nI e)), l5] [] M2 := by
        intro M2 l5 d2 f2
        refine h152 _ _ _ ?_
        simp only [bX12_layDays_152, zw_0, zw_1, zs_iinc4, zs_goto, zc_none, zc_int, zc_ref, zc_null, zc_long, zb_0, za_1, za_2, za_3, za_4, za_5, za_6, za_7, za_8, za_9, za_10, za_11, za_12, za_13, za_14, true_and, and_true, Nat.reduceAdd, nI_1]
        exact ih (e + 1) r p _ M2 l5 (by omega) hp hab hi' d2 f2 K
      have no : ¬ (0 < zr_c b cs to p e ∧ ds e + zr_c b cs to p e < ds p) → zM_dy n (zr_rel (zr_c b cs to) ds p e) M1 := by
        intro h
        unfold zr_rel
        rw [if_neg h]; exact hd
      refine h75 _ _ _ ?_
      simp only [bX12_layDays_75, zw_0, zw_1, zs_iload4, zs_aloadn0, zs_aloadNn0, zg_12_7, zs_iconst, zs_iaload, zs_icge, zs_iloadn3, zs_iloadn1, zi_12_418, zs_istore5, zs_iload5, zdw_12_417, zg_12_50, zs_iadd, zs_iastore, zc_none, zc_int, zc_ref, zc_null, zc_long, zh_0, zh_1, zh_2, zh_3, zh_4, zt_i, zt_l, zt_r, zt_n, zb_0, za_1, za_2, za_3, za_4, za_5, za_6, za_7, za_8, za_9, za_10, za_11, za_12, za_13, za_14, zu_0, zu_1, zu_2, zu_3, zu_4, zu_5, zu_6, zu_7, zu_8, zu_9, zu_10, zu_11, zu_12, zu_13, zu_14, zu_15, zu_16, zu_17, zu_18, zu_19, zu_20, zu_21, zu_22, zu_23, zu_24, zu_25, zu_26, zu_27, zu_28, zu_29, zu_30, zu_90, zv_0_9, zv_1_9, zv_2_9, zv_3_9, zv_4_9, zv_5_9, zv_6_9, zv_7_9, zv_8_9, zv_0_330, zv_0_4544, zv_1_4544, zv_2_4544, zv_3_4544, zv_4_4544, zv_5_4544, zv_6_4544, zv_7_4544, zv_8_4544, zv_9_4544, zv_10_4544, zv_11_4544, zv_12_4544, zv_13_4544, zv_14_4544, zv_15_4544, zv_16_4544, zv_17_4544, zv_18_4544, zv_19_4544, zv_20_4544, zv_21_4544, zv_22_4544, zv_23_4544, zv_24_4544, zv_25_4544, zv_26_4544, zv_27_4544, zv_28_4544, zv_29_4544, zv_0_11, zv_1_11, zv_0_160, true_and, and_true, Nat.reduceAdd, n0]
      refine ⟨fun h => absurd h (nI_ge (by omega) (by omega)), fun _ => ?_⟩
      refine zm_R_eq (c_daysOf hE d F1 hto hp (by omega) hab) ?_
      have b9 := zr_B_9 c2
      have d9 := zr_D_9 be
      simp only [bX12_layDays_75, zw_0, zw_1, zs_iload4, zs_aloadn0, zs_aloadNn0, zg_12_7, zs_iconst, zs_iaload, zs_icge, zs_iloadn3, zs_iloadn1, zi_12_418, zs_istore5, zs_iload5, zdw_12_417, zg_12_50, zs_iadd, zs_iastore, zc_none, zc_int, zc_ref, zc_null, zc_long, zh_0, zh_1, zh_2, zh_3, zh_4, zt_i, zt_l, zt_r, zt_n, zb_0, za_1, za_2, za_3, za_4, za_5, za_6, za_7, za_8, za_9, za_10, za_11, za_12, za_13, za_14, zu_0, zu_1, zu_2, zu_3, zu_4, zu_5, zu_6, zu_7, zu_8, zu_9, zu_10, zu_11, zu_12, zu_13, zu_14, zu_15, zu_16, zu_17, zu_18, zu_19, zu_20, zu_21, zu_22, zu_23, zu_24, zu_25, zu_26, zu_27, zu_28, zu_29, zu_30, zu_90, zv_0_9, zv_1_9, zv_2_9, zv_3_9, zv_4_9, zv_5_9, zv_6_9, zv_7_9, zv_8_9, zv_0_330, zv_0_4544, zv_1_4544, zv_2_4544, zv_3_4544, zv_4_4544, zv_5_4544, zv_6_4544, zv_7_4544, zv_8_4544, zv_9_4544, zv_10_4544, zv_11_4544, zv_12_4544, zv_13_4544, zv_14_4544, zv_15_4544, zv_16_4544, zv_17_4544, zv_18_4544, zv_19_4544, zv_20_4544, zv_21_4544, zv_22_4544, zv_23_4544, zv_24_4544, zv_25_4544, zv_26_4544, zv_27_4544, zv_28_4544, zv_29_4544, zv_0_11, zv_1_11, zv_0_160, true_and, and_true, Nat.reduceAdd, b9, ve, ve2, de, vp, vp2, dp, d9]
      refine ⟨fun hz => next M1 _ (no (by omega)) f1, fun hz => ⟨fun h1000 => next M1 _ (no (by omega)) f1, fun h1000 => ?_⟩⟩
      have eB : zr_B (zr_c b cs to p e) = zr_c b cs to p e := by unfold zr_B; rw [if_neg hz]
      have eD : zr_D (ds e) = ds e := by unfold zr_D; rw [if_neg h1000]
      have few := hi.2 e (by omega) (by omega)
      have fin := zc_n_le (fun q => decide (ds q < 1000)) n
      unfold zr_fin at few
      have pD : zr_D (ds p) < 2 ^ 30 ∧ (zr_c b cs to p e + ds e < zr_D (ds p) ↔ ds e + zr_c b cs to p e < ds p) := by
        unfold zr_D
        split <;> omega
      rw [eB, eD, nI_add]
      have cmp : (nI (zr_D (ds p)) ≤ nI (zr_c b cs to p e + ds e)) = (¬ ds e + zr_c b cs to p e < ds p) := by
        rw [← pD.2]
        exact propext ⟨fun z => by have := (nI_leI (by omega) (by omega)).mp z; omega, fun z => (nI_leI (by omega) (by omega)).mpr (by omega)⟩
      rw [cmp]
      refine ⟨fun h => next M1 _ (no (fun z => h z.2)) f1, fun h => ?_⟩
      have h : ds e + zr_c b cs to p e < ds p := by omega
      refine next _ _ ?_ (zf_wi f1 (by decide))
      intro i hi3
      unfold zr_rel zr_up
      rw [if_pos ⟨by omega, h⟩, zm_wi_same]
      by_cases c : i = p
      · rw [if_pos c]
        simp only [c, if_true]
        have : zr_D (ds e + zr_c b cs to p e) = zr_c b cs to p e + ds e := by unfold zr_D; rw [if_neg (by omega)]; omega
        rw [this]
      · rw [if_neg c]
        simp only [c, if_false]
        exact hd i hi3
  have l2 : ∀ (g p r : Nat) (ds : Nat → Nat) (M1 : zm_M) (l4 l5 : Option Value), p + g = n → zr_i n ds → zM_dy n ds M1 → zf [10] M M1 → (∀ M2 l3 l4 l5, zM_dy n (zr_l2 (zr_c b cs to) n g p ds) M2 → zf [10] M M2 → G 164 [some (.ref 0), some (.int (nI to)), some (.int (nI r)), l3, l4, l5] [] M2) → G 50 [some (.ref 0), some (.int (nI to)), some (.int (nI r)), some (.int (nI p)), l4, l5] [] M1 := by
    intro g
    induction g with
    | zero =>
      intro p r ds M1 l4 l5 hp hi hd f1 K
      have n0 := m0 f1
      refine h50 _ _ _ ?_
      simp only [bX12_layDays_50, zw_0, zw_1, zs_iloadn3, zs_aloadn0, zs_aloadNn0, zg_12_7, zs_iconst, zs_iaload, zs_icge, zs_iloadn1, zi_12_350, zs_ifne, zs_goto, zh_0, zh_1, zh_2, zh_3, zh_4, zt_i, zt_l, zt_r, zt_n, zb_0, za_1, za_2, za_3, za_4, za_5, za_6, za_7, za_8, za_9, za_10, za_11, za_12, za_13, za_14, zu_0, zu_1, zu_2, zu_3, zu_4, zu_5, zu_6, zu_7, zu_8, zu_9, zu_10, zu_11, zu_12, zu_13, zu_14, zu_15, zu_16, zu_17, zu_18, zu_19, zu_20, zu_21, zu_22, zu_23, zu_24, zu_25, zu_26, zu_27, zu_28, zu_29, zu_30, zu_90, zv_0_9, zv_1_9, zv_2_9, zv_3_9, zv_4_9, zv_5_9, zv_6_9, zv_7_9, zv_8_9, zv_0_330, zv_0_4544, zv_1_4544, zv_2_4544, zv_3_4544, zv_4_4544, zv_5_4544, zv_6_4544, zv_7_4544, zv_8_4544, zv_9_4544, zv_10_4544, zv_11_4544, zv_12_4544, zv_13_4544, zv_14_4544, zv_15_4544, zv_16_4544, zv_17_4544, zv_18_4544, zv_19_4544, zv_20_4544, zv_21_4544, zv_22_4544, zv_23_4544, zv_24_4544, zv_25_4544, zv_26_4544, zv_27_4544, zv_28_4544, zv_29_4544, zv_0_11, zv_1_11, zv_0_160, true_and, and_true, Nat.reduceAdd, n0]
      refine ⟨fun _ => K M1 _ _ _ hd f1, fun h => absurd (nI_le (by omega) (by omega)) h⟩
    | succ g ih =>
      intro p r ds M1 l4 l5 hp hi hd f1 K
      have n0 := m0 f1
      have F1 : zM_f n b pr cs M1 := zM_f_f hF f1 (by decide)
      have hi' := zr_l1_i (c := zr_c b cs to) (p := p) hc2 hn (by omega) n 0 ds (by omega) hi
      have next : ∀ (M2 : zm_M) l4 l5, zM_dy n (zr_l1 (zr_c b cs to) p n 0 ds) M2 → zf [10] M M2 → G 158 [some (.ref 0), some (.int (nI to)), some (.int (nI r)), some (.int (nI p)), l4, l5] [] M2 := by
        intro M2 l4 l5 d2 f2
        refine h158 _ _ _ ?_
        simp only [bX12_layDays_158, zw_0, zw_1, zs_iinc3, zs_goto, zc_none, zc_int, zc_ref, zc_null, zc_long, zb_0, za_1, za_2, za_3, za_4, za_5, za_6, za_7, za_8, za_9, za_10, za_11, za_12, za_13, za_14, true_and, and_true, Nat.reduceAdd, nI_1]
        exact ih (p + 1) r _ M2 l4 l5 (by omega) hi' d2 f2 K
      refine h50 _ _ _ ?_
      simp only [bX12_layDays_50, zw_0, zw_1, zs_iloadn3, zs_aloadn0, zs_aloadNn0, zg_12_7, zs_iconst, zs_iaload, zs_icge, zs_iloadn1, zi_12_350, zs_ifne, zs_goto, zh_0, zh_1, zh_2, zh_3, zh_4, zt_i, zt_l, zt_r, zt_n, zb_0, za_1, za_2, za_3, za_4, za_5, za_6, za_7, za_8, za_9, za_10, za_11, za_12, za_13, za_14, zu_0, zu_1, zu_2, zu_3, zu_4, zu_5, zu_6, zu_7, zu_8, zu_9, zu_10, zu_11, zu_12, zu_13, zu_14, zu_15, zu_16, zu_17, zu_18, zu_19, zu_20, zu_21, zu_22, zu_23, zu_24, zu_25, zu_26, zu_27, zu_28, zu_29, zu_30, zu_90, zv_0_9, zv_1_9, zv_2_9, zv_3_9, zv_4_9, zv_5_9, zv_6_9, zv_7_9, zv_8_9, zv_0_330, zv_0_4544, zv_1_4544, zv_2_4544, zv_3_4544, zv_4_4544, zv_5_4544, zv_6_4544, zv_7_4544, zv_8_4544, zv_9_4544, zv_10_4544, zv_11_4544, zv_12_4544, zv_13_4544, zv_14_4544, zv_15_4544, zv_16_4544, zv_17_4544, zv_18_4544, zv_19_4544, zv_20_4544, zv_21_4544, zv_22_4544, zv_23_4544, zv_24_4544, zv_25_4544, zv_26_4544, zv_27_4544, zv_28_4544, zv_29_4544, zv_0_11, zv_1_11, zv_0_160, true_and, and_true, Nat.reduceAdd, n0]
      refine ⟨fun h => absurd h (nI_ge (by omega) (by omega)), fun _ => ?_⟩
      refine zm_R_eq (c_isAbove hE (d + 1) F1.1.1 hto (show p < n by omega)) ?_
      rw [zt_ab_c F1.1.1 F1.1.2.2.1 hto p (by omega)]
      simp only [bX12_layDays_50, zw_0, zw_1, zs_iloadn3, zs_aloadn0, zs_aloadNn0, zg_12_7, zs_iconst, zs_iaload, zs_icge, zs_iloadn1, zi_12_350, zs_ifne, zs_goto, zh_0, zh_1, zh_2, zh_3, zh_4, zt_i, zt_l, zt_r, zt_n, zb_0, za_1, za_2, za_3, za_4, za_5, za_6, za_7, za_8, za_9, za_10, za_11, za_12, za_13, za_14, zu_0, zu_1, zu_2, zu_3, zu_4, zu_5, zu_6, zu_7, zu_8, zu_9, zu_10, zu_11, zu_12, zu_13, zu_14, zu_15, zu_16, zu_17, zu_18, zu_19, zu_20, zu_21, zu_22, zu_23, zu_24, zu_25, zu_26, zu_27, zu_28, zu_29, zu_30, zu_90, zv_0_9, zv_1_9, zv_2_9, zv_3_9, zv_4_9, zv_5_9, zv_6_9, zv_7_9, zv_8_9, zv_0_330, zv_0_4544, zv_1_4544, zv_2_4544, zv_3_4544, zv_4_4544, zv_5_4544, zv_6_4544, zv_7_4544, zv_8_4544, zv_9_4544, zv_10_4544, zv_11_4544, zv_12_4544, zv_13_4544, zv_14_4544, zv_15_4544, zv_16_4544, zv_17_4544, zv_18_4544, zv_19_4544, zv_20_4544, zv_21_4544, zv_22_4544, zv_23_4544, zv_24_4544, zv_25_4544, zv_26_4544, zv_27_4544, zv_28_4544, zv_29_4544, zv_0_11, zv_1_11, zv_0_160, true_and, and_true, Nat.reduceAdd, zi_b0, zi_b1]
      refine ⟨fun ha => ?_, fun ha => ?_⟩
      · have ha : zt_ab b to p = true := by simpa using ha
        refine h72 _ _ _ ?_
        simp only [bX12_layDays_72, zw_0, zw_1, zs_iconst, zs_istore4, zc_none, zc_int, zc_ref, zc_null, zc_long, zb_0, za_1, za_2, za_3, za_4, za_5, za_6, za_7, za_8, za_9, za_10, za_11, za_12, za_13, za_14, true_and, and_true, Nat.reduceAdd]
        exact l1 n 0 r p ds M1 l5 (by omega) (by omega) ha hi hd f1 (fun M2 l4 l5 d2 f2 => next M2 l4 l5 d2 f2)
      · refine next M1 _ _ ?_ f1
        rw [zr_l1_0 (fun e => by unfold zr_c; rw [ha]; rfl)]
        exact hd
  have l3 : ∀ (g r : Nat) (ds : Nat → Nat) (M1 : zm_M) (x3 l4 l5 : Option Value), r + g = n → zr_i n ds → zM_dy n ds M1 → zf [10] M M1 → zr_l3 (zr_c b cs to) n g ds = zr_ds n b cs to → G 38 [some (.ref 0), some (.int (nI to)), some (.int (nI r)), x3, l4, l5] [] M1 := by
    intro g
    induction g with
    | zero =>
      intro r ds M1 x3 l4 l5 hr hi hd f1 e
      have n0 := m0 f1
      refine h38 _ _ _ ?_
      simp only [bX12_layDays_38, zw_0, zw_1, zs_iloadn2, zs_aloadn0, zs_aloadNn0, zg_12_7, zs_iconst, zs_iaload, zs_icge, zs_istoren3, zc_none, zc_int, zc_ref, zc_null, zc_long, zb_0, za_1, za_2, za_3, za_4, za_5, za_6, za_7, za_8, za_9, za_10, za_11, za_12, za_13, za_14, zu_0, zu_1, zu_2, zu_3, zu_4, zu_5, zu_6, zu_7, zu_8, zu_9, zu_10, zu_11, zu_12, zu_13, zu_14, zu_15, zu_16, zu_17, zu_18, zu_19, zu_20, zu_21, zu_22, zu_23, zu_24, zu_25, zu_26, zu_27, zu_28, zu_29, zu_30, zu_90, zv_0_9, zv_1_9, zv_2_9, zv_3_9, zv_4_9, zv_5_9, zv_6_9, zv_7_9, zv_8_9, zv_0_330, zv_0_4544, zv_1_4544, zv_2_4544, zv_3_4544, zv_4_4544, zv_5_4544, zv_6_4544, zv_7_4544, zv_8_4544, zv_9_4544, zv_10_4544, zv_11_4544, zv_12_4544, zv_13_4544, zv_14_4544, zv_15_4544, zv_16_4544, zv_17_4544, zv_18_4544, zv_19_4544, zv_20_4544, zv_21_4544, zv_22_4544, zv_23_4544, zv_24_4544, zv_25_4544, zv_26_4544, zv_27_4544, zv_28_4544, zv_29_4544, zv_0_11, zv_1_11, zv_0_160, true_and, and_true, Nat.reduceAdd, n0]
      refine ⟨fun _ => ?_, fun h => absurd (nI_le (by omega) (by omega)) h⟩
      refine h170 _ _ _ ?_
      simp only [bX12_layDays_170, zw_0, zw_1, zs_return, zn_int, zn_b0, zn_b1, zb_0, za_1, za_2, za_3, za_4, za_5, za_6, za_7, za_8, za_9, za_10, za_11, za_12, za_13, za_14, true_and, and_true, Nat.reduceAdd]
      refine q M1 ?_ f1
      rw [← e]; exact hd
    | succ g ih =>
      intro r ds M1 x3 l4 l5 hr hi hd f1 e
      have n0 := m0 f1
      refine h38 _ _ _ ?_
      simp only [bX12_layDays_38, zw_0, zw_1, zs_iloadn2, zs_aloadn0, zs_aloadNn0, zg_12_7, zs_iconst, zs_iaload, zs_icge, zs_istoren3, zc_none, zc_int, zc_ref, zc_null, zc_long, zb_0, za_1, za_2, za_3, za_4, za_5, za_6, za_7, za_8, za_9, za_10, za_11, za_12, za_13, za_14, zu_0, zu_1, zu_2, zu_3, zu_4, zu_5, zu_6, zu_7, zu_8, zu_9, zu_10, zu_11, zu_12, zu_13, zu_14, zu_15, zu_16, zu_17, zu_18, zu_19, zu_20, zu_21, zu_22, zu_23, zu_24, zu_25, zu_26, zu_27, zu_28, zu_29, zu_30, zu_90, zv_0_9, zv_1_9, zv_2_9, zv_3_9, zv_4_9, zv_5_9, zv_6_9, zv_7_9, zv_8_9, zv_0_330, zv_0_4544, zv_1_4544, zv_2_4544, zv_3_4544, zv_4_4544, zv_5_4544, zv_6_4544, zv_7_4544, zv_8_4544, zv_9_4544, zv_10_4544, zv_11_4544, zv_12_4544, zv_13_4544, zv_14_4544, zv_15_4544, zv_16_4544, zv_17_4544, zv_18_4544, zv_19_4544, zv_20_4544, zv_21_4544, zv_22_4544, zv_23_4544, zv_24_4544, zv_25_4544, zv_26_4544, zv_27_4544, zv_28_4544, zv_29_4544, zv_0_11, zv_1_11, zv_0_160, true_and, and_true, Nat.reduceAdd, n0]
      refine ⟨fun h => absurd h (nI_ge (by omega) (by omega)), fun _ => ?_⟩
      refine l2 n 0 r ds M1 l4 l5 (by omega) hi hd f1 (fun M2 l3 l4 l5 d2 f2 => ?_)
      refine h164 _ _ _ ?_
      simp only [bX12_layDays_164, zw_0, zw_1, zs_iinc2, zs_goto, zc_none, zc_int, zc_ref, zc_null, zc_long, zb_0, za_1, za_2, za_3, za_4, za_5, za_6, za_7, za_8, za_9, za_10, za_11, za_12, za_13, za_14, true_and, and_true, Nat.reduceAdd, nI_1]
      exact ih (r + 1) _ M2 _ _ _ (by omega) (zr_l2_i hc2 hn n 0 ds (by omega) hi) d2 f2 e
  have l0 : ∀ (g i : Nat) (M1 : zm_M), i + g = n → (∀ j, j < i → M1.1 10 j = nI (zr_D (zr_d0 to j))) → zf [10] M M1 → G 2 [some (.ref 0), some (.int (nI to)), some (.int (nI i)), none, none, none] [] M1 := by
    intro g
    induction g with
    | zero =>
      intro i M1 hi e f1
      have n0 := m0 f1
      refine h2 _ _ _ ?_
      simp only [bX12_layDays_2, zw_0, zw_1, zs_iloadn2, zs_aloadn0, zs_aloadNn0, zg_12_7, zs_iconst, zs_iaload, zs_icge, zg_12_50, zs_iloadn1, zs_icne, zs_goto, zb_0, za_1, za_2, za_3, za_4, za_5, za_6, za_7, za_8, za_9, za_10, za_11, za_12, za_13, za_14, zu_0, zu_1, zu_2, zu_3, zu_4, zu_5, zu_6, zu_7, zu_8, zu_9, zu_10, zu_11, zu_12, zu_13, zu_14, zu_15, zu_16, zu_17, zu_18, zu_19, zu_20, zu_21, zu_22, zu_23, zu_24, zu_25, zu_26, zu_27, zu_28, zu_29, zu_30, zu_90, zv_0_9, zv_1_9, zv_2_9, zv_3_9, zv_4_9, zv_5_9, zv_6_9, zv_7_9, zv_8_9, zv_0_330, zv_0_4544, zv_1_4544, zv_2_4544, zv_3_4544, zv_4_4544, zv_5_4544, zv_6_4544, zv_7_4544, zv_8_4544, zv_9_4544, zv_10_4544, zv_11_4544, zv_12_4544, zv_13_4544, zv_14_4544, zv_15_4544, zv_16_4544, zv_17_4544, zv_18_4544, zv_19_4544, zv_20_4544, zv_21_4544, zv_22_4544, zv_23_4544, zv_24_4544, zv_25_4544, zv_26_4544, zv_27_4544, zv_28_4544, zv_29_4544, zv_0_11, zv_1_11, zv_0_160, true_and, and_true, Nat.reduceAdd, n0]
      refine ⟨fun _ => ?_, fun h => absurd (nI_le (by omega) (by omega)) h⟩
      refine h36 _ _ _ ?_
      simp only [bX12_layDays_36, zw_0, zw_1, zs_iconst, zs_istoren2, zc_none, zc_int, zc_ref, zc_null, zc_long, zb_0, za_1, za_2, za_3, za_4, za_5, za_6, za_7, za_8, za_9, za_10, za_11, za_12, za_13, za_14, true_and, and_true, Nat.reduceAdd]
      exact l3 n 0 (zr_d0 to) M1 none none none (by omega) (zr_d0_i hto) (fun j hj => e j (by omega)) f1 rfl
    | succ g ih =>
      intro i M1 hi e f1
      have n0 := m0 f1
      have vi : vp_in (nI i) 10 := vp_in_nI (by omega) (by decide)
      have vi2 : (nI i).toNatClampNeg = i := nI_clamp (by omega)
      have ei : (nI i = nI to) = (i = to) := propext (nI_eq (by omega) (by omega))
      have go : ∀ v : Nat, v = zr_D (zr_d0 to i) → G 29 [some (.ref 0), some (.int (nI to)), some (.int (nI i)), none, none, none] [.int (nI v), .int (nI i), .ref 10] M1 := by
        intro v hv
        refine h29 _ _ _ ?_
        simp only [bX12_layDays_29, zw_0, zw_1, zs_iastore, zs_iinc2, zs_goto, zc_none, zc_int, zc_ref, zc_null, zc_long, zb_0, za_1, za_2, za_3, za_4, za_5, za_6, za_7, za_8, za_9, za_10, za_11, za_12, za_13, za_14, zu_0, zu_1, zu_2, zu_3, zu_4, zu_5, zu_6, zu_7, zu_8, zu_9, zu_10, zu_11, zu_12, zu_13, zu_14, zu_15, zu_16, zu_17, zu_18, zu_19, zu_20, zu_21, zu_22, zu_23, zu_24, zu_25, zu_26, zu_27, zu_28, zu_29, zu_30, zu_90, zv_0_9, zv_1_9, zv_2_9, zv_3_9, zv_4_9, zv_5_9, zv_6_9, zv_7_9, zv_8_9, zv_0_330, zv_0_4544, zv_1_4544, zv_2_4544, zv_3_4544, zv_4_4544, zv_5_4544, zv_6_4544, zv_7_4544, zv_8_4544, zv_9_4544, zv_10_4544, zv_11_4544, zv_12_4544, zv_13_4544, zv_14_4544, zv_15_4544, zv_16_4544, zv_17_4544, zv_18_4544, zv_19_4544, zv_20_4544, zv_21_4544, zv_22_4544, zv_23_4544, zv_24_4544, zv_25_4544, zv_26_4544, zv_27_4544, zv_28_4544, zv_29_4544, zv_0_11, zv_1_11, zv_0_160, true_and, and_true, Nat.reduceAdd, vi, vi2, nI_1]
        refine ih (i + 1) _ (by omega) (fun j hj => ?_) (zf_wi f1 (by decide))
        rw [zm_wi_same]
        by_cases c : j = i
        · rw [if_pos c, c, hv]
        · rw [if_neg c]; exact e j (by omega)
      refine h2 _ _ _ ?_
      simp only [bX12_layDays_2, zw_0, zw_1, zs_iloadn2, zs_aloadn0, zs_aloadNn0, zg_12_7, zs_iconst, zs_iaload, zs_icge, zg_12_50, zs_iloadn1, zs_icne, zs_goto, zb_0, za_1, za_2, za_3, za_4, za_5, za_6, za_7, za_8, za_9, za_10, za_11, za_12, za_13, za_14, zu_0, zu_1, zu_2, zu_3, zu_4, zu_5, zu_6, zu_7, zu_8, zu_9, zu_10, zu_11, zu_12, zu_13, zu_14, zu_15, zu_16, zu_17, zu_18, zu_19, zu_20, zu_21, zu_22, zu_23, zu_24, zu_25, zu_26, zu_27, zu_28, zu_29, zu_30, zu_90, zv_0_9, zv_1_9, zv_2_9, zv_3_9, zv_4_9, zv_5_9, zv_6_9, zv_7_9, zv_8_9, zv_0_330, zv_0_4544, zv_1_4544, zv_2_4544, zv_3_4544, zv_4_4544, zv_5_4544, zv_6_4544, zv_7_4544, zv_8_4544, zv_9_4544, zv_10_4544, zv_11_4544, zv_12_4544, zv_13_4544, zv_14_4544, zv_15_4544, zv_16_4544, zv_17_4544, zv_18_4544, zv_19_4544, zv_20_4544, zv_21_4544, zv_22_4544, zv_23_4544, zv_24_4544, zv_25_4544, zv_26_4544, zv_27_4544, zv_28_4544, zv_29_4544, zv_0_11, zv_1_11, zv_0_160, true_and, and_true, Nat.reduceAdd, n0, ei]
      refine ⟨fun h => absurd h (nI_ge (by omega) (by omega)), fun _ => ⟨fun hne => ?_, fun heq => ?_⟩⟩
      · refine h26 _ _ _ ?_
        simp only [bX12_layDays_26, zw_0, zw_1, zdw_12_417, zb_0, za_1, za_2, za_3, za_4, za_5, za_6, za_7, za_8, za_9, za_10, za_11, za_12, za_13, za_14, true_and, and_true, Nat.reduceAdd]
        exact go 1000000000 (by unfold zr_d0; rw [if_neg hne]; rfl)
      · exact go 0 (by unfold zr_d0; rw [if_pos heq]; rfl)
  refine h0 _ _ _ ?_
  simp only [bX12_layDays_0, zw_0, zw_1, zs_iconst, zs_istoren2, zc_none, zc_int, zc_ref, zc_null, zc_long, zb_0, za_1, za_2, za_3, za_4, za_5, za_6, za_7, za_8, za_9, za_10, za_11, za_12, za_13, za_14, true_and, and_true, Nat.reduceAdd]
  exact l0 n 0 M (by omega) (fun j hj => absurd hj (by omega)) zf_refl
/-! the next step -/
def zr_nx (ok : Nat → Bool) : Nat → Nat → Int32
  | 0, _ => -1
  | f + 1, k => if ok k then nI k else zr_nx ok f (k + 1)
theorem zr_nx_sp {ok : Nat → Bool} : ∀ (f k : Nat), (zr_nx ok f k = -1 ∧ ∀ j, k ≤ j → j < k + f → ok j = false) ∨ ∃ e, k ≤ e ∧ e < k + f ∧ ok e = true ∧ zr_nx ok f k = nI e ∧ ∀ j, k ≤ j → j < e → ok j = false := by
  intro f
  induction f with
  | zero => intro k; exact Or.inl ⟨rfl, fun j h1 h2 => absurd h2 (by omega)⟩
  | succ f ih =>
    intro k
    simp only [zr_nx]
    cases h : ok k with
    | true => exact Or.inr ⟨k, by omega, by omega, h, by rw [if_pos rfl], fun j h1 h2 => absurd h2 (by omega)⟩
    | false =>
      rw [if_neg (by decide)]
      rcases ih (k + 1) with ⟨h1, h2⟩ | ⟨e, e1, e2, e3, e4, e5⟩
      · refine Or.inl ⟨h1, fun j a c => ?_⟩
        by_cases z : j = k
        · rw [z]; exact h
        · exact h2 j (by omega) (by omega)
      · refine Or.inr ⟨e, by omega, by omega, e3, e4, fun j a c => ?_⟩
        by_cases z : j = k
        · rw [z]; exact h
        · exact e5 j (by omega) (by omega)
theorem c_nextOf {E : zm_E} (hE : zm_ok E.2.2.1 E.2.2.2.2) (d : Nat) {n to p k : Nat} {a : Int32} {b pr cs : Nat → Int32} {M : zm_M} (hF : zM_f n b pr cs M) (hd : zM_dy n (zr_ds n b cs to) M) (hto : to < n) (hp : p < n) (hab : zt_ab b to p = true) (hk : k ≤ n) (ha : a + 1 = nI k) : zm_R E (d + 3) mX12_nextOf [.ref 0, .int (nI p), .int a, .int (nI to)] M (fun r M' => r = some (.int (zr_nx (zr_ok (zr_c b cs to) (zr_ds n b cs to) p) (n - k) k)) ∧ M' = M) := by
  refine zX12_nextOf hE rfl (fun G h0 h5 h69 h75 => ?_)
  show G 0 [some (.ref 0), some (.int (nI p)), some (.int a), some (.int (nI to)), none, none] [] M
  have hw : zt_wf n b := zt_wf_c hF.1.1 hF.1.2.2.1
  have hn := hw.1
  have hdi := zr_ds_i (b := b) (cs := cs) hn hto
  have n0 : M.1 1 0 = nI n := hF.1.2.1
  have vp : vp_in (nI p) 10 := vp_in_nI (by omega) (by decide)
  have vp2 : (nI p).toNatClampNeg = p := nI_clamp (by omega)
  have dp := hd p hp
  have loop : ∀ (g e : Nat) (l5 : Option Value), e + g = n → zr_nx (zr_ok (zr_c b cs to) (zr_ds n b cs to) p) g e = zr_nx (zr_ok (zr_c b cs to) (zr_ds n b cs to) p) (n - k) k → G 5 [some (.ref 0), some (.int (nI p)), some (.int a), some (.int (nI to)), some (.int (nI e)), l5] [] M := by
    intro g
    induction g with
    | zero =>
      intro e l5 he h
      refine h5 _ _ _ ?_
      simp only [bX12_nextOf_5, zw_0, zw_1, zs_iload4, zs_aloadn0, zs_aloadNn0, zg_12_7, zs_iconst, zs_iaload, zs_icge, zs_iloadn1, zs_iloadn3, zi_12_418, zs_istore5, zs_iload5, zdw_12_417, zg_12_50, zs_iadd, zs_icne, zs_ireturn, zc_none, zc_int, zc_ref, zc_null, zc_long, zh_0, zh_1, zh_2, zh_3, zh_4, zt_i, zt_l, zt_r, zt_n, zn_int, zn_b0, zn_b1, zb_0, za_1, za_2, za_3, za_4, za_5, za_6, za_7, za_8, za_9, za_10, za_11, za_12, za_13, za_14, zu_0, zu_1, zu_2, zu_3, zu_4, zu_5, zu_6, zu_7, zu_8, zu_9, zu_10, zu_11, zu_12, zu_13, zu_14, zu_15, zu_16, zu_17, zu_18, zu_19, zu_20, zu_21, zu_22, zu_23, zu_24, zu_25, zu_26, zu_27, zu_28, zu_29, zu_30, zu_90, zv_0_9, zv_1_9, zv_2_9, zv_3_9, zv_4_9, zv_5_9, zv_6_9, zv_7_9, zv_8_9, zv_0_330, zv_0_4544, zv_1_4544, zv_2_4544, zv_3_4544, zv_4_4544, zv_5_4544, zv_6_4544, zv_7_4544, zv_8_4544, zv_9_4544, zv_10_4544, zv_11_4544, zv_12_4544, zv_13_4544, zv_14_4544, zv_15_4544, zv_16_4544, zv_17_4544, zv_18_4544, zv_19_4544, zv_20_4544, zv_21_4544, zv_22_4544, zv_23_4544, zv_24_4544, zv_25_4544, zv_26_4544, zv_27_4544, zv_28_4544, zv_29_4544, zv_0_11, zv_1_11, zv_0_160, true_and, and_true, Nat.reduceAdd, n0]
      refine ⟨fun _ => ?_, fun h => absurd (nI_le (by omega) (by omega)) h⟩
      refine h75 _ _ _ ?_
      simp only [bX12_nextOf_75, zw_0, zw_1, zs_iconst, zs_ireturn, zn_int, zn_b0, zn_b1, zb_0, za_1, za_2, za_3, za_4, za_5, za_6, za_7, za_8, za_9, za_10, za_11, za_12, za_13, za_14, true_and, and_true, Nat.reduceAdd]
      rw [← h]
      rfl
    | succ g ih =>
      intro e l5 he h
      have ve : vp_in (nI e) 10 := vp_in_nI (by omega) (by decide)
      have ve2 : (nI e).toNatClampNeg = e := nI_clamp (by omega)
      have de := hd e (by omega)
      have be := hdi.1 e
      have bp := hdi.1 p
      have c2 := zr_c_2 b cs to p e
      simp only [zr_nx] at h
      have next : ∀ l5, zr_ok (zr_c b cs to) (zr_ds n b cs to) p e = false → G 69 [some (.ref 0), some (.int (nI p)), some (.int a), some (.int (nI to)), some (.int (nI e)), l5] [] M := by
        intro l5 hno
        rw [if_neg (by rw [hno]; decide)] at h
        refine h69 _ _ _ ?_
        simp only [bX12_nextOf_69, zw_0, zw_1, zs_iinc4, zs_goto, zc_none, zc_int, zc_ref, zc_null, zc_long, zb_0, za_1, za_2, za_3, za_4, za_5, za_6, za_7, za_8, za_9, za_10, za_11, za_12, za_13, za_14, true_and, and_true, Nat.reduceAdd, nI_1]
        exact ih (e + 1) _ (by omega) h
      refine h5 _ _ _ ?_
      simp only [bX12_nextOf_5, zw_0, zw_1, zs_iload4, zs_aloadn0, zs_aloadNn0, zg_12_7, zs_iconst, zs_iaload, zs_icge, zs_iloadn1, zs_iloadn3, zi_12_418, zs_istore5, zs_iload5, zdw_12_417, zg_12_50, zs_iadd, zs_icne, zs_ireturn, zc_none, zc_int, zc_ref, zc_null, zc_long, zh_0, zh_1, zh_2, zh_3, zh_4, zt_i, zt_l, zt_r, zt_n, zn_int, zn_b0, zn_b1, zb_0, za_1, za_2, za_3, za_4, za_5, za_6, za_7, za_8, za_9, za_10, za_11, za_12, za_13, za_14, zu_0, zu_1, zu_2, zu_3, zu_4, zu_5, zu_6, zu_7, zu_8, zu_9, zu_10, zu_11, zu_12, zu_13, zu_14, zu_15, zu_16, zu_17, zu_18, zu_19, zu_20, zu_21, zu_22, zu_23, zu_24, zu_25, zu_26, zu_27, zu_28, zu_29, zu_30, zu_90, zv_0_9, zv_1_9, zv_2_9, zv_3_9, zv_4_9, zv_5_9, zv_6_9, zv_7_9, zv_8_9, zv_0_330, zv_0_4544, zv_1_4544, zv_2_4544, zv_3_4544, zv_4_4544, zv_5_4544, zv_6_4544, zv_7_4544, zv_8_4544, zv_9_4544, zv_10_4544, zv_11_4544, zv_12_4544, zv_13_4544, zv_14_4544, zv_15_4544, zv_16_4544, zv_17_4544, zv_18_4544, zv_19_4544, zv_20_4544, zv_21_4544, zv_22_4544, zv_23_4544, zv_24_4544, zv_25_4544, zv_26_4544, zv_27_4544, zv_28_4544, zv_29_4544, zv_0_11, zv_1_11, zv_0_160, true_and, and_true, Nat.reduceAdd, n0]
      refine ⟨fun h => absurd h (nI_ge (by omega) (by omega)), fun _ => ?_⟩
      refine zm_R_eq (c_daysOf hE d hF hto hp (by omega) hab) ?_
      have b9 := zr_B_9 c2
      have d9 := zr_D_9 be
      simp only [bX12_nextOf_5, zw_0, zw_1, zs_iload4, zs_aloadn0, zs_aloadNn0, zg_12_7, zs_iconst, zs_iaload, zs_icge, zs_iloadn1, zs_iloadn3, zi_12_418, zs_istore5, zs_iload5, zdw_12_417, zg_12_50, zs_iadd, zs_icne, zs_ireturn, zc_none, zc_int, zc_ref, zc_null, zc_long, zh_0, zh_1, zh_2, zh_3, zh_4, zt_i, zt_l, zt_r, zt_n, zn_int, zn_b0, zn_b1, zb_0, za_1, za_2, za_3, za_4, za_5, za_6, za_7, za_8, za_9, za_10, za_11, za_12, za_13, za_14, zu_0, zu_1, zu_2, zu_3, zu_4, zu_5, zu_6, zu_7, zu_8, zu_9, zu_10, zu_11, zu_12, zu_13, zu_14, zu_15, zu_16, zu_17, zu_18, zu_19, zu_20, zu_21, zu_22, zu_23, zu_24, zu_25, zu_26, zu_27, zu_28, zu_29, zu_30, zu_90, zv_0_9, zv_1_9, zv_2_9, zv_3_9, zv_4_9, zv_5_9, zv_6_9, zv_7_9, zv_8_9, zv_0_330, zv_0_4544, zv_1_4544, zv_2_4544, zv_3_4544, zv_4_4544, zv_5_4544, zv_6_4544, zv_7_4544, zv_8_4544, zv_9_4544, zv_10_4544, zv_11_4544, zv_12_4544, zv_13_4544, zv_14_4544, zv_15_4544, zv_16_4544, zv_17_4544, zv_18_4544, zv_19_4544, zv_20_4544, zv_21_4544, zv_22_4544, zv_23_4544, zv_24_4544, zv_25_4544, zv_26_4544, zv_27_4544, zv_28_4544, zv_29_4544, zv_0_11, zv_1_11, zv_0_160, true_and, and_true, Nat.reduceAdd, b9, ve, ve2, de, vp, vp2, dp, d9]
      have reach := zr_reach (cs := cs) hw hto p hp (Or.inr hab)
      refine ⟨fun hz => next _ (by unfold zr_ok; exact decide_eq_false (by omega)), fun hz => ⟨fun h1000 => next _ (by unfold zr_ok; exact decide_eq_false (by omega)), fun h1000 => ?_⟩⟩
      have eB : zr_B (zr_c b cs to p e) = zr_c b cs to p e := by unfold zr_B; rw [if_neg hz]
      have eD : zr_D (zr_ds n b cs to e) = zr_ds n b cs to e := by unfold zr_D; rw [if_neg h1000]
      have pD : zr_D (zr_ds n b cs to p) = zr_ds n b cs to p := by unfold zr_D; rw [if_neg (by omega)]
      have eqd : (nI (zr_c b cs to p e + zr_ds n b cs to e) = nI (zr_ds n b cs to p)) = (zr_ds n b cs to e + zr_c b cs to p e = zr_ds n b cs to p) := by
        rw [Nat.add_comm]; exact propext (nI_eq (by omega) (by omega))
      rw [eB, eD, pD, nI_add, eqd]
      refine ⟨fun hnd => next _ (by unfold zr_ok; exact decide_eq_false (fun z => hnd z.2)), fun hyd => ?_⟩
      have hok : zr_ok (zr_c b cs to) (zr_ds n b cs to) p e = true := by unfold zr_ok; exact decide_eq_true ⟨by omega, hyd⟩
      rw [if_pos hok] at h
      rw [← h]
  refine h0 _ _ _ ?_
  simp only [bX12_nextOf_0, zw_0, zw_1, zs_iloadn2, zs_iconst, zs_iadd, zs_istore4, zc_none, zc_int, zc_ref, zc_null, zc_long, zb_0, za_1, za_2, za_3, za_4, za_5, za_6, za_7, za_8, za_9, za_10, za_11, za_12, za_13, za_14, true_and, and_true, Nat.reduceAdd, ha]
  exact loop (n - k) k none (by omega) rfl
