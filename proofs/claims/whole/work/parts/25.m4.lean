/-! ===== the reference: officers and cousins told ===== -/
theorem zm_R_eq {E : zm_E} {d : Nat} {me : zm_Me} {as : List Value} {M M1 : zm_M} {v : Option Value} {Q : Option Value → zm_M → Prop} (h : zm_R E d me as M (fun r M' => r = v ∧ M' = M1)) (hq : Q v M1) : zm_R E d me as M Q := zm_R_mono h (fun r M' z => by rw [z.1, z.2]; exact hq)
theorem zx_100 (p : Nat) : (100 : Int32) + nI p = nI (100 + p) := by rw [← nI_add]; rfl
theorem zx_110 (p : Nat) : (110 : Int32) + nI p = nI (110 + p) := by rw [← nI_add]; rfl
theorem zx_120 (p : Nat) : (120 : Int32) + nI p = nI (120 + p) := by rw [← nI_add]; rfl
theorem zx_128 (p : Nat) : (128 : Int32) + nI p = nI (128 + p) := by rw [← nI_add]; rfl
theorem zx_10 (p : Nat) : (10 : Int32) + nI p = nI (10 + p) := by rw [← nI_add]; rfl
theorem zx_ck {k p N : Nat} (h : k + p < N) (hN : N < 2 ^ 31) : vp_in (nI (k + p)) N ∧ (nI (k + p)).toNatClampNeg = k + p := ⟨vp_in_nI h hN, nI_clamp (by omega)⟩
theorem zi_b0 (x : Bool) : (zi_b x = 0) = (x = false) := by cases x <;> simp [zi_b]
def zo_bad (n : Nat) (bs pr : Int32) : Prop := n = 10 ∨ (if n = 0 then ¬ bs = -1 else zo_is n bs = false) ∨ zi_in pr 0 9 = 0
theorem zi_in01 (a b c : Int32) : zi_in a b c = 0 ∨ zi_in a b c = 1 := by
  unfold zi_in
  split
  · exact Or.inl rfl
  · split
    · exact Or.inl rfl
    · exact Or.inr rfl

theorem c_officer {E : zm_E} (hE : zm_ok E.2.2.1 E.2.2.2.2) (d : Nat) {n : Nat} (hn : n ≤ 10) (bs pr : Int32) {M : zm_M} (hc : M.1 1 0 = nI n) {Q : Option Value → zm_M → Prop} (q1 : zo_bad n bs pr → Q (some (.int (-1))) M) (q2 : ¬ zo_bad n bs pr → Q (some (.int (nI n))) (zm_wi (zm_wi (zm_wi (zm_wi M 1 (90 + n) bs) 1 (100 + n) pr) 1 (110 + n) 0) 1 0 (nI (n + 1)))) : zm_R E (d + 3) mX12_officer [.ref 0, .int bs, .int pr] M Q := by
  refine zX12_officer hE rfl (fun G h0 h25 h33 h43 h45 => ?_)
  show G 0 [some (.ref 0), some (.int bs), some (.int pr), none] [] M
  have bad : zo_bad n bs pr → G 43 [some (.ref 0), some (.int bs), some (.int pr), some (.int (nI n))] [] M := by
    intro hb
    refine h43 _ _ _ ?_
    simp only [bX12_officer_43, zw_0, zw_1, zs_iconst, zs_ireturn, zn_int, zn_b0, zn_b1, zb_0, za_1, za_2, za_3, za_4, za_5, za_6, za_7, za_8, za_9, za_10, za_11, za_12, za_13, za_14, true_and, and_true, Nat.reduceAdd]
    exact q1 hb
  have good : ¬ n = 10 → ¬ (if n = 0 then ¬ bs = -1 else zo_is n bs = false) → G 33 [some (.ref 0), some (.int bs), some (.int pr), some (.int (nI n))] [] M := by
    intro g1 g2
    refine h33 _ _ _ ?_
    simp only [bX12_officer_33, zw_0, zw_1, zs_iloadn2, zs_iconst, zs_bipush, zi_12_69, zs_ifne, zh_0, zh_1, zh_2, zh_3, zh_4, zt_i, zt_l, zt_r, zt_n, zb_0, za_1, za_2, za_3, za_4, za_5, za_6, za_7, za_8, za_9, za_10, za_11, za_12, za_13, za_14, true_and, and_true, Nat.reduceAdd]
    refine zm_R_eq (c_isIn hE (d + 1) pr 0 9 M) ?_
    simp only [bX12_officer_33, zw_0, zw_1, zs_iloadn2, zs_iconst, zs_bipush, zi_12_69, zs_ifne, zh_0, zh_1, zh_2, zh_3, zh_4, zt_i, zt_l, zt_r, zt_n, zb_0, za_1, za_2, za_3, za_4, za_5, za_6, za_7, za_8, za_9, za_10, za_11, za_12, za_13, za_14, true_and, and_true, Nat.reduceAdd]
    refine ⟨fun h => ?_, fun h => bad (Or.inr (Or.inr h))⟩
    refine h45 _ _ _ ?_
    obtain ⟨i1, i2⟩ := zx_ck (k := 90) (p := n) (N := 4544) (by omega) (by decide)
    obtain ⟨j1, j2⟩ := zx_ck (k := 100) (p := n) (N := 4544) (by omega) (by decide)
    obtain ⟨k1, k2⟩ := zx_ck (k := 110) (p := n) (N := 4544) (by omega) (by decide)
    simp only [bX12_officer_45, zw_0, zw_1, zs_aloadn0, zs_aloadNn0, zg_12_7, zs_bipush, zs_iloadn3, zs_iadd, zs_iloadn1, zs_iastore, zs_iloadn2, zs_iconst, zs_dup2, zs_iaload, zs_ireturn, zn_int, zn_b0, zn_b1, zb_0, za_1, za_2, za_3, za_4, za_5, za_6, za_7, za_8, za_9, za_10, za_11, za_12, za_13, za_14, zu_0, zu_1, zu_2, zu_3, zu_4, zu_5, zu_6, zu_7, zu_8, zu_9, zu_10, zu_11, zu_12, zu_13, zu_14, zu_15, zu_16, zu_17, zu_18, zu_19, zu_20, zu_21, zu_22, zu_23, zu_24, zu_25, zu_26, zu_27, zu_28, zu_29, zu_30, zu_90, zv_0_9, zv_1_9, zv_2_9, zv_3_9, zv_4_9, zv_5_9, zv_6_9, zv_7_9, zv_8_9, zv_0_330, zv_0_4544, zv_1_4544, zv_2_4544, zv_3_4544, zv_4_4544, zv_5_4544, zv_6_4544, zv_7_4544, zv_8_4544, zv_9_4544, zv_10_4544, zv_11_4544, zv_12_4544, zv_13_4544, zv_14_4544, zv_15_4544, zv_16_4544, zv_17_4544, zv_18_4544, zv_19_4544, zv_20_4544, zv_21_4544, zv_22_4544, zv_23_4544, zv_24_4544, zv_25_4544, zv_26_4544, zv_27_4544, zv_28_4544, zv_29_4544, zv_0_11, zv_1_11, zv_0_160, true_and, and_true, Nat.reduceAdd, zx_boss, zx_100, zx_110, i1, i2, j1, j2, k1, k2]
    have e0 : (zm_wi (zm_wi (zm_wi M 1 (90 + n) bs) 1 (100 + n) pr) 1 (110 + n) 0).1 1 0 = nI n := by
      simp only [zm_wi, zm_wa, if_true, upd]
      rw [if_neg (by omega), if_neg (by omega), if_neg (by omega)]
      exact hc
    rw [e0, nI_1]
    refine q2 (fun hb => ?_)
    rcases hb with z | z | z
    · exact g1 z
    · exact g2 z
    · exact h z
  have e10 : (nI n = 10) ↔ n = 10 := nI_eq (b := 10) (by omega) (by decide)
  have e00 : (nI n = 0) ↔ n = 0 := nI_eq (b := 0) (by omega) (by decide)
  refine h0 _ _ _ ?_
  simp only [bX12_officer_0, zw_0, zw_1, zs_aloadn0, zs_aloadNn0, zg_12_7, zs_iconst, zs_iaload, zs_istoren3, zs_iloadn3, zs_bipush, zs_iceq, zs_ifne, zs_iloadn1, zs_goto, zc_none, zc_int, zc_ref, zc_null, zc_long, zb_0, za_1, za_2, za_3, za_4, za_5, za_6, za_7, za_8, za_9, za_10, za_11, za_12, za_13, za_14, zu_0, zu_1, zu_2, zu_3, zu_4, zu_5, zu_6, zu_7, zu_8, zu_9, zu_10, zu_11, zu_12, zu_13, zu_14, zu_15, zu_16, zu_17, zu_18, zu_19, zu_20, zu_21, zu_22, zu_23, zu_24, zu_25, zu_26, zu_27, zu_28, zu_29, zu_30, zu_90, zv_0_9, zv_1_9, zv_2_9, zv_3_9, zv_4_9, zv_5_9, zv_6_9, zv_7_9, zv_8_9, zv_0_330, zv_0_4544, zv_1_4544, zv_2_4544, zv_3_4544, zv_4_4544, zv_5_4544, zv_6_4544, zv_7_4544, zv_8_4544, zv_9_4544, zv_10_4544, zv_11_4544, zv_12_4544, zv_13_4544, zv_14_4544, zv_15_4544, zv_16_4544, zv_17_4544, zv_18_4544, zv_19_4544, zv_20_4544, zv_21_4544, zv_22_4544, zv_23_4544, zv_24_4544, zv_25_4544, zv_26_4544, zv_27_4544, zv_28_4544, zv_29_4544, zv_0_11, zv_1_11, zv_0_160, true_and, and_true, Nat.reduceAdd, hc]
  refine ⟨fun h => bad (Or.inl (e10.mp h)), fun h10 => ⟨fun hne => ?_, fun h0' => ⟨fun hb => good (fun z => h10 (e10.mpr z)) ?_, fun hb => bad (Or.inr (Or.inl ?_))⟩⟩⟩
  · have hn0 : ¬ n = 0 := fun z => hne (e00.mpr z)
    refine h25 _ _ _ ?_
    simp only [bX12_officer_25, zw_0, zw_1, zs_aloadn0, zs_aloadNn0, zs_iloadn1, zi_12_73, zs_ifeq, zh_0, zh_1, zh_2, zh_3, zh_4, zt_i, zt_l, zt_r, zt_n, zb_0, za_1, za_2, za_3, za_4, za_5, za_6, za_7, za_8, za_9, za_10, za_11, za_12, za_13, za_14, true_and, and_true, Nat.reduceAdd]
    refine zm_R_eq (c_isOfficer hE d bs M) ?_
    rw [hc, zo_in (by omega)]
    simp only [bX12_officer_25, zw_0, zw_1, zs_aloadn0, zs_aloadNn0, zs_iloadn1, zi_12_73, zs_ifeq, zh_0, zh_1, zh_2, zh_3, zh_4, zt_i, zt_l, zt_r, zt_n, zb_0, za_1, za_2, za_3, za_4, za_5, za_6, za_7, za_8, za_9, za_10, za_11, za_12, za_13, za_14, true_and, and_true, Nat.reduceAdd]
    rw [zi_b0]
    refine ⟨fun h => bad (Or.inr (Or.inl (by rw [if_neg hn0]; exact h))), fun h => good (fun z => h10 (e10.mpr z)) (by rw [if_neg hn0]; exact h)⟩
  · rw [if_pos (e00.mp h0')]; exact fun z => z hb
  · rw [if_pos (e00.mp h0')]; exact hb
