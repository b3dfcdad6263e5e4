/-! ===== years: the reference ===== -/
theorem zMs_R {n tn s : Nat} {b pr : Nat → Int32} {T : Nat → Option zD} {S S' : zW} {H : Nat → zW} {M M' : zm_M} (hA : ∀ i, i < s → zw_i n b (H i)) (h : zMs n tn b pr T S s H M) (hr : zR M M') (hS : zw_m M' S') : zMs n tn b pr T S' s H M' := zMs_g h (zmg_R hr) hS (zk_m_R (fun i hi => (hA i hi).1) h.2.2.2.2.1 hr)
theorem c_happens {E : zm_E} (hE : zm_ok E.2.2.1 E.2.2.2.2) (d : Nat) {n tn s X : Nat} (hX : X < 30539) {b pr : Nat → Int32} {T : Nat → Option zD} {S : zW} {H : Nat → zW} {M : zm_M} (hA : zAl n b T S s H) (hC : zMs n tn b pr T S s H M) {Q : Option Value → zm_M → Prop} (q : ∀ M', zMs n tn b pr T (ze_hap n b pr T X S) s H M' → zmg M M' → Q none M') : zm_R E (d + 8) mX12_happens [.ref 0, .int (nI X)] M Q := by
  refine zX12_happens hE rfl (fun G h0 h24 h25 h35 h69 h80 h84 h105 => ?_)
  show G 0 [some (.ref 0), some (.int (nI X)), none] [] M
  have hn := hA.1.1
  have m0 : M.1 1 0 = nI n := hC.1.2.1
  have n0 : (nI n = 0) = (n = 0) := propext (nI_eq (b := 0) (by omega) (by decide))
  have r5 : nI X - nI X / 5 * 5 = nI (X % 5) := pk_rem (d := 5) (by omega) (by decide) (by decide)
  have r4 : nI X - nI X / 4 * 4 = nI (X % 4) := pk_rem (d := 4) (by omega) (by decide) (by decide)
  have r20 : nI X - nI X / 20 * 20 = nI (X % 20) := pk_rem (d := 20) (by omega) (by decide) (by decide)
  have x1 : (nI (X % 5) = 1) = (X % 5 = 1) := propext (nI_eq (b := 1) (by omega) (by decide))
  have xl : (nI (X % 5) ≤ 1) = (X % 5 ≤ 1) := propext (nI_leI (b := 1) (by omega) (by decide))
  have fin : ∀ (M1 : zm_M) lv, zMs n tn b pr T (ze_hap n b pr T X S) s H M1 → zmg M M1 → G 105 lv [] M1 := by
    intro M1 lv a1 a2
    refine h105 _ _ _ ?_
    simp only [bX12_happens_105, zw_0, zw_1, zs_return, zn_int, zn_b0, zn_b1, zb_0, za_1, za_2, za_3, za_4, za_5, za_6, za_7, za_8, za_9, za_10, za_11, za_12, za_13, za_14, true_and, and_true, Nat.reduceAdd]
    exact q M1 a1 a2
  refine h0 _ _ _ ?_
  simp only [bX12_happens_0, zw_0, zw_1, zs_iloadn1, zs_iconst, zs_irem, zs_icle, zs_aloadn0, zs_aloadNn0, zg_12_7, zs_bipush, zs_iaload, zs_sipush, zs_icge, zi_12_368, zh_0, zh_1, zh_2, zh_3, zh_4, zt_i, zt_l, zt_r, zt_n, zb_0, za_1, za_2, za_3, za_4, za_5, za_6, za_7, za_8, za_9, za_10, za_11, za_12, za_13, za_14, zu_0, zu_1, zu_2, zu_3, zu_4, zu_5, zu_6, zu_7, zu_8, zu_9, zu_10, zu_11, zu_12, zu_13, zu_14, zu_15, zu_16, zu_17, zu_18, zu_19, zu_20, zu_21, zu_22, zu_23, zu_24, zu_25, zu_26, zu_27, zu_28, zu_29, zu_30, zu_90, zv_0_9, zv_1_9, zv_2_9, zv_3_9, zv_4_9, zv_5_9, zv_6_9, zv_7_9, zv_8_9, zv_0_330, zv_0_4544, zv_1_4544, zv_2_4544, zv_3_4544, zv_4_4544, zv_5_4544, zv_6_4544, zv_7_4544, zv_8_4544, zv_9_4544, zv_10_4544, zv_11_4544, zv_12_4544, zv_13_4544, zv_14_4544, zv_15_4544, zv_16_4544, zv_17_4544, zv_18_4544, zv_19_4544, zv_20_4544, zv_21_4544, zv_22_4544, zv_23_4544, zv_24_4544, zv_25_4544, zv_26_4544, zv_27_4544, zv_28_4544, zv_29_4544, zv_0_11, zv_1_11, zv_0_160, true_and, and_true, Nat.reduceAdd, r5, xl]
  refine ⟨by decide, fun hle => ?_, fun hgt => ?_⟩
  · refine h25 _ _ _ ?_
    simp only [bX12_happens_25, zw_0, zw_1, zs_aloadn0, zs_aloadNn0, zg_12_7, zs_iconst, zs_iaload, zs_ifne, zs_return, zn_int, zn_b0, zn_b1, zb_0, za_1, za_2, za_3, za_4, za_5, za_6, za_7, za_8, za_9, za_10, za_11, za_12, za_13, za_14, zu_0, zu_1, zu_2, zu_3, zu_4, zu_5, zu_6, zu_7, zu_8, zu_9, zu_10, zu_11, zu_12, zu_13, zu_14, zu_15, zu_16, zu_17, zu_18, zu_19, zu_20, zu_21, zu_22, zu_23, zu_24, zu_25, zu_26, zu_27, zu_28, zu_29, zu_30, zu_90, zv_0_9, zv_1_9, zv_2_9, zv_3_9, zv_4_9, zv_5_9, zv_6_9, zv_7_9, zv_8_9, zv_0_330, zv_0_4544, zv_1_4544, zv_2_4544, zv_3_4544, zv_4_4544, zv_5_4544, zv_6_4544, zv_7_4544, zv_8_4544, zv_9_4544, zv_10_4544, zv_11_4544, zv_12_4544, zv_13_4544, zv_14_4544, zv_15_4544, zv_16_4544, zv_17_4544, zv_18_4544, zv_19_4544, zv_20_4544, zv_21_4544, zv_22_4544, zv_23_4544, zv_24_4544, zv_25_4544, zv_26_4544, zv_27_4544, zv_28_4544, zv_29_4544, zv_0_11, zv_1_11, zv_0_160, true_and, and_true, Nat.reduceAdd, m0, n0]
    refine ⟨fun hn0 => ?_, fun hn0 => ?_⟩
    · have rn : nI X - nI X / nI n * nI n = nI (X % n) := pk_rem (d := n) (by omega) (by omega) (by omega)
      have hlt : X % n < n := Nat.mod_lt _ (by omega)
      obtain ⟨v1, v2⟩ := zx_ck (k := 10) (p := X % n) (N := 4544) (by omega) (by decide)
      refine h35 _ _ _ ?_
      simp only [bX12_happens_35, zw_0, zw_1, zs_iloadn1, zs_aloadn0, zs_aloadNn0, zg_12_7, zs_iconst, zs_iaload, zs_irem, zs_istoren2, zs_icne, zs_bipush, zs_iloadn2, zs_iadd, zs_ifne, zs_goto, zc_none, zc_int, zc_ref, zc_null, zc_long, zb_0, za_1, za_2, za_3, za_4, za_5, za_6, za_7, za_8, za_9, za_10, za_11, za_12, za_13, za_14, zu_0, zu_1, zu_2, zu_3, zu_4, zu_5, zu_6, zu_7, zu_8, zu_9, zu_10, zu_11, zu_12, zu_13, zu_14, zu_15, zu_16, zu_17, zu_18, zu_19, zu_20, zu_21, zu_22, zu_23, zu_24, zu_25, zu_26, zu_27, zu_28, zu_29, zu_30, zu_90, zv_0_9, zv_1_9, zv_2_9, zv_3_9, zv_4_9, zv_5_9, zv_6_9, zv_7_9, zv_8_9, zv_0_330, zv_0_4544, zv_1_4544, zv_2_4544, zv_3_4544, zv_4_4544, zv_5_4544, zv_6_4544, zv_7_4544, zv_8_4544, zv_9_4544, zv_10_4544, zv_11_4544, zv_12_4544, zv_13_4544, zv_14_4544, zv_15_4544, zv_16_4544, zv_17_4544, zv_18_4544, zv_19_4544, zv_20_4544, zv_21_4544, zv_22_4544, zv_23_4544, zv_24_4544, zv_25_4544, zv_26_4544, zv_27_4544, zv_28_4544, zv_29_4544, zv_0_11, zv_1_11, zv_0_160, true_and, and_true, Nat.reduceAdd, m0, n0, rn, r5, x1, zx_10, r4]
      refine ⟨hn0, by decide, fun ne1 => ?_, fun e1 => ⟨by decide, ?_⟩⟩
      · have e0 : X % 5 = 0 := by omega
        have cw : zo_cw n (fun i => M.1 1 (90 + i)) (zWn S) (nI (X % n)) 0 = zo_cw n b (zWn S) (nI (X % n)) 0 := by
          unfold zo_cw
          by_cases c1 : zo_is n (nI (X % n)) = true
          · by_cases c2 : zo_is n 0 = true
            · obtain ⟨f, hf, ef⟩ := zo_of c1 (by omega)
              obtain ⟨t, ht, et⟩ := zo_of c2 (by omega)
              rw [ef, et, nI_clamp (by omega), nI_clamp (by omega), zt_ab_c hC.1.1 hC.1.2.2.1 ht f hf]
            · simp [c2]
          · simp [c1]
        refine h84 _ _ _ ?_
        simp only [bX12_happens_84, zw_0, zw_1, zs_aloadn0, zs_aloadNn0, zs_iloadn2, zs_iconst, zi_12_353, zs_ifeq, zs_iloadn1, zs_bipush, zs_irem, zs_iadd, zi_12_359, zh_0, zh_1, zh_2, zh_3, zh_4, zt_i, zt_l, zt_r, zt_n, zb_0, za_1, za_2, za_3, za_4, za_5, za_6, za_7, za_8, za_9, za_10, za_11, za_12, za_13, za_14, true_and, and_true, Nat.reduceAdd]
        refine zm_R_eq (c_canWrong hE (d + 4) hA.2.2.1.1.1 (nI (X % n)) 0 hC.1.1 m0 hC.2.2.2.1.2.2.1) ?_
        rw [cw]
        simp only [bX12_happens_84, zw_0, zw_1, zs_aloadn0, zs_aloadNn0, zs_iloadn2, zs_iconst, zi_12_353, zs_ifeq, zs_iloadn1, zs_bipush, zs_irem, zs_iadd, zi_12_359, zh_0, zh_1, zh_2, zh_3, zh_4, zt_i, zt_l, zt_r, zt_n, zb_0, za_1, za_2, za_3, za_4, za_5, za_6, za_7, za_8, za_9, za_10, za_11, za_12, za_13, za_14, true_and, and_true, Nat.reduceAdd, zi_b0, r20]
        refine ⟨fun h => fin M _ ?_ zmg_refl, fun h => ⟨by decide, ?_⟩⟩
        · unfold ze_hap; rw [if_pos e0, if_neg hn0, if_neg (by rw [h]; decide)]; exact hC
        · have h : zo_cw n b (zWn S) (nI (X % n)) 0 = true := by simpa using h
          refine c_wrongNow hE (d + 5) _ _ _ hA.2.2.1.1 (zo_cw_m h) hC.2.2.2.1 (fun M1 a1 a2 => ?_)
          simp only [bX12_happens_84, zw_0, zw_1, zs_aloadn0, zs_aloadNn0, zs_iloadn2, zs_iconst, zi_12_353, zs_ifeq, zs_iloadn1, zs_bipush, zs_irem, zs_iadd, zi_12_359, zh_0, zh_1, zh_2, zh_3, zh_4, zt_i, zt_l, zt_r, zt_n, zb_0, za_1, za_2, za_3, za_4, za_5, za_6, za_7, za_8, za_9, za_10, za_11, za_12, za_13, za_14, true_and, and_true, Nat.reduceAdd]
          have R1 := zR_h a2
          have e1 : (1 : Int32) + nI (X % 20) = nI (1 + X % 20) := nI_add 1 _
          rw [e1] at a1
          refine fin M1 _ ?_ (zmg_R R1)
          unfold ze_hap; rw [if_pos e0, if_neg hn0, if_pos h]
          exact zMs_R hA.2.2.2 hC R1 a1
      · have put : ∀ v, v = (if nI (X % 4) = 0 then 0 else zWd S + nI (X % 4)) → G 80 [some (.ref 0), some (.int (nI X)), some (.int (nI (X % n)))] [.int v, .int (nI (10 + X % n)), .ref 1] M := by
          intro v hv
          refine h80 _ _ _ ?_
          simp only [bX12_happens_80, zw_0, zw_1, zs_iastore, zs_goto, zb_0, za_1, za_2, za_3, za_4, za_5, za_6, za_7, za_8, za_9, za_10, za_11, za_12, za_13, za_14, zu_0, zu_1, zu_2, zu_3, zu_4, zu_5, zu_6, zu_7, zu_8, zu_9, zu_10, zu_11, zu_12, zu_13, zu_14, zu_15, zu_16, zu_17, zu_18, zu_19, zu_20, zu_21, zu_22, zu_23, zu_24, zu_25, zu_26, zu_27, zu_28, zu_29, zu_30, zu_90, zv_0_9, zv_1_9, zv_2_9, zv_3_9, zv_4_9, zv_5_9, zv_6_9, zv_7_9, zv_8_9, zv_0_330, zv_0_4544, zv_1_4544, zv_2_4544, zv_3_4544, zv_4_4544, zv_5_4544, zv_6_4544, zv_7_4544, zv_8_4544, zv_9_4544, zv_10_4544, zv_11_4544, zv_12_4544, zv_13_4544, zv_14_4544, zv_15_4544, zv_16_4544, zv_17_4544, zv_18_4544, zv_19_4544, zv_20_4544, zv_21_4544, zv_22_4544, zv_23_4544, zv_24_4544, zv_25_4544, zv_26_4544, zv_27_4544, zv_28_4544, zv_29_4544, zv_0_11, zv_1_11, zv_0_160, true_and, and_true, Nat.reduceAdd, v1, v2]
          have hh : zh [] M (zm_wi M 1 (10 + X % n) v) := zh_wi zh_refl (Or.inl (by omega))
          have R1 := zR_h hh
          refine fin _ _ ?_ (zmg_R R1)
          unfold ze_hap; rw [if_neg (by omega), if_pos e1, if_neg hn0, ← hv]
          exact zMs_R hA.2.2.2 hC R1 (zw_m_lv hA.2.2.1.1 hC.2.2.2.1 (by omega) v)
        refine ⟨fun hne => ?_, fun hz => put _ (by rw [if_pos hz])⟩
        have m6 : M.1 1 6 = zWd S := hC.2.2.2.1.1
        refine h69 _ _ _ ?_
        simp only [bX12_happens_69, zw_0, zw_1, zs_aloadn0, zs_aloadNn0, zg_12_7, zs_bipush, zs_iaload, zs_iloadn1, zs_iconst, zs_irem, zs_iadd, zb_0, za_1, za_2, za_3, za_4, za_5, za_6, za_7, za_8, za_9, za_10, za_11, za_12, za_13, za_14, zu_0, zu_1, zu_2, zu_3, zu_4, zu_5, zu_6, zu_7, zu_8, zu_9, zu_10, zu_11, zu_12, zu_13, zu_14, zu_15, zu_16, zu_17, zu_18, zu_19, zu_20, zu_21, zu_22, zu_23, zu_24, zu_25, zu_26, zu_27, zu_28, zu_29, zu_30, zu_90, zv_0_9, zv_1_9, zv_2_9, zv_3_9, zv_4_9, zv_5_9, zv_6_9, zv_7_9, zv_8_9, zv_0_330, zv_0_4544, zv_1_4544, zv_2_4544, zv_3_4544, zv_4_4544, zv_5_4544, zv_6_4544, zv_7_4544, zv_8_4544, zv_9_4544, zv_10_4544, zv_11_4544, zv_12_4544, zv_13_4544, zv_14_4544, zv_15_4544, zv_16_4544, zv_17_4544, zv_18_4544, zv_19_4544, zv_20_4544, zv_21_4544, zv_22_4544, zv_23_4544, zv_24_4544, zv_25_4544, zv_26_4544, zv_27_4544, zv_28_4544, zv_29_4544, zv_0_11, zv_1_11, zv_0_160, true_and, and_true, Nat.reduceAdd, m6, r4]
        exact ⟨by decide, put _ (by rw [if_neg hne])⟩
    · refine q M ?_ zmg_refl
      unfold ze_hap
      by_cases e0 : X % 5 = 0
      · rw [if_pos e0, if_pos hn0]; exact hC
      · rw [if_neg e0, if_pos (by omega), if_pos hn0]; exact hC
  · obtain ⟨dd, d1, d2, d3⟩ := zw_d9 hA.2.2.1
    have m6 : M.1 1 6 = nI dd := by rw [← d2]; exact hC.2.2.2.1.1
    have c9 : ((9999 : Int32) ≤ nI dd) = (9999 ≤ dd) := propext (nI_leI (a := 9999) (by decide) (by omega))
    rw [m6, c9]
    have fin24 : ∀ (M1 : zm_M) lv, zMs n tn b pr T (ze_hap n b pr T X S) s H M1 → zmg M M1 → G 24 lv [] M1 := by
      intro M1 lv a1 a2
      refine h24 _ _ _ ?_
      simp only [bX12_happens_24, zw_0, zw_1, zs_return, zn_int, zn_b0, zn_b1, zb_0, za_1, za_2, za_3, za_4, za_5, za_6, za_7, za_8, za_9, za_10, za_11, za_12, za_13, za_14, true_and, and_true, Nat.reduceAdd]
      exact q M1 a1 a2
    refine ⟨fun h9 => fin24 M _ ?_ zmg_refl, fun h9 => ?_⟩
    · unfold ze_hap; rw [if_neg (by omega), if_neg (by omega), if_pos (d3.mpr (by omega))]; exact hC
    · obtain ⟨P, hP⟩ := zx_ex (M.1 0 25)
      obtain ⟨c, hc⟩ := zx_ex (M.1 0 24)
      refine c_pass hE d (wr := true) (c := c) (P := P) (tx := M.1 1 2) hC.1 rfl hC.2.2.2.2.2 hc hP hC.2.2.1 hA.2.1 hA.2.2.1 hC.2.2.2.1 (fun M3 b1 b2 b3 b4 => ?_)
      simp only [bX12_happens_0, zw_0, zw_1, zs_iloadn1, zs_iconst, zs_irem, zs_icle, zs_aloadn0, zs_aloadNn0, zg_12_7, zs_bipush, zs_iaload, zs_sipush, zs_icge, zi_12_368, zh_0, zh_1, zh_2, zh_3, zh_4, zt_i, zt_l, zt_r, zt_n, zb_0, za_1, za_2, za_3, za_4, za_5, za_6, za_7, za_8, za_9, za_10, za_11, za_12, za_13, za_14, zu_0, zu_1, zu_2, zu_3, zu_4, zu_5, zu_6, zu_7, zu_8, zu_9, zu_10, zu_11, zu_12, zu_13, zu_14, zu_15, zu_16, zu_17, zu_18, zu_19, zu_20, zu_21, zu_22, zu_23, zu_24, zu_25, zu_26, zu_27, zu_28, zu_29, zu_30, zu_90, zv_0_9, zv_1_9, zv_2_9, zv_3_9, zv_4_9, zv_5_9, zv_6_9, zv_7_9, zv_8_9, zv_0_330, zv_0_4544, zv_1_4544, zv_2_4544, zv_3_4544, zv_4_4544, zv_5_4544, zv_6_4544, zv_7_4544, zv_8_4544, zv_9_4544, zv_10_4544, zv_11_4544, zv_12_4544, zv_13_4544, zv_14_4544, zv_15_4544, zv_16_4544, zv_17_4544, zv_18_4544, zv_19_4544, zv_20_4544, zv_21_4544, zv_22_4544, zv_23_4544, zv_24_4544, zv_25_4544, zv_26_4544, zv_27_4544, zv_28_4544, zv_29_4544, zv_0_11, zv_1_11, zv_0_160, true_and, and_true, Nat.reduceAdd]
      refine fin24 M3 _ ?_ (zmg_R b4)
      unfold ze_hap; rw [if_neg (by omega), if_neg (by omega), if_neg (fun z => h9 (by have := d3.mp z; omega))]
      exact zMs_R hA.2.2.2 hC b4 b1
theorem c_years {E : zm_E} (hE : zm_ok E.2.2.1 E.2.2.2.2) (d : Nat) {n tn s : Nat} (v m : Int32) {b pr : Nat → Int32} {T : Nat → Option zD} {S : zW} {H : Nat → zW} {M : zm_M} (hA : zAl n b T S s H) (hC : zMs n tn b pr T S s H M) {Q : Option Value → zm_M → Prop} (q1 : (zi_in v 0 9999 = 0 ∨ zi_in m 1 40 = 0) → Q (some (.int (-1))) M) (q2 : ∀ x f M', x ≤ 9999 → 1 ≤ f → f ≤ 40 → v = nI x → m = nI f → zMs n tn b pr T (ze_yrs n b pr T f (ze_sx S (nI (x * 2 + 181)))) (zk_n s) (zk_ps s H S) M' → zmg M M' → Q (some (.int (zWd (ze_yrs n b pr T f (ze_sx S (nI (x * 2 + 181))))))) M') : zm_R E (d + 9) mX12_years [.ref 0, .int v, .int m] M Q := by
  refine zX12_years hE rfl (fun G h0 h21 h23 h43 h73 => ?_)
  show G 0 [some (.ref 0), some (.int v), some (.int m), none, none] [] M
  have bad : (zi_in v 0 9999 = 0 ∨ zi_in m 1 40 = 0) → G 21 [some (.ref 0), some (.int v), some (.int m), none, none] [] M := by
    intro h
    refine h21 _ _ _ ?_
    simp only [bX12_years_21, zw_0, zw_1, zs_iconst, zs_ireturn, zn_int, zn_b0, zn_b1, zb_0, za_1, za_2, za_3, za_4, za_5, za_6, za_7, za_8, za_9, za_10, za_11, za_12, za_13, za_14, true_and, and_true, Nat.reduceAdd]
    exact q1 h
  refine h0 _ _ _ ?_
  simp only [bX12_years_0, zw_0, zw_1, zs_iloadn1, zs_iconst, zs_sipush, zi_12_69, zs_ifeq, zs_iloadn2, zs_bipush, zs_ifne, zh_0, zh_1, zh_2, zh_3, zh_4, zt_i, zt_l, zt_r, zt_n, zb_0, za_1, za_2, za_3, za_4, za_5, za_6, za_7, za_8, za_9, za_10, za_11, za_12, za_13, za_14, true_and, and_true, Nat.reduceAdd]
  refine zm_R_eq (c_isIn hE (d + 7) v 0 9999 M) ?_
  simp only [bX12_years_0, zw_0, zw_1, zs_iloadn1, zs_iconst, zs_sipush, zi_12_69, zs_ifeq, zs_iloadn2, zs_bipush, zs_ifne, zh_0, zh_1, zh_2, zh_3, zh_4, zt_i, zt_l, zt_r, zt_n, zb_0, za_1, za_2, za_3, za_4, za_5, za_6, za_7, za_8, za_9, za_10, za_11, za_12, za_13, za_14, true_and, and_true, Nat.reduceAdd]
  refine ⟨fun h => bad (Or.inl h), fun hv => ?_⟩
  refine zm_R_eq (c_isIn hE (d + 7) m 1 40 M) ?_
  simp only [bX12_years_0, zw_0, zw_1, zs_iloadn1, zs_iconst, zs_sipush, zi_12_69, zs_ifeq, zs_iloadn2, zs_bipush, zs_ifne, zh_0, zh_1, zh_2, zh_3, zh_4, zt_i, zt_l, zt_r, zt_n, zb_0, za_1, za_2, za_3, za_4, za_5, za_6, za_7, za_8, za_9, za_10, za_11, za_12, za_13, za_14, true_and, and_true, Nat.reduceAdd]
  refine ⟨fun hm => ?_, fun h => bad (Or.inr h)⟩
  obtain ⟨x, -, hx, rfl⟩ : ∃ f, 0 ≤ f ∧ f ≤ 9999 ∧ v = nI f := zi_1of (by decide) hv
  obtain ⟨f, hf1, hf2, rfl⟩ : ∃ f, 1 ≤ f ∧ f ≤ 40 ∧ m = nI f := zi_1of (by decide) hm
  have q2 := fun M' => q2 x f M' hx hf1 hf2 rfl rfl
  generalize hSF : ze_yrs n b pr T f (ze_sx S (nI (x * 2 + 181))) = SF at *
  have hA' : ∀ i, i < zk_n s → zw_i n b (zk_ps s H S i) := zk_i hA.2.2.1 hA.2.2.2
  have loop : ∀ (g i : Nat) (S1 : zW) (M1 : zm_M) (l4 : Option Value), i + g = f → zw_i n b S1 → zMs n tn b pr T S1 (zk_n s) (zk_ps s H S) M1 → zmg M M1 → ze_yrs n b pr T g S1 = SF → G 43 [some (.ref 0), some (.int (nI x)), some (.int (nI f)), some (.int (nI i)), l4] [] M1 := by
    intro g
    induction g with
    | zero =>
      intro i S1 M1 l4 hi hi1 hC1 g1 e
      have e : S1 = SF := e
      have m6 : M1.1 1 6 = zWd S1 := hC1.2.2.2.1.1
      refine h43 _ _ _ ?_
      simp only [bX12_years_43, zw_0, zw_1, zs_iloadn3, zs_iloadn2, zs_icge, zs_aloadn0, zs_aloadNn0, zg_12_7, zs_bipush, zs_iaload, zs_istore4, zi_12_323, zs_iload4, zi_12_392, zs_iinc3, zs_goto, zc_none, zc_int, zc_ref, zc_null, zc_long, zh_0, zh_1, zh_2, zh_3, zh_4, zt_i, zt_l, zt_r, zt_n, zb_0, za_1, za_2, za_3, za_4, za_5, za_6, za_7, za_8, za_9, za_10, za_11, za_12, za_13, za_14, zu_0, zu_1, zu_2, zu_3, zu_4, zu_5, zu_6, zu_7, zu_8, zu_9, zu_10, zu_11, zu_12, zu_13, zu_14, zu_15, zu_16, zu_17, zu_18, zu_19, zu_20, zu_21, zu_22, zu_23, zu_24, zu_25, zu_26, zu_27, zu_28, zu_29, zu_30, zu_90, zv_0_9, zv_1_9, zv_2_9, zv_3_9, zv_4_9, zv_5_9, zv_6_9, zv_7_9, zv_8_9, zv_0_330, zv_0_4544, zv_1_4544, zv_2_4544, zv_3_4544, zv_4_4544, zv_5_4544, zv_6_4544, zv_7_4544, zv_8_4544, zv_9_4544, zv_10_4544, zv_11_4544, zv_12_4544, zv_13_4544, zv_14_4544, zv_15_4544, zv_16_4544, zv_17_4544, zv_18_4544, zv_19_4544, zv_20_4544, zv_21_4544, zv_22_4544, zv_23_4544, zv_24_4544, zv_25_4544, zv_26_4544, zv_27_4544, zv_28_4544, zv_29_4544, zv_0_11, zv_1_11, zv_0_160, true_and, and_true, Nat.reduceAdd]
      refine ⟨fun _ => ?_, fun h => absurd (nI_le (by omega) (by omega)) h⟩
      refine h73 _ _ _ ?_
      simp only [bX12_years_73, zw_0, zw_1, zs_aloadn0, zs_aloadNn0, zg_12_7, zs_bipush, zs_iaload, zs_ireturn, zn_int, zn_b0, zn_b1, zb_0, za_1, za_2, za_3, za_4, za_5, za_6, za_7, za_8, za_9, za_10, za_11, za_12, za_13, za_14, zu_0, zu_1, zu_2, zu_3, zu_4, zu_5, zu_6, zu_7, zu_8, zu_9, zu_10, zu_11, zu_12, zu_13, zu_14, zu_15, zu_16, zu_17, zu_18, zu_19, zu_20, zu_21, zu_22, zu_23, zu_24, zu_25, zu_26, zu_27, zu_28, zu_29, zu_30, zu_90, zv_0_9, zv_1_9, zv_2_9, zv_3_9, zv_4_9, zv_5_9, zv_6_9, zv_7_9, zv_8_9, zv_0_330, zv_0_4544, zv_1_4544, zv_2_4544, zv_3_4544, zv_4_4544, zv_5_4544, zv_6_4544, zv_7_4544, zv_8_4544, zv_9_4544, zv_10_4544, zv_11_4544, zv_12_4544, zv_13_4544, zv_14_4544, zv_15_4544, zv_16_4544, zv_17_4544, zv_18_4544, zv_19_4544, zv_20_4544, zv_21_4544, zv_22_4544, zv_23_4544, zv_24_4544, zv_25_4544, zv_26_4544, zv_27_4544, zv_28_4544, zv_29_4544, zv_0_11, zv_1_11, zv_0_160, true_and, and_true, Nat.reduceAdd, m6]
      rw [e] at hC1 ⊢
      exact q2 M1 hC1 g1
    | succ g ih =>
      intro i S1 M1 l4 hi hi1 hC1 g1 e
      obtain ⟨ex, hx30⟩ := ze_xn_of hi1
      have m7 : M1.1 1 7 = nI (ze_xn S1) := by rw [← ex]; exact hC1.2.2.2.1.2.1
      refine h43 _ _ _ ?_
      simp only [bX12_years_43, zw_0, zw_1, zs_iloadn3, zs_iloadn2, zs_icge, zs_aloadn0, zs_aloadNn0, zg_12_7, zs_bipush, zs_iaload, zs_istore4, zi_12_323, zs_iload4, zi_12_392, zs_iinc3, zs_goto, zc_none, zc_int, zc_ref, zc_null, zc_long, zh_0, zh_1, zh_2, zh_3, zh_4, zt_i, zt_l, zt_r, zt_n, zb_0, za_1, za_2, za_3, za_4, za_5, za_6, za_7, za_8, za_9, za_10, za_11, za_12, za_13, za_14, zu_0, zu_1, zu_2, zu_3, zu_4, zu_5, zu_6, zu_7, zu_8, zu_9, zu_10, zu_11, zu_12, zu_13, zu_14, zu_15, zu_16, zu_17, zu_18, zu_19, zu_20, zu_21, zu_22, zu_23, zu_24, zu_25, zu_26, zu_27, zu_28, zu_29, zu_30, zu_90, zv_0_9, zv_1_9, zv_2_9, zv_3_9, zv_4_9, zv_5_9, zv_6_9, zv_7_9, zv_8_9, zv_0_330, zv_0_4544, zv_1_4544, zv_2_4544, zv_3_4544, zv_4_4544, zv_5_4544, zv_6_4544, zv_7_4544, zv_8_4544, zv_9_4544, zv_10_4544, zv_11_4544, zv_12_4544, zv_13_4544, zv_14_4544, zv_15_4544, zv_16_4544, zv_17_4544, zv_18_4544, zv_19_4544, zv_20_4544, zv_21_4544, zv_22_4544, zv_23_4544, zv_24_4544, zv_25_4544, zv_26_4544, zv_27_4544, zv_28_4544, zv_29_4544, zv_0_11, zv_1_11, zv_0_160, true_and, and_true, Nat.reduceAdd, m7]
      refine ⟨fun h => absurd h (nI_ge (by omega) (by omega)), fun _ => ?_⟩
      refine c_anew hE (d + 7) hx30 hi1.1 hC1.2.2.2.1 ex (fun M2 a1 a2 => ?_)
      have R2 := zR_h a2
      have C2 := zMs_R hA' hC1 R2 a1
      simp only [bX12_years_43, zw_0, zw_1, zs_iloadn3, zs_iloadn2, zs_icge, zs_aloadn0, zs_aloadNn0, zg_12_7, zs_bipush, zs_iaload, zs_istore4, zi_12_323, zs_iload4, zi_12_392, zs_iinc3, zs_goto, zc_none, zc_int, zc_ref, zc_null, zc_long, zh_0, zh_1, zh_2, zh_3, zh_4, zt_i, zt_l, zt_r, zt_n, zb_0, za_1, za_2, za_3, za_4, za_5, za_6, za_7, za_8, za_9, za_10, za_11, za_12, za_13, za_14, zu_0, zu_1, zu_2, zu_3, zu_4, zu_5, zu_6, zu_7, zu_8, zu_9, zu_10, zu_11, zu_12, zu_13, zu_14, zu_15, zu_16, zu_17, zu_18, zu_19, zu_20, zu_21, zu_22, zu_23, zu_24, zu_25, zu_26, zu_27, zu_28, zu_29, zu_30, zu_90, zv_0_9, zv_1_9, zv_2_9, zv_3_9, zv_4_9, zv_5_9, zv_6_9, zv_7_9, zv_8_9, zv_0_330, zv_0_4544, zv_1_4544, zv_2_4544, zv_3_4544, zv_4_4544, zv_5_4544, zv_6_4544, zv_7_4544, zv_8_4544, zv_9_4544, zv_10_4544, zv_11_4544, zv_12_4544, zv_13_4544, zv_14_4544, zv_15_4544, zv_16_4544, zv_17_4544, zv_18_4544, zv_19_4544, zv_20_4544, zv_21_4544, zv_22_4544, zv_23_4544, zv_24_4544, zv_25_4544, zv_26_4544, zv_27_4544, zv_28_4544, zv_29_4544, zv_0_11, zv_1_11, zv_0_160, true_and, and_true, Nat.reduceAdd]
      refine c_happens hE d hx30 ⟨hA.1, hA.2.1, zw_i_dr hi1, hA'⟩ C2 (fun M3 b1 b2 => ?_)
      simp only [bX12_years_43, zw_0, zw_1, zs_iloadn3, zs_iloadn2, zs_icge, zs_aloadn0, zs_aloadNn0, zg_12_7, zs_bipush, zs_iaload, zs_istore4, zi_12_323, zs_iload4, zi_12_392, zs_iinc3, zs_goto, zc_none, zc_int, zc_ref, zc_null, zc_long, zh_0, zh_1, zh_2, zh_3, zh_4, zt_i, zt_l, zt_r, zt_n, zb_0, za_1, za_2, za_3, za_4, za_5, za_6, za_7, za_8, za_9, za_10, za_11, za_12, za_13, za_14, zu_0, zu_1, zu_2, zu_3, zu_4, zu_5, zu_6, zu_7, zu_8, zu_9, zu_10, zu_11, zu_12, zu_13, zu_14, zu_15, zu_16, zu_17, zu_18, zu_19, zu_20, zu_21, zu_22, zu_23, zu_24, zu_25, zu_26, zu_27, zu_28, zu_29, zu_30, zu_90, zv_0_9, zv_1_9, zv_2_9, zv_3_9, zv_4_9, zv_5_9, zv_6_9, zv_7_9, zv_8_9, zv_0_330, zv_0_4544, zv_1_4544, zv_2_4544, zv_3_4544, zv_4_4544, zv_5_4544, zv_6_4544, zv_7_4544, zv_8_4544, zv_9_4544, zv_10_4544, zv_11_4544, zv_12_4544, zv_13_4544, zv_14_4544, zv_15_4544, zv_16_4544, zv_17_4544, zv_18_4544, zv_19_4544, zv_20_4544, zv_21_4544, zv_22_4544, zv_23_4544, zv_24_4544, zv_25_4544, zv_26_4544, zv_27_4544, zv_28_4544, zv_29_4544, zv_0_11, zv_1_11, zv_0_160, true_and, and_true, Nat.reduceAdd, nI_1]
      exact ih (i + 1) _ M3 _ (by omega) (ze_hap_i hA.1 (zw_i_dr hi1)) b1 (zmg_trans g1 (zmg_trans (zmg_R R2) b2)) e
  refine h23 _ _ _ ?_
  simp only [bX12_years_23, zw_0, zw_1, zs_aloadn0, zs_aloadNn0, zi_12_356, zg_12_7, zs_bipush, zs_iloadn1, zs_iconst, zs_imul, zs_sipush, zs_iadd, zs_iastore, zs_istoren3, zc_none, zc_int, zc_ref, zc_null, zc_long, zh_0, zh_1, zh_2, zh_3, zh_4, zt_i, zt_l, zt_r, zt_n, zb_0, za_1, za_2, za_3, za_4, za_5, za_6, za_7, za_8, za_9, za_10, za_11, za_12, za_13, za_14, zu_0, zu_1, zu_2, zu_3, zu_4, zu_5, zu_6, zu_7, zu_8, zu_9, zu_10, zu_11, zu_12, zu_13, zu_14, zu_15, zu_16, zu_17, zu_18, zu_19, zu_20, zu_21, zu_22, zu_23, zu_24, zu_25, zu_26, zu_27, zu_28, zu_29, zu_30, zu_90, zv_0_9, zv_1_9, zv_2_9, zv_3_9, zv_4_9, zv_5_9, zv_6_9, zv_7_9, zv_8_9, zv_0_330, zv_0_4544, zv_1_4544, zv_2_4544, zv_3_4544, zv_4_4544, zv_5_4544, zv_6_4544, zv_7_4544, zv_8_4544, zv_9_4544, zv_10_4544, zv_11_4544, zv_12_4544, zv_13_4544, zv_14_4544, zv_15_4544, zv_16_4544, zv_17_4544, zv_18_4544, zv_19_4544, zv_20_4544, zv_21_4544, zv_22_4544, zv_23_4544, zv_24_4544, zv_25_4544, zv_26_4544, zv_27_4544, zv_28_4544, zv_29_4544, zv_0_11, zv_1_11, zv_0_160, true_and, and_true, Nat.reduceAdd]
  refine c_keep hE (d + 7) hA.2.2.1.1 (fun i hi => (hA.2.2.2 i hi).1) hC.2.2.2.1 hC.2.2.2.2.1 (fun M2 a1 a2 a3 a4 => ?_)
  have e2 : nI x * 2 + 181 = nI (x * 2 + 181) := by
    rw [show nI x * 2 = nI (x * 2) from pk_mul _ 2]; exact nI_add _ 181
  simp only [bX12_years_23, zw_0, zw_1, zs_aloadn0, zs_aloadNn0, zi_12_356, zg_12_7, zs_bipush, zs_iloadn1, zs_iconst, zs_imul, zs_sipush, zs_iadd, zs_iastore, zs_istoren3, zc_none, zc_int, zc_ref, zc_null, zc_long, zh_0, zh_1, zh_2, zh_3, zh_4, zt_i, zt_l, zt_r, zt_n, zb_0, za_1, za_2, za_3, za_4, za_5, za_6, za_7, za_8, za_9, za_10, za_11, za_12, za_13, za_14, zu_0, zu_1, zu_2, zu_3, zu_4, zu_5, zu_6, zu_7, zu_8, zu_9, zu_10, zu_11, zu_12, zu_13, zu_14, zu_15, zu_16, zu_17, zu_18, zu_19, zu_20, zu_21, zu_22, zu_23, zu_24, zu_25, zu_26, zu_27, zu_28, zu_29, zu_30, zu_90, zv_0_9, zv_1_9, zv_2_9, zv_3_9, zv_4_9, zv_5_9, zv_6_9, zv_7_9, zv_8_9, zv_0_330, zv_0_4544, zv_1_4544, zv_2_4544, zv_3_4544, zv_4_4544, zv_5_4544, zv_6_4544, zv_7_4544, zv_8_4544, zv_9_4544, zv_10_4544, zv_11_4544, zv_12_4544, zv_13_4544, zv_14_4544, zv_15_4544, zv_16_4544, zv_17_4544, zv_18_4544, zv_19_4544, zv_20_4544, zv_21_4544, zv_22_4544, zv_23_4544, zv_24_4544, zv_25_4544, zv_26_4544, zv_27_4544, zv_28_4544, zv_29_4544, zv_0_11, zv_1_11, zv_0_160, true_and, and_true, Nat.reduceAdd, e2]
  have g2 : zmg M M2 := zmg_m (zmf_k a3 a4)
  have C2 := zMs_g hC g2 a1 a2
  have hh : zh [] M2 (zm_wi M2 1 7 (nI (x * 2 + 181))) := zh_wi zh_refl (Or.inl (by omega))
  have R3 := zR_h hh
  exact loop f 0 _ _ none (by omega) (zw_i_sx hA.2.2.1 (by omega)) (zMs_R hA' C2 R3 (zw_set2 hA.2.2.1.1 a1 _)) (zmg_trans g2 (zmg_R R3)) hSF
