/-! ===== years, of both ===== -/
theorem zw_i_beg {n : Nat} {b : Nat → Int32} {S : zW} {f t s : Nat} (h : zw_i n b S) (hn : zWn S < 10) (hf : f < n) (ht : t < n) (hab : zt_ab b t f = true) (hs : s ≤ 9999) : zw_i n b (zw_beg S (nI f) (nI t) (nI s)) := by
  obtain ⟨h1, h2, h3, h4, h5⟩ := h
  refine ⟨⟨by show zWn S + 1 ≤ 10; omega, h1.2⟩, h2, h3, fun k hk => ?_, h5⟩
  have hk : k < zWn S + 1 := hk
  by_cases c : k = zWn S
  · obtain ⟨dd, hdd, ed⟩ := h2
    refine ⟨f, t, f, s, 0, dd, if_pos c, if_pos c, if_pos c, if_pos c, if_pos c, ?_, hf, ht, hf, hs, by omega, hdd, hab, fun _ => hab, fun z => absurd z (by omega)⟩
    exact (if_pos c).trans ed
  · obtain ⟨f', t', a, s', hh, g, q⟩ := h4 k (by omega)
    refine ⟨f', t', a, s', hh, g, ?_⟩
    rw [zw_beg_o c, zw_beg_o c, zw_beg_o c, zw_beg_o c, zw_beg_o c, zw_beg_o c]
    exact q
theorem zw_i_lv {n : Nat} {b : Nat → Int32} {S : zW} {p : Nat} {v : Int32} (h : zw_i n b S) : zw_i n b (zw_lv S p v) := h
theorem zw_i_dr {n : Nat} {b : Nat → Int32} {S : zW} (h : zw_i n b S) : zw_i n b (zw_drw S) := by
  obtain ⟨h1, h2, ⟨X, hX, eX⟩, h4, h5⟩ := h
  obtain ⟨Y, hY, eY⟩ := zw_dr_lt hX
  exact ⟨h1, h2, ⟨Y, hY, by show zw_dr (zWx S) = nI Y; rw [eX]; exact eY⟩, h4, h5⟩
def ze_sx (S : zW) (v : Int32) : zW := (zWd S, v, zWn S, zWm S, zWa S, zWo S, zWb S)
theorem zw_i_sx {n X : Nat} {b : Nat → Int32} {S : zW} (h : zw_i n b S) (hX : X < 30539) : zw_i n b (ze_sx S (nI X)) := ⟨h.1, h.2.1, ⟨X, hX, rfl⟩, h.2.2.2.1, h.2.2.2.2⟩
/-- what a draw brings -/
def ze_hap (n : Nat) (b pr : Nat → Int32) (T : Nat → Option zD) (X : Nat) (S : zW) : zW :=
  if X % 5 = 0 then (if n = 0 then S else if zo_cw n b (zWn S) (nI (X % n)) 0 then zw_beg S (nI (X % n)) 0 (nI (1 + X % 20)) else S)
  else if X % 5 = 1 then (if n = 0 then S else zw_lv S (X % n) (if nI (X % 4) = 0 then 0 else zWd S + nI (X % 4)))
  else if zWd S = 9999 then S else ze_ps true n b pr T S
def ze_xn (S : zW) : Nat := (zWx S).toNatClampNeg
def ze_yrs (n : Nat) (b pr : Nat → Int32) (T : Nat → Option zD) : Nat → zW → zW
  | 0, S => S
  | f + 1, S => ze_yrs n b pr T f (ze_hap n b pr T (ze_xn S) (zw_drw S))
theorem zo_cw_of {n m : Nat} {b : Nat → Int32} {fr to : Int32} (hn : n ≤ 10) (h : zo_cw n b m fr to = true) : ∃ f t, f < n ∧ t < n ∧ fr = nI f ∧ to = nI t ∧ zt_ab b t f = true ∧ m < 10 := by
  unfold zo_cw at h
  simp only [Bool.and_eq_true, decide_eq_true_eq] at h
  obtain ⟨⟨⟨h1, h2⟩, h3⟩, h4⟩ := h
  obtain ⟨f, hf, rfl⟩ := zo_of h1 (by omega)
  obtain ⟨t, ht, rfl⟩ := zo_of h2 (by omega)
  rw [nI_clamp (by omega), nI_clamp (by omega)] at h3
  exact ⟨f, t, hf, ht, rfl, rfl, h3, h4⟩
theorem ze_hap_i {n X : Nat} {b pr : Nat → Int32} {T : Nat → Option zD} {S : zW} (hw : zt_wf n b) (h : zw_i n b S) : zw_i n b (ze_hap n b pr T X S) := by
  unfold ze_hap
  by_cases c0 : X % 5 = 0
  · rw [if_pos c0]
    by_cases cn : n = 0
    · rw [if_pos cn]; exact h
    · rw [if_neg cn]
      by_cases cw : zo_cw n b (zWn S) (nI (X % n)) 0 = true
      · rw [if_pos cw]
        obtain ⟨f, t, hf, ht, ef, et, hab, hm⟩ := zo_cw_of hw.1 cw
        rw [ef, et]
        exact zw_i_beg h hm hf ht hab (by omega)
      · rw [if_neg cw]; exact h
  · rw [if_neg c0]
    by_cases c1 : X % 5 = 1
    · rw [if_pos c1]
      by_cases cn : n = 0
      · rw [if_pos cn]; exact h
      · rw [if_neg cn]; exact zw_i_lv h
    · rw [if_neg c1]
      by_cases c9 : zWd S = 9999
      · rw [if_pos c9]; exact h
      · rw [if_neg c9]
        obtain ⟨dd, d1, d2, d3⟩ := zw_d9 h
        have : ¬ dd = 9999 := fun z => c9 (d3.mpr z)
        exact (ze_ps_i hw h d2 (by omega)).1
theorem ze_yrs_i {n : Nat} {b pr : Nat → Int32} {T : Nat → Option zD} (hw : zt_wf n b) : ∀ (f : Nat) (S : zW), zw_i n b S → zw_i n b (ze_yrs n b pr T f S) := by
  intro f
  induction f with
  | zero => intro S h; exact h
  | succ f ih => intro S h; exact ih _ (ze_hap_i hw (zw_i_dr h))
theorem ze_xn_of {n : Nat} {b : Nat → Int32} {S : zW} (h : zw_i n b S) : zWx S = nI (ze_xn S) ∧ ze_xn S < 30539 := by
  obtain ⟨X, hX, eX⟩ := h.2.2.1
  have : ze_xn S = X := by unfold ze_xn; rw [eX, nI_clamp (by omega)]
  rw [this]; exact ⟨eX, hX⟩
theorem zCs_w {n tn s : Nat} {b pr : Nat → Int32} {T : Nat → Option zD} {S S' : zW} {H : Nat → zW} {M M' : zm_M} (hA : ∀ i, i < s → zw_i n b (H i)) (hC : zCs n tn b pr T S s H M) (hS : zw_c M' 23 S') (hN : zN M') (hf : zf (zF 23) M M') : zCs n tn b pr T S' s H M' ∧ zcg M M' := by
  have g : zcg M M' := zcg_F hf
  obtain ⟨c1, c2, c3, c4, c5, c, c6⟩ := hC
  refine ⟨⟨zcs_9g c1 g, hN, by rw [g.2 6 (by decide)]; exact c3, ?_, hS, c, zk_c_g (fun i hi => (hA i hi).1) c6 (fun q hq => (hf q (zF_no (by omega) (by omega))).1)⟩, g⟩
  rw [zr_law_g g.2]
  exact zcs_Tg c4 g
theorem zN_w {M M' : zm_M} (h : zN M) (hf : zf (zw_L 23) M M') : zN M' := fun i hi => by rw [(hf 749 (by decide)).1]; exact h i hi
theorem c11_befallBy {E : zm_E} (hE : zm_ok E.2.2.1 E.2.2.2.2) (d : Nat) {n tn s X : Nat} (hX : X < 30539) {b pr : Nat → Int32} {T : Nat → Option zD} {S : zW} {H : Nat → zW} {M : zm_M} (htn : tn ≤ 4) (hA : zAl n b T S s H) (hC : zCs n tn b pr T S s H M) {Q : Option Value → zm_M → Prop} (q : ∀ M', zCs n tn b pr T (ze_hap n b pr T X S) s H M' → zcg M M' → Q none M') : zm_R E (d + 6) mX11_befallBy [.ref 15, .int (nI X)] M Q := by
  refine zX11_befallBy hE rfl (fun G h0 h27 h30 h60 h87 h114 h140 => ?_)
  show G 0 [some (.ref 15), some (.int (nI X)), none, none, none] [] M
  have hn := hA.1.1
  have m17 : M.1 17 0 = nI n := hC.1.2.1
  have n0 : (nI n = 0) = (n = 0) := propext (nI_eq (b := 0) (by omega) (by decide))
  have r5 : nI X - nI X / 5 * 5 = nI (X % 5) := pk_rem (d := 5) (by omega) (by decide) (by decide)
  have r4 : nI X - nI X / 4 * 4 = nI (X % 4) := pk_rem (d := 4) (by omega) (by decide) (by decide)
  have r20 : nI X - nI X / 20 * 20 = nI (X % 20) := pk_rem (d := 20) (by omega) (by decide) (by decide)
  have x0 : (nI (X % 5) = 0) = (X % 5 = 0) := propext (nI_eq (b := 0) (by omega) (by decide))
  have x1 : (nI (X % 5) = 1) = (X % 5 = 1) := propext (nI_eq (b := 1) (by omega) (by decide))
  have fin : ∀ (M1 : zm_M) lv, zCs n tn b pr T (ze_hap n b pr T X S) s H M1 → zcg M M1 → G 140 lv [] M1 := by
    intro M1 lv a1 a2
    refine h140 _ _ _ ?_
    simp only [bX11_befallBy_140, zw_0, zw_1, zs_return, zn_int, zn_b0, zn_b1, zb_15, zb_16, zb_17, za_18, za_19, za_20, za_21, za_22, zb_23, za_24, za_25, za_26, za_27, za_28, za_29, za_30, za_31, za_32, zb_35, za_36, za_37, za_38, za_39, za_40, zb_377, zb_378, za_379, za_380, za_381, za_382, za_383, zb_384, za_385, za_386, za_387, za_388, za_389, za_390, za_391, za_392, za_393, zb_396, za_397, za_398, za_399, za_400, za_401, zb_738, za_739, za_740, za_741, za_742, za_743, za_744, za_745, za_746, za_747, zb_748, za_749, za_750, zb_751, zb_752, za_753, za_754, za_755, za_756, zb_757, za_758, za_759, za_760, zb_761, za_763, za_764, za_765, true_and, and_true, Nat.reduceAdd]
    exact q M1 a1 a2
  have sw : ∀ (v : Int32), (v = if n = 0 then -1 else nI (X % n)) → G 30 [some (.ref 15), some (.int (nI X)), some (.ref 23), some (.int (nI n)), none] [.int v] M := by
    intro v hv
    refine h30 _ _ _ ?_
    simp only [bX11_befallBy_30, zw_0, zw_1, zs_istore4, zs_iloadn1, zs_iconst, zs_irem, zs_lsw, zm_sw, zc_none, zc_int, zc_ref, zc_null, zc_long, zb_15, zb_16, zb_17, za_18, za_19, za_20, za_21, za_22, zb_23, za_24, za_25, za_26, za_27, za_28, za_29, za_30, za_31, za_32, zb_35, za_36, za_37, za_38, za_39, za_40, zb_377, zb_378, za_379, za_380, za_381, za_382, za_383, zb_384, za_385, za_386, za_387, za_388, za_389, za_390, za_391, za_392, za_393, zb_396, za_397, za_398, za_399, za_400, za_401, zb_738, za_739, za_740, za_741, za_742, za_743, za_744, za_745, za_746, za_747, zb_748, za_749, za_750, zb_751, zb_752, za_753, za_754, za_755, za_756, zb_757, za_758, za_759, za_760, zb_761, za_763, za_764, za_765, true_and, and_true, Nat.reduceAdd, r5, x0, x1]
    refine ⟨by decide, fun e0 => ?_, fun ne0 => ⟨fun e1 => ?_, fun ne1 => ?_⟩⟩
    · have cw : zo_cw n (M.1 18) (zWn S) v 0 = zo_cw n b (zWn S) v 0 := by
        unfold zo_cw
        by_cases c1 : zo_is n v = true
        · by_cases c2 : zo_is n 0 = true
          · obtain ⟨f, hf, ef⟩ := zo_of c1 (by omega)
            obtain ⟨t, ht, et⟩ := zo_of c2 (by omega)
            rw [ef, et, nI_clamp (by omega), nI_clamp (by omega), zt_ab_c hC.1.1.1 hC.1.2.2.1 ht f hf]
          · simp [c2]
        · simp [c1]
      refine h60 _ _ _ ?_
      simp only [bX11_befallBy_60, zw_0, zw_1, zs_aloadn0, zs_aloadNn0, zs_iload4, zs_iconst, zi_11_130, zs_ifeq, zs_aloadn2, zs_aloadNn2, zs_iloadn1, zs_bipush, zs_irem, zs_iadd, zi_11_139, zs_popi, zs_popr, zs_popn, zs_goto, zh_0, zh_1, zh_2, zh_3, zh_4, zt_i, zt_l, zt_r, zt_n, zb_15, zb_16, zb_17, za_18, za_19, za_20, za_21, za_22, zb_23, za_24, za_25, za_26, za_27, za_28, za_29, za_30, za_31, za_32, zb_35, za_36, za_37, za_38, za_39, za_40, zb_377, zb_378, za_379, za_380, za_381, za_382, za_383, zb_384, za_385, za_386, za_387, za_388, za_389, za_390, za_391, za_392, za_393, zb_396, za_397, za_398, za_399, za_400, za_401, zb_738, za_739, za_740, za_741, za_742, za_743, za_744, za_745, za_746, za_747, zb_748, za_749, za_750, zb_751, zb_752, za_753, za_754, za_755, za_756, zb_757, za_758, za_759, za_760, zb_761, za_763, za_764, za_765, true_and, and_true, Nat.reduceAdd]
      refine zm_R_eq (c11_canWrong hE (d + 2) hA.2.2.1.1.1 v 0 hC.1.1.1 m17 hC.2.2.2.2.1.2.2.1) ?_
      rw [cw]
      simp only [bX11_befallBy_60, zw_0, zw_1, zs_aloadn0, zs_aloadNn0, zs_iload4, zs_iconst, zi_11_130, zs_ifeq, zs_aloadn2, zs_aloadNn2, zs_iloadn1, zs_bipush, zs_irem, zs_iadd, zi_11_139, zs_popi, zs_popr, zs_popn, zs_goto, zh_0, zh_1, zh_2, zh_3, zh_4, zt_i, zt_l, zt_r, zt_n, zb_15, zb_16, zb_17, za_18, za_19, za_20, za_21, za_22, zb_23, za_24, za_25, za_26, za_27, za_28, za_29, za_30, za_31, za_32, zb_35, za_36, za_37, za_38, za_39, za_40, zb_377, zb_378, za_379, za_380, za_381, za_382, za_383, zb_384, za_385, za_386, za_387, za_388, za_389, za_390, za_391, za_392, za_393, zb_396, za_397, za_398, za_399, za_400, za_401, zb_738, za_739, za_740, za_741, za_742, za_743, za_744, za_745, za_746, za_747, zb_748, za_749, za_750, zb_751, zb_752, za_753, za_754, za_755, za_756, zb_757, za_758, za_759, za_760, zb_761, za_763, za_764, za_765, true_and, and_true, Nat.reduceAdd, zi_b0, r20]
      by_cases cn : n = 0
      · have hno : zo_cw n b (zWn S) v 0 = false := by
          unfold zo_cw zo_is
          subst cn
          simp <;> omega
        refine ⟨fun _ => fin M _ ?_ zcg_refl, fun h => absurd hno h⟩
        unfold ze_hap; rw [if_pos e0, if_pos cn]; exact hC
      · rw [if_neg cn] at hv
        subst hv
        refine ⟨fun h => fin M _ ?_ zcg_refl, fun h => ?_⟩
        · unfold ze_hap; rw [if_pos e0, if_neg cn, if_neg (by rw [h]; decide)]; exact hC
        · have h : zo_cw n b (zWn S) (nI (X % n)) 0 = true := by simpa using h
          refine ⟨by decide, ?_⟩
          refine c10_begin hE (d + 4) zw_23 _ _ _ (zo_cw_m h) hC.2.2.2.2.1 (fun M1 a1 a2 => ?_)
          simp only [bX11_befallBy_60, zw_0, zw_1, zs_aloadn0, zs_aloadNn0, zs_iload4, zs_iconst, zi_11_130, zs_ifeq, zs_aloadn2, zs_aloadNn2, zs_iloadn1, zs_bipush, zs_irem, zs_iadd, zi_11_139, zs_popi, zs_popr, zs_popn, zs_goto, zh_0, zh_1, zh_2, zh_3, zh_4, zt_i, zt_l, zt_r, zt_n, zb_15, zb_16, zb_17, za_18, za_19, za_20, za_21, za_22, zb_23, za_24, za_25, za_26, za_27, za_28, za_29, za_30, za_31, za_32, zb_35, za_36, za_37, za_38, za_39, za_40, zb_377, zb_378, za_379, za_380, za_381, za_382, za_383, zb_384, za_385, za_386, za_387, za_388, za_389, za_390, za_391, za_392, za_393, zb_396, za_397, za_398, za_399, za_400, za_401, zb_738, za_739, za_740, za_741, za_742, za_743, za_744, za_745, za_746, za_747, zb_748, za_749, za_750, zb_751, zb_752, za_753, za_754, za_755, za_756, zb_757, za_758, za_759, za_760, zb_761, za_763, za_764, za_765, true_and, and_true, Nat.reduceAdd]
          obtain ⟨y1, y2⟩ := zCs_w hA.2.2.2 hC a1 (zN_w hC.2.1 a2) (zf_sub a2 (fun q hq => zF_w hq))
          refine fin M1 _ ?_ y2
          unfold ze_hap; rw [if_pos e0, if_neg cn, if_pos h]
          have e1 : (1 : Int32) + nI (X % 20) = nI (1 + X % 20) := nI_add 1 _
          rw [← e1]; exact y1
    · refine h87 _ _ _ ?_
      simp only [bX11_befallBy_87, zw_0, zw_1, zs_aloadn0, zs_aloadNn0, zg_11_10, zg_11_28, zs_iload4, zi_11_82, zs_ifeq, zs_aloadn2, zs_aloadNn2, zs_iloadn1, zs_iconst, zs_irem, zi_11_147, zs_goto, zh_0, zh_1, zh_2, zh_3, zh_4, zt_i, zt_l, zt_r, zt_n, zb_15, zb_16, zb_17, za_18, za_19, za_20, za_21, za_22, zb_23, za_24, za_25, za_26, za_27, za_28, za_29, za_30, za_31, za_32, zb_35, za_36, za_37, za_38, za_39, za_40, zb_377, zb_378, za_379, za_380, za_381, za_382, za_383, zb_384, za_385, za_386, za_387, za_388, za_389, za_390, za_391, za_392, za_393, zb_396, za_397, za_398, za_399, za_400, za_401, zb_738, za_739, za_740, za_741, za_742, za_743, za_744, za_745, za_746, za_747, zb_748, za_749, za_750, zb_751, zb_752, za_753, za_754, za_755, za_756, zb_757, za_758, za_759, za_760, zb_761, za_763, za_764, za_765, true_and, and_true, Nat.reduceAdd]
      refine zm_R_eq (c7_has hE (d + 4) (n := n) (by omega) v m17) ?_
      simp only [bX11_befallBy_87, zw_0, zw_1, zs_aloadn0, zs_aloadNn0, zg_11_10, zg_11_28, zs_iload4, zi_11_82, zs_ifeq, zs_aloadn2, zs_aloadNn2, zs_iloadn1, zs_iconst, zs_irem, zi_11_147, zs_goto, zh_0, zh_1, zh_2, zh_3, zh_4, zt_i, zt_l, zt_r, zt_n, zb_15, zb_16, zb_17, za_18, za_19, za_20, za_21, za_22, zb_23, za_24, za_25, za_26, za_27, za_28, za_29, za_30, za_31, za_32, zb_35, za_36, za_37, za_38, za_39, za_40, zb_377, zb_378, za_379, za_380, za_381, za_382, za_383, zb_384, za_385, za_386, za_387, za_388, za_389, za_390, za_391, za_392, za_393, zb_396, za_397, za_398, za_399, za_400, za_401, zb_738, za_739, za_740, za_741, za_742, za_743, za_744, za_745, za_746, za_747, zb_748, za_749, za_750, zb_751, zb_752, za_753, za_754, za_755, za_756, zb_757, za_758, za_759, za_760, zb_761, za_763, za_764, za_765, true_and, and_true, Nat.reduceAdd, zi_b0, r4]
      by_cases cn : n = 0
      · have hno : zo_is n v = false := by
          unfold zo_is
          subst cn
          simp <;> omega
        refine ⟨fun _ => fin M _ ?_ zcg_refl, fun h => absurd hno h⟩
        unfold ze_hap; rw [if_neg ne0, if_pos e1, if_pos cn]; exact hC
      · rw [if_neg cn] at hv
        subst hv
        have hlt : X % n < n := Nat.mod_lt _ (by omega)
        refine ⟨fun h => ?_, fun h => ⟨by decide, ?_⟩⟩
        · rw [zo_is_nI (by omega), decide_eq_true hlt] at h; cases h
        · refine c10_leave hE (d + 4) zw_23 (by omega) _ hC.2.2.2.2.1 (fun M1 a1 a2 => ?_)
          simp only [bX11_befallBy_87, zw_0, zw_1, zs_aloadn0, zs_aloadNn0, zg_11_10, zg_11_28, zs_iload4, zi_11_82, zs_ifeq, zs_aloadn2, zs_aloadNn2, zs_iloadn1, zs_iconst, zs_irem, zi_11_147, zs_goto, zh_0, zh_1, zh_2, zh_3, zh_4, zt_i, zt_l, zt_r, zt_n, zb_15, zb_16, zb_17, za_18, za_19, za_20, za_21, za_22, zb_23, za_24, za_25, za_26, za_27, za_28, za_29, za_30, za_31, za_32, zb_35, za_36, za_37, za_38, za_39, za_40, zb_377, zb_378, za_379, za_380, za_381, za_382, za_383, zb_384, za_385, za_386, za_387, za_388, za_389, za_390, za_391, za_392, za_393, zb_396, za_397, za_398, za_399, za_400, za_401, zb_738, za_739, za_740, za_741, za_742, za_743, za_744, za_745, za_746, za_747, zb_748, za_749, za_750, zb_751, zb_752, za_753, za_754, za_755, za_756, zb_757, za_758, za_759, za_760, zb_761, za_763, za_764, za_765, true_and, and_true, Nat.reduceAdd]
          obtain ⟨y1, y2⟩ := zCs_w hA.2.2.2 hC a1 (zN_w hC.2.1 a2) (zf_sub a2 (fun q hq => zF_w hq))
          refine fin M1 _ ?_ y2
          unfold ze_hap; rw [if_neg ne0, if_pos e1, if_neg cn]; exact y1
    · obtain ⟨dd, d1, d2, d3⟩ := zw_d9 hA.2.2.1
      have m0 : M.1 23 0 = nI dd := by rw [← d2]; exact hC.2.2.2.2.1.1
      have c9 : ((9999 : Int32) ≤ nI dd) = (9999 ≤ dd) := propext (nI_leI (a := 9999) (by decide) (by omega))
      refine h114 _ _ _ ?_
      simp only [bX11_befallBy_114, zw_0, zw_1, zs_aloadn2, zs_aloadNn2, zg_11_167, zs_sipush, zs_icge, zs_aloadn0, zs_aloadNn0, zg_11_44, zg_11_10, zi_11_174, zi_11_178, zs_popi, zs_popr, zs_popn, zh_0, zh_1, zh_2, zh_3, zh_4, zt_i, zt_l, zt_r, zt_n, zb_15, zb_16, zb_17, za_18, za_19, za_20, za_21, za_22, zb_23, za_24, za_25, za_26, za_27, za_28, za_29, za_30, za_31, za_32, zb_35, za_36, za_37, za_38, za_39, za_40, zb_377, zb_378, za_379, za_380, za_381, za_382, za_383, zb_384, za_385, za_386, za_387, za_388, za_389, za_390, za_391, za_392, za_393, zb_396, za_397, za_398, za_399, za_400, za_401, zb_738, za_739, za_740, za_741, za_742, za_743, za_744, za_745, za_746, za_747, zb_748, za_749, za_750, zb_751, zb_752, za_753, za_754, za_755, za_756, zb_757, za_758, za_759, za_760, zb_761, za_763, za_764, za_765, true_and, and_true, Nat.reduceAdd, m0, c9]
      refine ⟨fun h9 => fin M _ ?_ zcg_refl, fun h9 => ?_⟩
      · unfold ze_hap; rw [if_neg ne0, if_neg ne1, if_pos (d3.mpr (by omega))]; exact hC
      · refine zm_R_eq (c6_law hE (d + 3) htn hC.2.2.1) ?_
        simp only [bX11_befallBy_114, zw_0, zw_1, zs_aloadn2, zs_aloadNn2, zg_11_167, zs_sipush, zs_icge, zs_aloadn0, zs_aloadNn0, zg_11_44, zg_11_10, zi_11_174, zi_11_178, zs_popi, zs_popr, zs_popn, zh_0, zh_1, zh_2, zh_3, zh_4, zt_i, zt_l, zt_r, zt_n, zb_15, zb_16, zb_17, za_18, za_19, za_20, za_21, za_22, zb_23, za_24, za_25, za_26, za_27, za_28, za_29, za_30, za_31, za_32, zb_35, za_36, za_37, za_38, za_39, za_40, zb_377, zb_378, za_379, za_380, za_381, za_382, za_383, zb_384, za_385, za_386, za_387, za_388, za_389, za_390, za_391, za_392, za_393, zb_396, za_397, za_398, za_399, za_400, za_401, zb_738, za_739, za_740, za_741, za_742, za_743, za_744, za_745, za_746, za_747, zb_748, za_749, za_750, zb_751, zb_752, za_753, za_754, za_755, za_756, zb_757, za_758, za_759, za_760, zb_761, za_763, za_764, za_765, true_and, and_true, Nat.reduceAdd, zt_val]
        refine c0_pass hE d (Or.inl rfl) hC.1 hC.2.1 hC.2.2.2.1 hA.2.1 hA.2.2.1 hC.2.2.2.2.1 (fun M3 b1 b2 b3 => ?_)
        simp only [bX11_befallBy_114, zw_0, zw_1, zs_aloadn2, zs_aloadNn2, zg_11_167, zs_sipush, zs_icge, zs_aloadn0, zs_aloadNn0, zg_11_44, zg_11_10, zi_11_174, zi_11_178, zs_popi, zs_popr, zs_popn, zh_0, zh_1, zh_2, zh_3, zh_4, zt_i, zt_l, zt_r, zt_n, zb_15, zb_16, zb_17, za_18, za_19, za_20, za_21, za_22, zb_23, za_24, za_25, za_26, za_27, za_28, za_29, za_30, za_31, za_32, zb_35, za_36, za_37, za_38, za_39, za_40, zb_377, zb_378, za_379, za_380, za_381, za_382, za_383, zb_384, za_385, za_386, za_387, za_388, za_389, za_390, za_391, za_392, za_393, zb_396, za_397, za_398, za_399, za_400, za_401, zb_738, za_739, za_740, za_741, za_742, za_743, za_744, za_745, za_746, za_747, zb_748, za_749, za_750, zb_751, zb_752, za_753, za_754, za_755, za_756, zb_757, za_758, za_759, za_760, zb_761, za_763, za_764, za_765, true_and, and_true, Nat.reduceAdd]
        obtain ⟨y1, y2⟩ := zCs_w hA.2.2.2 hC b1 b2 b3
        refine fin M3 _ ?_ y2
        unfold ze_hap; rw [if_neg ne0, if_neg ne1, if_neg (fun z => h9 (by have := d3.mp z; omega))]; exact y1
  refine h0 _ _ _ ?_
  simp only [bX11_befallBy_0, zw_0, zw_1, zs_aloadn0, zs_aloadNn0, zg_11_10, zg_11_136, zs_astoren2, zs_astoreNn2, zg_11_28, zg_11_77, zs_istoren3, zs_iloadn3, zs_ifne, zs_iconst, zs_goto, zc_none, zc_int, zc_ref, zc_null, zc_long, zb_15, zb_16, zb_17, za_18, za_19, za_20, za_21, za_22, zb_23, za_24, za_25, za_26, za_27, za_28, za_29, za_30, za_31, za_32, zb_35, za_36, za_37, za_38, za_39, za_40, zb_377, zb_378, za_379, za_380, za_381, za_382, za_383, zb_384, za_385, za_386, za_387, za_388, za_389, za_390, za_391, za_392, za_393, zb_396, za_397, za_398, za_399, za_400, za_401, zb_738, za_739, za_740, za_741, za_742, za_743, za_744, za_745, za_746, za_747, zb_748, za_749, za_750, zb_751, zb_752, za_753, za_754, za_755, za_756, zb_757, za_758, za_759, za_760, zb_761, za_763, za_764, za_765, true_and, and_true, Nat.reduceAdd, m17, n0]
  refine ⟨fun hn0 => ?_, fun hn0 => sw _ (by rw [if_pos hn0])⟩
  refine h27 _ _ _ ?_
  have rn : nI X - nI X / nI n * nI n = nI (X % n) := pk_rem (d := n) (by omega) (by omega) (by omega)
  simp only [bX11_befallBy_27, zw_0, zw_1, zs_iloadn1, zs_iloadn3, zs_irem, zb_15, zb_16, zb_17, za_18, za_19, za_20, za_21, za_22, zb_23, za_24, za_25, za_26, za_27, za_28, za_29, za_30, za_31, za_32, zb_35, za_36, za_37, za_38, za_39, za_40, zb_377, zb_378, za_379, za_380, za_381, za_382, za_383, zb_384, za_385, za_386, za_387, za_388, za_389, za_390, za_391, za_392, za_393, zb_396, za_397, za_398, za_399, za_400, za_401, zb_738, za_739, za_740, za_741, za_742, za_743, za_744, za_745, za_746, za_747, zb_748, za_749, za_750, zb_751, zb_752, za_753, za_754, za_755, za_756, zb_757, za_758, za_759, za_760, zb_761, za_763, za_764, za_765, true_and, and_true, Nat.reduceAdd, rn, n0]
  exact ⟨hn0, sw _ (by rw [if_neg hn0])⟩
theorem c11_years {E : zm_E} (hE : zm_ok E.2.2.1 E.2.2.2.2) (d : Nat) {n tn s : Nat} (v m : Int32) {b pr : Nat → Int32} {T : Nat → Option zD} {S : zW} {H : Nat → zW} {M : zm_M} (htn : tn ≤ 4) (hA : zAl n b T S s H) (hC : zCs n tn b pr T S s H M) {Q : Option Value → zm_M → Prop} (q1 : (zi_in v 0 9999 = 0 ∨ zi_in m 1 40 = 0) → Q (some (.int (-1))) M) (q2 : ∀ x f M', x ≤ 9999 → 1 ≤ f → f ≤ 40 → v = nI x → m = nI f → zCs n tn b pr T (ze_yrs n b pr T f (ze_sx S (nI (x * 2 + 181)))) (zk_n s) (zk_ps s H S) M' → zcg M M' → Q (some (.int (zWd (ze_yrs n b pr T f (ze_sx S (nI (x * 2 + 181))))))) M') : zm_R E (d + 7) mX11_years [.ref 15, .int v, .int m] M Q := by
  refine zX11_years hE rfl (fun G h0 h21 h23 h52 h72 => ?_)
  show G 0 [some (.ref 15), some (.int v), some (.int m), none, none] [] M
  have bad : (zi_in v 0 9999 = 0 ∨ zi_in m 1 40 = 0) → G 21 [some (.ref 15), some (.int v), some (.int m), none, none] [] M := by
    intro h
    refine h21 _ _ _ ?_
    simp only [bX11_years_21, zw_0, zw_1, zs_iconst, zs_ireturn, zn_int, zn_b0, zn_b1, zb_15, zb_16, zb_17, za_18, za_19, za_20, za_21, za_22, zb_23, za_24, za_25, za_26, za_27, za_28, za_29, za_30, za_31, za_32, zb_35, za_36, za_37, za_38, za_39, za_40, zb_377, zb_378, za_379, za_380, za_381, za_382, za_383, zb_384, za_385, za_386, za_387, za_388, za_389, za_390, za_391, za_392, za_393, zb_396, za_397, za_398, za_399, za_400, za_401, zb_738, za_739, za_740, za_741, za_742, za_743, za_744, za_745, za_746, za_747, zb_748, za_749, za_750, zb_751, zb_752, za_753, za_754, za_755, za_756, zb_757, za_758, za_759, za_760, zb_761, za_763, za_764, za_765, true_and, and_true, Nat.reduceAdd]
    exact q1 h
  refine h0 _ _ _ ?_
  simp only [bX11_years_0, zw_0, zw_1, zs_iloadn1, zs_iconst, zs_sipush, zi_11_86, zs_ifeq, zs_iloadn2, zs_bipush, zs_ifne, zh_0, zh_1, zh_2, zh_3, zh_4, zt_i, zt_l, zt_r, zt_n, zb_15, zb_16, zb_17, za_18, za_19, za_20, za_21, za_22, zb_23, za_24, za_25, za_26, za_27, za_28, za_29, za_30, za_31, za_32, zb_35, za_36, za_37, za_38, za_39, za_40, zb_377, zb_378, za_379, za_380, za_381, za_382, za_383, zb_384, za_385, za_386, za_387, za_388, za_389, za_390, za_391, za_392, za_393, zb_396, za_397, za_398, za_399, za_400, za_401, zb_738, za_739, za_740, za_741, za_742, za_743, za_744, za_745, za_746, za_747, zb_748, za_749, za_750, zb_751, zb_752, za_753, za_754, za_755, za_756, zb_757, za_758, za_759, za_760, zb_761, za_763, za_764, za_765, true_and, and_true, Nat.reduceAdd]
  refine zm_R_eq (c11_within hE (d + 5) v 0 9999 M) ?_
  simp only [bX11_years_0, zw_0, zw_1, zs_iloadn1, zs_iconst, zs_sipush, zi_11_86, zs_ifeq, zs_iloadn2, zs_bipush, zs_ifne, zh_0, zh_1, zh_2, zh_3, zh_4, zt_i, zt_l, zt_r, zt_n, zb_15, zb_16, zb_17, za_18, za_19, za_20, za_21, za_22, zb_23, za_24, za_25, za_26, za_27, za_28, za_29, za_30, za_31, za_32, zb_35, za_36, za_37, za_38, za_39, za_40, zb_377, zb_378, za_379, za_380, za_381, za_382, za_383, zb_384, za_385, za_386, za_387, za_388, za_389, za_390, za_391, za_392, za_393, zb_396, za_397, za_398, za_399, za_400, za_401, zb_738, za_739, za_740, za_741, za_742, za_743, za_744, za_745, za_746, za_747, zb_748, za_749, za_750, zb_751, zb_752, za_753, za_754, za_755, za_756, zb_757, za_758, za_759, za_760, zb_761, za_763, za_764, za_765, true_and, and_true, Nat.reduceAdd]
  refine ⟨fun h => bad (Or.inl h), fun hv => ?_⟩
  refine zm_R_eq (c11_within hE (d + 5) m 1 40 M) ?_
  simp only [bX11_years_0, zw_0, zw_1, zs_iloadn1, zs_iconst, zs_sipush, zi_11_86, zs_ifeq, zs_iloadn2, zs_bipush, zs_ifne, zh_0, zh_1, zh_2, zh_3, zh_4, zt_i, zt_l, zt_r, zt_n, zb_15, zb_16, zb_17, za_18, za_19, za_20, za_21, za_22, zb_23, za_24, za_25, za_26, za_27, za_28, za_29, za_30, za_31, za_32, zb_35, za_36, za_37, za_38, za_39, za_40, zb_377, zb_378, za_379, za_380, za_381, za_382, za_383, zb_384, za_385, za_386, za_387, za_388, za_389, za_390, za_391, za_392, za_393, zb_396, za_397, za_398, za_399, za_400, za_401, zb_738, za_739, za_740, za_741, za_742, za_743, za_744, za_745, za_746, za_747, zb_748, za_749, za_750, zb_751, zb_752, za_753, za_754, za_755, za_756, zb_757, za_758, za_759, za_760, zb_761, za_763, za_764, za_765, true_and, and_true, Nat.reduceAdd]
  refine ⟨fun hm => ?_, fun h => bad (Or.inr h)⟩
  obtain ⟨x, -, hx, rfl⟩ : ∃ f, 0 ≤ f ∧ f ≤ 9999 ∧ v = nI f := zi_1of (by decide) hv
  obtain ⟨f, hf1, hf2, rfl⟩ : ∃ f, 1 ≤ f ∧ f ≤ 40 ∧ m = nI f := zi_1of (by decide) hm
  have q2 := fun M' => q2 x f M' hx hf1 hf2 rfl rfl
  generalize hSF : ze_yrs n b pr T f (ze_sx S (nI (x * 2 + 181))) = SF at *
  have hA' : ∀ i, i < zk_n s → zw_i n b (zk_ps s H S i) := zk_i hA.2.2.1 hA.2.2.2
  have loop : ∀ (g i : Nat) (S1 : zW) (M1 : zm_M), i + g = f → zw_i n b S1 → zCs n tn b pr T S1 (zk_n s) (zk_ps s H S) M1 → zcg M M1 → ze_yrs n b pr T g S1 = SF → G 52 [some (.ref 15), some (.int (nI x)), some (.int (nI f)), some (.ref 23), some (.int (nI i))] [] M1 := by
    intro g
    induction g with
    | zero =>
      intro i S1 M1 hi hi1 hC1 g1 e
      have e : S1 = SF := e
      have m0 : M1.1 23 0 = zWd S1 := hC1.2.2.2.2.1.1
      refine h52 _ _ _ ?_
      simp only [bX11_years_52, zw_0, zw_1, zs_iload4, zs_iloadn2, zs_icge, zs_aloadn0, zs_aloadNn0, zs_aloadn3, zs_aloadNn3, zi_11_221, zi_11_225, zs_iinc4, zs_goto, zc_none, zc_int, zc_ref, zc_null, zc_long, zh_0, zh_1, zh_2, zh_3, zh_4, zt_i, zt_l, zt_r, zt_n, zb_15, zb_16, zb_17, za_18, za_19, za_20, za_21, za_22, zb_23, za_24, za_25, za_26, za_27, za_28, za_29, za_30, za_31, za_32, zb_35, za_36, za_37, za_38, za_39, za_40, zb_377, zb_378, za_379, za_380, za_381, za_382, za_383, zb_384, za_385, za_386, za_387, za_388, za_389, za_390, za_391, za_392, za_393, zb_396, za_397, za_398, za_399, za_400, za_401, zb_738, za_739, za_740, za_741, za_742, za_743, za_744, za_745, za_746, za_747, zb_748, za_749, za_750, zb_751, zb_752, za_753, za_754, za_755, za_756, zb_757, za_758, za_759, za_760, zb_761, za_763, za_764, za_765, true_and, and_true, Nat.reduceAdd]
      refine ⟨fun _ => ?_, fun h => absurd (nI_le (by omega) (by omega)) h⟩
      refine h72 _ _ _ ?_
      simp only [bX11_years_72, zw_0, zw_1, zs_aloadn3, zs_aloadNn3, zg_11_167, zs_ireturn, zn_int, zn_b0, zn_b1, zb_15, zb_16, zb_17, za_18, za_19, za_20, za_21, za_22, zb_23, za_24, za_25, za_26, za_27, za_28, za_29, za_30, za_31, za_32, zb_35, za_36, za_37, za_38, za_39, za_40, zb_377, zb_378, za_379, za_380, za_381, za_382, za_383, zb_384, za_385, za_386, za_387, za_388, za_389, za_390, za_391, za_392, za_393, zb_396, za_397, za_398, za_399, za_400, za_401, zb_738, za_739, za_740, za_741, za_742, za_743, za_744, za_745, za_746, za_747, zb_748, za_749, za_750, zb_751, zb_752, za_753, za_754, za_755, za_756, zb_757, za_758, za_759, za_760, zb_761, za_763, za_764, za_765, true_and, and_true, Nat.reduceAdd, m0]
      rw [e] at hC1 ⊢
      exact q2 M1 hC1 g1
    | succ g ih =>
      intro i S1 M1 hi hi1 hC1 g1 e
      obtain ⟨ex, hx30⟩ := ze_xn_of hi1
      refine h52 _ _ _ ?_
      simp only [bX11_years_52, zw_0, zw_1, zs_iload4, zs_iloadn2, zs_icge, zs_aloadn0, zs_aloadNn0, zs_aloadn3, zs_aloadNn3, zi_11_221, zi_11_225, zs_iinc4, zs_goto, zc_none, zc_int, zc_ref, zc_null, zc_long, zh_0, zh_1, zh_2, zh_3, zh_4, zt_i, zt_l, zt_r, zt_n, zb_15, zb_16, zb_17, za_18, za_19, za_20, za_21, za_22, zb_23, za_24, za_25, za_26, za_27, za_28, za_29, za_30, za_31, za_32, zb_35, za_36, za_37, za_38, za_39, za_40, zb_377, zb_378, za_379, za_380, za_381, za_382, za_383, zb_384, za_385, za_386, za_387, za_388, za_389, za_390, za_391, za_392, za_393, zb_396, za_397, za_398, za_399, za_400, za_401, zb_738, za_739, za_740, za_741, za_742, za_743, za_744, za_745, za_746, za_747, zb_748, za_749, za_750, zb_751, zb_752, za_753, za_754, za_755, za_756, zb_757, za_758, za_759, za_760, zb_761, za_763, za_764, za_765, true_and, and_true, Nat.reduceAdd]
      refine ⟨fun h => absurd h (nI_ge (by omega) (by omega)), fun _ => ?_⟩
      refine c10_draw hE (d + 5) zw_23 hC1.2.2.2.2.1 (fun M2 a1 a2 => ?_)
      obtain ⟨y1, y2⟩ := zCs_w hA' hC1 a1 (zN_w hC1.2.1 a2) (zf_sub a2 (fun q hq => zF_w hq))
      rw [ex]
      simp only [bX11_years_52, zw_0, zw_1, zs_iload4, zs_iloadn2, zs_icge, zs_aloadn0, zs_aloadNn0, zs_aloadn3, zs_aloadNn3, zi_11_221, zi_11_225, zs_iinc4, zs_goto, zc_none, zc_int, zc_ref, zc_null, zc_long, zh_0, zh_1, zh_2, zh_3, zh_4, zt_i, zt_l, zt_r, zt_n, zb_15, zb_16, zb_17, za_18, za_19, za_20, za_21, za_22, zb_23, za_24, za_25, za_26, za_27, za_28, za_29, za_30, za_31, za_32, zb_35, za_36, za_37, za_38, za_39, za_40, zb_377, zb_378, za_379, za_380, za_381, za_382, za_383, zb_384, za_385, za_386, za_387, za_388, za_389, za_390, za_391, za_392, za_393, zb_396, za_397, za_398, za_399, za_400, za_401, zb_738, za_739, za_740, za_741, za_742, za_743, za_744, za_745, za_746, za_747, zb_748, za_749, za_750, zb_751, zb_752, za_753, za_754, za_755, za_756, zb_757, za_758, za_759, za_760, zb_761, za_763, za_764, za_765, true_and, and_true, Nat.reduceAdd]
      refine c11_befallBy hE d hx30 htn ⟨hA.1, hA.2.1, zw_i_dr hi1, hA'⟩ y1 (fun M3 b1 b2 => ?_)
      simp only [bX11_years_52, zw_0, zw_1, zs_iload4, zs_iloadn2, zs_icge, zs_aloadn0, zs_aloadNn0, zs_aloadn3, zs_aloadNn3, zi_11_221, zi_11_225, zs_iinc4, zs_goto, zc_none, zc_int, zc_ref, zc_null, zc_long, zh_0, zh_1, zh_2, zh_3, zh_4, zt_i, zt_l, zt_r, zt_n, zb_15, zb_16, zb_17, za_18, za_19, za_20, za_21, za_22, zb_23, za_24, za_25, za_26, za_27, za_28, za_29, za_30, za_31, za_32, zb_35, za_36, za_37, za_38, za_39, za_40, zb_377, zb_378, za_379, za_380, za_381, za_382, za_383, zb_384, za_385, za_386, za_387, za_388, za_389, za_390, za_391, za_392, za_393, zb_396, za_397, za_398, za_399, za_400, za_401, zb_738, za_739, za_740, za_741, za_742, za_743, za_744, za_745, za_746, za_747, zb_748, za_749, za_750, zb_751, zb_752, za_753, za_754, za_755, za_756, zb_757, za_758, za_759, za_760, zb_761, za_763, za_764, za_765, true_and, and_true, Nat.reduceAdd, nI_1]
      exact ih (i + 1) _ M3 (by omega) (ze_hap_i hA.1 (zw_i_dr hi1)) b1 (zcg_trans g1 (zcg_trans y2 b2)) e
  refine h23 _ _ _ ?_
  simp only [bX11_years_23, zw_0, zw_1, zs_aloadn0, zs_aloadNn0, zg_11_10, zg_11_136, zs_astoren3, zs_astoreNn3, zi_11_133, zs_aloadn3, zs_aloadNn3, zs_iloadn1, zs_iconst, zs_imul, zs_sipush, zs_iadd, zq_11_218, zs_istore4, zc_none, zc_int, zc_ref, zc_null, zc_long, zh_0, zh_1, zh_2, zh_3, zh_4, zt_i, zt_l, zt_r, zt_n, zb_15, zb_16, zb_17, za_18, za_19, za_20, za_21, za_22, zb_23, za_24, za_25, za_26, za_27, za_28, za_29, za_30, za_31, za_32, zb_35, za_36, za_37, za_38, za_39, za_40, zb_377, zb_378, za_379, za_380, za_381, za_382, za_383, zb_384, za_385, za_386, za_387, za_388, za_389, za_390, za_391, za_392, za_393, zb_396, za_397, za_398, za_399, za_400, za_401, zb_738, za_739, za_740, za_741, za_742, za_743, za_744, za_745, za_746, za_747, zb_748, za_749, za_750, zb_751, zb_752, za_753, za_754, za_755, za_756, zb_757, za_758, za_759, za_760, zb_761, za_763, za_764, za_765, true_and, and_true, Nat.reduceAdd]
  obtain ⟨cc, hcc⟩ := hC.2.2.2.2.2
  refine c6_keep hE (d + 4) hA.2.2.1.1 (fun i hi => (hA.2.2.2 i hi).1) hC.2.2.2.2.1 hcc (fun M2 c' a1 a2 a3 => ?_)
  have e2 : nI x * 2 + 181 = nI (x * 2 + 181) := by
    rw [show nI x * 2 = nI (x * 2) from pk_mul _ 2]; exact nI_add _ 181
  simp only [bX11_years_23, zw_0, zw_1, zs_aloadn0, zs_aloadNn0, zg_11_10, zg_11_136, zs_astoren3, zs_astoreNn3, zi_11_133, zs_aloadn3, zs_aloadNn3, zs_iloadn1, zs_iconst, zs_imul, zs_sipush, zs_iadd, zq_11_218, zs_istore4, zc_none, zc_int, zc_ref, zc_null, zc_long, zh_0, zh_1, zh_2, zh_3, zh_4, zt_i, zt_l, zt_r, zt_n, zb_15, zb_16, zb_17, za_18, za_19, za_20, za_21, za_22, zb_23, za_24, za_25, za_26, za_27, za_28, za_29, za_30, za_31, za_32, zb_35, za_36, za_37, za_38, za_39, za_40, zb_377, zb_378, za_379, za_380, za_381, za_382, za_383, zb_384, za_385, za_386, za_387, za_388, za_389, za_390, za_391, za_392, za_393, zb_396, za_397, za_398, za_399, za_400, za_401, zb_738, za_739, za_740, za_741, za_742, za_743, za_744, za_745, za_746, za_747, zb_748, za_749, za_750, zb_751, zb_752, za_753, za_754, za_755, za_756, zb_757, za_758, za_759, za_760, zb_761, za_763, za_764, za_765, true_and, and_true, Nat.reduceAdd, e2]
  have g2 := zcg_c (zcf_j a3)
  have C2 : zCs n tn b pr T S (zk_n s) (zk_ps s H S) M2 := ⟨zcs_9g hC.1 g2, fun i hi => by rw [a3.1 749 (by decide) (by decide)]; exact hC.2.1 i hi, by rw [g2.2 6 (by decide)]; exact hC.2.2.1, by rw [zr_law_g g2.2]; exact zcs_Tg hC.2.2.2.1 g2, a1, c', a2⟩
  have f3 : zf (zw_L 23) M2 (zm_wi M2 23 1 (nI (x * 2 + 181))) := zf_wi zf_refl (by decide)
  have S3 : zw_c (zm_wi M2 23 1 (nI (x * 2 + 181))) 23 (ze_sx S (nI (x * 2 + 181))) := by
    obtain ⟨s1, s2, s3, s4, s5, s6, s7⟩ := a1
    exact ⟨by rw [zm_wi_same, if_neg (by decide)]; exact s1, by rw [zm_wi_same, if_pos rfl]; rfl, by rw [zm_wi_same, if_neg (by decide)]; exact s3, by rw [zm_wi_same, if_neg (by decide)]; exact s4, fun f j hf hj => by rw [zm_wi_other (by omega)]; exact s5 f j hf hj, fun p hp => by rw [zm_wi_other (by omega)]; exact s6 p hp, fun i j hi hj => by rw [zm_wi_other (by omega)]; exact s7 i j hi hj⟩
  obtain ⟨y1, y2⟩ := zCs_w hA' C2 S3 (zN_w C2.2.1 f3) (zf_sub f3 (fun q hq => zF_w hq))
  exact loop f 0 _ _ (by omega) (zw_i_sx hA.2.2.1 (by omega)) y1 (zcg_trans g2 y2) hSF
