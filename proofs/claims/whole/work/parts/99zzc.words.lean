/-! ===== isSpelled, wordFrom ===== -/
def zw_T (E : zm_E) (M : zm_M) (a av n : Nat) (f : Nat → Value) (U : State) (H : Heap) : Prop := zw_B E.2.2.2.2 a av n f U H ∧ va_P E.2.1 zy_cl (zm_ws E.2.2.1 E.2.2.2.1 M) H ∧ va_K E.2.1 zy_cl (zm_tys E.2.2.2.1) U
theorem zw_T_st {E : zm_E} {M : zm_M} {a av n : Nat} {f : Nat → Value} : zw_st (zw_T E M a av n f) := fun _ _ _ hvm h => ⟨zw_B_st _ _ _ hvm h.1, h.2.1, va_K.moved hvm h.2.2⟩
theorem zw_tape : zm_ar 765 1 300 := ⟨by decide, rfl⟩
theorem zw_isSpelled {E : zm_E} {M : zm_M} {tp : Nat → Nat} {n s e i a av : Nat} (d : Nat) (hT : zk_tc tp n M) (hse : s < e) (hen : e ≤ n) (hi : i < 44) : zw_M E.1 (d + 4) mX5_isSpelled [.ref a, .ref (E.2.2.1 765), .int (nI s), .int (nI e)] (zw_T E M a av (zz_ln.getD i 0) (fun j => .int ((zz_sp.getD i []).getD j 0))) (some (.int (zi_b (zk_sp i tp s e)))) := by
  obtain ⟨t1, t2, t3⟩ := hT
  obtain ⟨w1, w2, w3⟩ := zz_sd_ok i hi
  refine zw_met (by decide) (Nat.le_of_ble_eq_true rfl) ?_
  rintro p e0 st m below meth c ls ⟨hx, hb, hml, hown, hts, hr, hlk⟩ hB hl
  have hl : lv_has ls 5 [(0, .ref a), (1, .ref (E.2.2.1 765)), (2, .int (nI s)), (3, .int (nI e))] := hl
  have hB2 := hB
  obtain ⟨hZ, hP, hK⟩ := hB2
  have no : zk_sp i tp s e = false → ∀ (ls : Array Slot) (k : Nat), (k = 10 ∨ k = 36) → W p E.1 e0 (zm_rm (d + 4)) st m [Value.ref a, Value.ref (E.2.2.1 765), Value.int (nI s), Value.int (nI e)].toArray below meth c st.heap [] 0 0 (MQ below (zw_Q (some (.int (zi_b (zk_sp i tp s e))))) [Value.ref a, Value.ref (E.2.2.1 765), Value.int (nI s), Value.int (nI e)].toArray st 0 0 (fun _ => False)) (F0 m k ls []) := by
    intro hz ls k hk
    rw [hz]
    rcases hk with rfl | rfl
    · refine lv_iconst (v := 0) hx hb dX5_isSpelled_10 (by decide) ?_
      exact W.zret hx hb hr rfl (fun t ht hW => ⟨rfl, ht⟩) (fun _ h => by cases h) dX5_isSpelled_11 hlk
    · refine lv_iconst (v := 0) hx hb dX5_isSpelled_36 (by decide) ?_
      exact W.zret hx hb hr rfl (fun t ht hW => ⟨rfl, ht⟩) (fun _ h => by cases h) dX5_isSpelled_37 hlk
  have loop : zz_ln.getD i 0 = e - s → ∀ (f j : Nat) (ls : Array Slot), e - j = f → s ≤ j → j ≤ e → (∀ q, q < j - s → (zz_sp.getD i []).getD q 0 = nI (tp (s + q))) → lv_has ls 5 [(4, .int (nI j)), (0, .ref a), (1, .ref (E.2.2.1 765)), (2, .int (nI s)), (3, .int (nI e))] → W p E.1 e0 (zm_rm (d + 4)) st m [Value.ref a, Value.ref (E.2.2.1 765), Value.int (nI s), Value.int (nI e)].toArray below meth c st.heap [] 0 0 (MQ below (zw_Q (some (.int (zi_b (zk_sp i tp s e))))) [Value.ref a, Value.ref (E.2.2.1 765), Value.int (nI s), Value.int (nI e)].toArray st 0 0 (fun _ => False)) (F0 m 15 ls []) := by
    intro hln f
    induction f with
    | zero =>
      intro j ls hf h1 h2 hq hl
      have hj : j = e := by omega
      subst hj
      have hz : zk_sp i tp s j = true := by
        unfold zk_sp
        rw [decide_eq_true hln, Bool.true_and]
        simp only [List.all_eq_true, List.mem_range, decide_eq_true_eq]
        exact hq
      rw [hz]
      refine lv_iload hx hb dX5_isSpelled_15 (lv_at hl 0 rfl) ?_
      refine lv_iload_n hx hb dX5_isSpelled_17 rfl (lv_at hl 4 rfl) ?_
      refine lv_icmp_ge (tgt := 44) hx hb dX5_isSpelled_18 (by decide) (fun _ => ?_) (fun h => absurd (nI_le (Nat.le_refl _) (by omega)) h)
      refine lv_iconst (v := 1) hx hb dX5_isSpelled_44 (by decide) ?_
      exact W.zret hx hb hr rfl (fun t ht hW => ⟨rfl, ht⟩) (fun _ h => by cases h) dX5_isSpelled_45 hlk
    | succ f ih =>
      intro j ls hf h1 h2 hq hl
      have hj : j < e := by omega
      obtain ⟨x1, x2⟩ := w3 (j - s) (by omega) (by omega)
      refine lv_iload hx hb dX5_isSpelled_15 (lv_at hl 0 rfl) ?_
      refine lv_iload_n hx hb dX5_isSpelled_17 rfl (lv_at hl 4 rfl) ?_
      refine lv_icmp_ge (tgt := 44) hx hb dX5_isSpelled_18 (by decide) (fun h => absurd h (nI_ge hj (by omega))) (fun _ => ?_)
      refine lv_aload_n hx hb dX5_isSpelled_21 rfl (lv_at hl 1 rfl) ?_
      refine lv_iload hx hb dX5_isSpelled_22 (lv_at hl 0 rfl) ?_
      refine lv_iload_n hx hb dX5_isSpelled_24 rfl (lv_at hl 3 rfl) ?_
      refine lv_isub hx hb dX5_isSpelled_25 ?_
      rw [pk_sub h1]
      refine zw_callV (as := [.int (nI (j - s))]) hx hb hml hown hts (zw_charAt d (by omega) (by omega) (show (fun j => Value.int ((zz_sp.getD i []).getD j 0)) (j - s) = _ from congrArg Value.int x1) x2) zw_B_st hZ hZ.1 zj_c_charAt zj_l_RX5_118 zj_i_charAt zj_s_charAt rfl hl.1 (Nat.le_of_ble_eq_true rfl) dX5_isSpelled_26 ?_
      refine lv_aload_n hx hb dX5_isSpelled_29 rfl (lv_at hl 2 rfl) ?_
      refine lv_iload hx hb dX5_isSpelled_30 (lv_at hl 0 rfl) ?_
      refine va_cald hx hb hK hP 765 1 ((zm_at zw_tape.1).trans (by rw [zm_cell_ar zw_tape]; rfl)) rfl (vp_in_nI (by omega) (by omega)) dX5_isSpelled_32 ?_
      rw [nI_clamp (by omega), t2 j (by omega)]
      refine lv_icmp_eq (tgt := 38) hx hb dX5_isSpelled_33 (by decide) (fun h => ?_) (fun h => ?_)
      · refine lv_iinc (k := 0) hx hb dX5_isSpelled_38 hl rfl (show nI j + Int32.ofInt 1 = nI (j + 1) from nI_1 j) (by decide) rfl (fun ls2 hl2 => ?_)
        refine lv_goto (tgt := 15) hx hb dX5_isSpelled_41 (by decide) ?_
        refine ih (j + 1) ls2 (by omega) (by omega) (by omega) (fun q hq2 => ?_) hl2
        by_cases e1 : q = j - s
        · rw [e1, x1, h]
          congr 2
          omega
        · exact hq q (by omega)
      · refine no ?_ ls 36 (Or.inr rfl)
        cases hz : zk_sp i tp s e with
        | false => rfl
        | true =>
          exfalso
          unfold zk_sp at hz
          rw [Bool.and_eq_true] at hz
          have := (List.all_eq_true.mp hz.2) (j - s) (List.mem_range.mpr (by omega))
          have := of_decide_eq_true this
          rw [x1, show s + (j - s) = j by omega] at this
          exact h this
  refine lv_aload_n hx hb dX5_isSpelled_0 rfl (lv_at hl 0 rfl) ?_
  refine zw_callV (as := []) hx hb hml hown hts (zw_length (d + 2) (by omega)) zw_B_st hZ hZ.1 zj_c_length zj_l_RX5_112 zj_i_length zj_s_length rfl hl.1 (Nat.le_of_ble_eq_true rfl) dX5_isSpelled_1 ?_
  refine lv_iload_n hx hb dX5_isSpelled_4 rfl (lv_at hl 3 rfl) ?_
  refine lv_iload_n hx hb dX5_isSpelled_5 rfl (lv_at hl 2 rfl) ?_
  refine lv_isub hx hb dX5_isSpelled_6 ?_
  rw [pk_sub (Nat.le_of_lt hse)]
  refine lv_icmp_eq (tgt := 12) hx hb dX5_isSpelled_7 (by decide) (fun h => ?_) (fun h => ?_)
  · refine lv_iload_n hx hb dX5_isSpelled_12 rfl (lv_at hl 2 rfl) ?_
    refine lv_istore hx hb dX5_isSpelled_13 hl (by decide) rfl (fun ls2 hl2 => ?_)
    exact loop ((nI_eq (by omega) (by omega)).mp h) (e - s) s ls2 rfl (Nat.le_refl _) (Nat.le_of_lt hse) (fun q hq => absurd hq (by omega)) hl2
  · refine no ?_ ls 10 (Or.inl rfl)
    unfold zk_sp
    rw [decide_eq_false (fun h9 => h (by rw [h9]))]
    rfl
theorem zk_W_ok (E : zm_E) : zk_W E := by
  intro d tp n s e M hT hse hen
  refine Met.ofW (cc := cX5_wordFrom) (maxL := 4) (ret := (some (.object "ApologyUp$Word"))) (by decide) rfl ?_
  intro p e0 st m args below meth c s₁ B0 hml hv
  obtain ⟨rfl, hP, hK, hSF⟩ := hv
  obtain ⟨hEn, ⟨adK, adV, hKV⟩, hZw, hTw, hZc, hZs⟩ := hSF.2.2
  have hts : ∀ w ∈ zy_T, w.before ([Value.ref 765, Value.int (nI s), Value.int (nI e)].map (zm_c E.2.2.1)).toArray st = true := fun w hw => atoms_spec (ws := Cond.code yX5_wordFrom cX5_wordFrom 4 (some (.object "ApologyUp$Word")) :: zy_T) B0.pre w (List.mem_cons_of_mem _ hw)
  have hown : st.vm.findClass RX5 = some m.cls := findClass_of_methodNamed B0.named
  have hx := B0.exec
  have hb : c.code = cX5_wordFrom := B0.bytes
  have hr := B0.returns
  have hlk := B0.notSynchronized
  have hl := lv_entry [Value.ref (E.2.2.1 765), Value.int (nI s), Value.int (nI e)] (n := 4) (Nat.le_of_ble_eq_true rfl)
  rw [lg_entry_eq]
  generalize hls : ((lg_sl [Value.ref (E.2.2.1 765), Value.int (nI s), Value.int (nI e)]) ++ List.replicate (4 - (lg_sl [Value.ref (E.2.2.1 765), Value.int (nI s), Value.int (nI e)]).length) Slot.unset).toArray = ls at hl
  have hl : lv_has ls 4 [(0, .ref (E.2.2.1 765)), (1, .int (nI s)), (2, .int (nI e))] := hl
  refine W.eq (g2 := F0 m 0 ls []) (by rw [← hls]; rfl) ?_
  have loop : ∀ (f i : Nat) (ls : Array Slot), i + f = 44 → zk_wf tp s e f i = zk_wd tp s e → lv_has ls 4 [(3, .int (nI i)), (0, .ref (E.2.2.1 765)), (1, .int (nI s)), (2, .int (nI e))] → W p E.1 e0 (zm_rm (d + 6)) st m ([Value.ref 765, Value.int (nI s), Value.int (nI e)].map (zm_c E.2.2.1)).toArray below meth c st.heap [] 0 0 (MQ below (zm_Qc E (fun r M' => r = some (.ref (1000 + zk_wd tp s e)) ∧ M' = M)) ([Value.ref 765, Value.int (nI s), Value.int (nI e)].map (zm_c E.2.2.1)).toArray st 0 0 E.2.2.2.2) (F0 m 2 ls []) := by
    intro f
    induction f with
    | zero =>
      intro i ls hif hwf hl
      have hi : i = 44 := by omega
      subst hi
      refine lv_iload_n hx hb dX5_wordFrom_2 rfl (lv_at hl 0 rfl) ?_
      refine va_gets hx hb hZw va_S.rf hown (hts _ zj_f_RX5_98) (fun _ h => h) dX5_wordFrom_3 ?_
      refine va_tlen hx hb hTw va_S.rf rfl dX5_wordFrom_6 ?_
      refine lv_icmp_ge (tgt := 39) hx hb dX5_wordFrom_7 (by decide) (fun _ => ?_) (fun h => absurd (nI_le (Nat.le_refl 44) (by decide)) h)
      refine va_gets hx hb (hEn.1 42 (by decide)).1 va_S.rf hown (hts _ zj_f_RX5_109) (fun _ h => h) dX5_wordFrom_39 ?_
      refine W.aret (v := .ref (E.2.2.1 (1000 + 42))) hx hb hr (Or.inl ⟨_, rfl⟩) (Or.inr ⟨_, rfl⟩) (fun t ht hW => ⟨⟨some (.ref (1000 + 42)), M, rfl, ⟨?_, rfl⟩, by rw [ht]; exact hP⟩, va_S.rf.F ht⟩) (fun _ h => by cases h) dX5_wordFrom_42 hlk
      rw [← hwf]
      rfl
    | succ f ih =>
      intro i ls hif hwf hl
      obtain ⟨k1, k2, k3, k4, k5⟩ := hKV i (by omega)
      refine lv_iload_n hx hb dX5_wordFrom_2 rfl (lv_at hl 0 rfl) ?_
      refine va_gets hx hb hZw va_S.rf hown (hts _ zj_f_RX5_98) (fun _ h => h) dX5_wordFrom_3 ?_
      refine va_tlen hx hb hTw va_S.rf rfl dX5_wordFrom_6 ?_
      refine lv_icmp_ge (tgt := 39) hx hb dX5_wordFrom_7 (by decide) (fun h => absurd h (nI_ge (show i < 44 by omega) (by decide))) (fun _ => ?_)
      refine va_gets hx hb hZw va_S.rf hown (hts _ zj_f_RX5_98) (fun _ h => h) dX5_wordFrom_10 ?_
      refine lv_iload_n hx hb dX5_wordFrom_13 rfl (lv_at hl 0 rfl) ?_
      refine vb_tq hx hb hTw va_S.rf (vp_in_nI (show i < 44 by omega) (by decide)) (v := .ref (E.2.2.1 (1000 + i))) (by rw [nI_clamp (by omega)]) dX5_wordFrom_14 ?_
      refine vk_getf hx hb k1 va_S.rf hown (hts _ zj_f_RX5_101) (fun _ h => h) dX5_wordFrom_15 ?_
      refine lv_aload_n hx hb dX5_wordFrom_18 rfl (lv_at hl 1 rfl) ?_
      refine lv_iload_n hx hb dX5_wordFrom_19 rfl (lv_at hl 2 rfl) ?_
      refine lv_iload_n hx hb dX5_wordFrom_20 rfl (lv_at hl 3 rfl) ?_
      refine zw_callS (as := [.ref (adK i), .ref (E.2.2.1 765), .int (nI s), .int (nI e)]) (rest := []) (d := d + 5) hx hb hml hown hts (zw_isSpelled (av := adV i) (M := M) (d + 1) hT hse hen (by omega)) zw_T_st ⟨⟨k2, k3, k4, k5, hZc, hZs⟩, hP, hK⟩ zc_X5_isSpelled zj_l_isSp zj_t_isSp rfl hl.1 (Nat.le_of_ble_eq_true rfl) dX5_wordFrom_21 ?_
      cases hz : zk_sp i tp s e with
      | true =>
        refine lv_if_eq (tgt := 33) hx hb dX5_wordFrom_24 (by decide) (fun h => absurd h (by decide)) (fun _ => ?_)
        refine va_gets hx hb hZw va_S.rf hown (hts _ zj_f_RX5_98) (fun _ h => h) dX5_wordFrom_27 ?_
        refine lv_iload_n hx hb dX5_wordFrom_30 rfl (lv_at hl 0 rfl) ?_
        refine vb_tq hx hb hTw va_S.rf (vp_in_nI (show i < 44 by omega) (by decide)) (v := .ref (E.2.2.1 (1000 + i))) (by rw [nI_clamp (by omega)]) dX5_wordFrom_31 ?_
        refine W.aret (v := .ref (E.2.2.1 (1000 + i))) hx hb hr (Or.inl ⟨_, rfl⟩) (Or.inr ⟨_, rfl⟩) (fun t ht hW => ⟨⟨some (.ref (1000 + i)), M, rfl, ⟨?_, rfl⟩, by rw [ht]; exact hP⟩, va_S.rf.F ht⟩) (fun _ h => by cases h) dX5_wordFrom_32 hlk
        rw [← hwf]
        simp only [zk_wf, hz, if_true]
      | false =>
        refine lv_if_eq (tgt := 33) hx hb dX5_wordFrom_24 (by decide) (fun _ => ?_) (fun h => absurd rfl h)
        refine lv_iinc (k := 0) hx hb dX5_wordFrom_33 hl rfl (show nI i + Int32.ofInt 1 = nI (i + 1) from nI_1 i) (by decide) rfl (fun ls2 hl2 => ?_)
        refine lv_goto (tgt := 2) hx hb dX5_wordFrom_36 (by decide) ?_
        refine ih (i + 1) ls2 (by omega) ?_ hl2
        rw [← hwf]
        simp only [zk_wf, hz]
        rfl
  refine lv_iconst (v := 0) hx hb dX5_wordFrom_0 (by decide) ?_
  refine lv_istore_n hx hb dX5_wordFrom_1 rfl hl (by decide) rfl (fun ls2 hl2 => ?_)
  exact loop 44 0 ls2 rfl rfl hl2
