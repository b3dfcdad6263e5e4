/-! ===== the reference: readText, text ===== -/
section
variable {E : zm_E} {tp : Nat → Nat} {n : Nat}
theorem zu_bl (hE : zm_ok E.2.2.1 E.2.2.2.2) (d : Nat) {w p : Nat} {M : zm_M} (hw : w ≤ 2) {Qb : Option Value → zm_M → Prop} (h : zm_R E (d + 8) mX12_lawClause [.ref 0, .int (nI p)] M (fun r M' => ∃ x, r = some (.int x) ∧ Qb r M')) : zm_R E (d + 9) mX12_body [.ref 0, .int (nI w), .int (nI p)] M Qb := by
  refine zX12_body hE rfl (fun G h0 h40 h61 h84 h106 h107 h126 h137 h150 h164 => ?_)
  show G 0 [some (.ref 0), some (.int (nI w)), some (.int (nI p)), none] [] M
  have eqw : ∀ x : Nat, x < 10 → (nI w = nI x) = (w = x) := fun x hx => propext (nI_eq (by omega) (by omega))
  have q3 : (nI w = 3) = (w = 3) := eqw 3 (by decide)
  have q4 : (nI w = 4) = (w = 4) := eqw 4 (by decide)
  have q5 : (nI w = 5) = (w = 5) := eqw 5 (by decide)
  have q6 : (nI w = 6) = (w = 6) := eqw 6 (by decide)
  have q7 : (nI w = 7) = (w = 7) := eqw 7 (by decide)
  have q8 : (nI w = 8) = (w = 8) := eqw 8 (by decide)
  have gt2 : ((2 : Int32) < nI w) = (2 < w) := propext (nI_ltI (a := 2) (by decide) (by omega))
  refine h0 _ _ _ ?_
  simp only [bX12_body_0, zw_0, zw_1, zs_iloadn1, zs_tsw, zm_sw, zb_0, za_1, za_2, za_3, za_4, za_5, za_6, za_7, za_8, za_9, za_10, za_11, za_12, za_13, za_14, true_and, and_true, Nat.reduceAdd, q3, q4, q5, q6, q7, q8]
  refine ⟨fun z => by omega, fun _ => ⟨fun z => by omega, fun _ => ⟨fun z => by omega, fun _ => ⟨fun z => by omega, fun _ => ⟨fun z => by omega, fun _ => ⟨fun z => by omega, fun _ => ?_⟩⟩⟩⟩⟩⟩
  refine h137 _ _ _ ?_
  simp only [bX12_body_137, zw_0, zw_1, zs_iloadn1, zs_iconst, zs_icgt, zs_aloadn0, zs_aloadNn0, zs_iloadn2, zi_12_231, zs_goto, zh_0, zh_1, zh_2, zh_3, zh_4, zt_i, zt_l, zt_r, zt_n, zb_0, za_1, za_2, za_3, za_4, za_5, za_6, za_7, za_8, za_9, za_10, za_11, za_12, za_13, za_14, true_and, and_true, Nat.reduceAdd, gt2]
  refine ⟨fun z => by omega, fun _ => ?_⟩
  refine zm_R_mono h (fun r M1 h1 => ?_)
  obtain ⟨x, rfl, h1⟩ := h1
  simp only [bX12_body_137, zw_0, zw_1, zs_iloadn1, zs_iconst, zs_icgt, zs_aloadn0, zs_aloadNn0, zs_iloadn2, zi_12_231, zs_goto, zh_0, zh_1, zh_2, zh_3, zh_4, zt_i, zt_l, zt_r, zt_n, zb_0, za_1, za_2, za_3, za_4, za_5, za_6, za_7, za_8, za_9, za_10, za_11, za_12, za_13, za_14, true_and, and_true, Nat.reduceAdd]
  refine h164 _ _ _ ?_
  simp only [bX12_body_164, zw_0, zw_1, zs_ireturn, zn_int, zn_b0, zn_b1, zb_0, za_1, za_2, za_3, za_4, za_5, za_6, za_7, za_8, za_9, za_10, za_11, za_12, za_13, za_14, true_and, and_true, Nat.reduceAdd]
  exact h1
theorem zu_e {m k k' nn : Nat} (hm : zk_st tp n m = n) (ht : ∀ j, tp j < 256) (s2 : k ≤ m) (lt : nn < 24) (h43 : ¬ zs_T tp n k = 43) (w2 : ¬ zs_T tp n k ≤ 2) (h9 : zs_T tp n k < 9) (hO : zc_f (zs_T tp n) (zs_N tp n) (zs_T tp n k) (k + 1) = none ∧ k' = k + 1 + zc_e (zs_T tp n k)) : k' ≤ m := by
  have up : ∀ i, i ≤ m → ¬ zs_T tp n i = 43 → i + 1 ≤ m := fun i hi h => (zs_T_lt hm ht hi h).1
  have b0 := up k s2 h43
  have pr : ∀ x h, x < 28 → zc_pr (zs_T tp n) (zs_N tp n) x h (k + 1) = none → k + 4 ≤ m := by
    intro x h hx hp
    unfold zc_pr at hp
    split at hp
    · cases hp
    next t1 =>
    split at hp
    · cases hp
    split at hp
    · cases hp
    next t2 =>
    split at hp
    · cases hp
    next t3 =>
    have b1 := up (k + 1) b0 (by have := Classical.byContradiction t1; omega)
    have b2 := up (k + 1 + 1) b1 (by have := Classical.byContradiction t2; omega)
    exact up (k + 1 + 2) b2 (by have := Classical.byContradiction t3; omega)
  rw [hO.2]
  have hf := hO.1
  generalize zs_T tp n k = w at *
  unfold zc_f at hf
  unfold zc_e
  by_cases e8 : w = 8
  · rw [if_pos e8] at hf ⊢
    unfold zc_dy at hf
    split at hf
    · cases hf
    next t1 =>
    exact up (k + 1) b0 (by have := Classical.byContradiction t1; omega)
  rw [if_neg e8] at hf ⊢
  by_cases e5 : w = 5
  · rw [if_pos e5] at hf ⊢
    rw [Option.or_eq_none_iff] at hf
    have b4 := pr 14 9 (by decide) hf.1
    have hs := hf.2
    unfold zc_sz at hs
    split at hs
    · cases hs
    next t1 =>
    split at hs
    · cases hs
    next t2 =>
    have b5 := up (k + 1 + 3) b4 (by have := Classical.byContradiction t1; omega)
    exact up (k + 1 + 4) b5 (by have := Classical.byContradiction t2; omega)
  rw [if_neg e5] at hf ⊢
  by_cases e3 : w = 3
  · rw [if_pos e3] at hf
    exact pr 17 9 (by decide) hf
  rw [if_neg e3] at hf
  by_cases e6 : w = 6
  · rw [if_pos e6] at hf
    exact pr 15 99 (by decide) hf
  rw [if_neg e6] at hf
  exact pr 14 9 (by decide) hf
theorem c_readText (hE : zm_ok E.2.2.1 E.2.2.2.2) (d : Nat) {m t : Nat} {M : zm_M} (ht4 : t < 4) (hm : zk_st tp n m = n) (m3 : m ≤ 300) (hT : zk_tm tp n M) (h1 : M.1 1 1 = nI t) {Fa : Nat → Nat → Prop} {Fi : Nat → zt_X → Prop} (run : ∀ G, zt_ru (zs_T tp n) (zs_N tp n) G Fa Fi → G 0 0 zt_0) : zm_R E (d + 11) mX12_readText [.ref 0] M (fun r M' => zu_F t M M' ∧ ((∃ f j, (1 ≤ f ∧ f ≤ 6) ∧ Fa f j ∧ r = some (.int (nI f)) ∧ M'.1 0 8 = nI (zk_st tp n j)) ∨ (∃ nc X, Fi nc X ∧ r = some (.int 0) ∧ zl_cm M' t nc X.1 X.2.1 X.2.2.1 X.2.2.2.1 ∧ ∀ w, w < 3 → zl_m M' t w (X.2.2.2.2 w) ∧ zDo w (X.2.2.2.2 w)))) := by
  refine zX12_readText hE rfl (fun G h0 h43 h61 h64 => ?_)
  show G 0 [some (.ref 0), none] [] M
  have ht := hT.2.2.2
  have step : ∀ k nn X c mk M1, zu_S tp n m t k nn c X mk M1 → zu_F t M M1 → ¬ zs_T tp n k = 43 → zm_R E (d + 10) mX12_clause [.ref 0] M1 (fun r M2 => (∃ f j, (1 ≤ f ∧ f ≤ 6) ∧ Fa f j ∧ r = some (.int (nI f)) ∧ M2.1 0 8 = nI (zk_st tp n j) ∧ zu_F t M M2) ∨ (r = some (.int 0) ∧ ∀ l1, G 43 [some (.ref 0), l1] [] M2)) → ∀ l1, G 43 [some (.ref 0), l1] [] M1 := by
    intro k nn X c mk M1 S1 F1 n43 hc l1
    have k9 := S1.1.2.2.2.1
    have so := zk_so_lt ht n (zk_st tp n k)
    have e0 : (nI (zk_so tp n (zk_st tp n k)) = 0) = False := by
      refine eq_false (fun z => n43 ?_)
      have := (nI_eq (b := 0) (by omega) (by decide)).mp z
      unfold zs_T
      rw [(zk_stop ht).1]; exact this
    refine h43 _ _ _ ?_
    simp only [bX12_readText_43, zw_0, zw_1, zs_aloadn0, zs_aloadNn0, zg_12_98, zs_ifeq, zi_12_248, zs_istoren1, zs_iloadn1, zs_ireturn, zc_none, zc_int, zc_ref, zc_null, zc_long, zh_0, zh_1, zh_2, zh_3, zh_4, zt_i, zt_l, zt_r, zt_n, zn_int, zn_b0, zn_b1, zb_0, za_1, za_2, za_3, za_4, za_5, za_6, za_7, za_8, za_9, za_10, za_11, za_12, za_13, za_14, true_and, and_true, Nat.reduceAdd, k9, e0]
    refine ⟨fun z => absurd z id, fun _ => ?_⟩
    refine zm_R_mono hc (fun r M2 h2 => ?_)
    rcases h2 with ⟨f, j, a1, a2, rfl, a4, a5⟩ | ⟨rfl, a2⟩
    · simp only [bX12_readText_43, zw_0, zw_1, zs_aloadn0, zs_aloadNn0, zg_12_98, zs_ifeq, zi_12_248, zs_istoren1, zs_iloadn1, zs_ireturn, zc_none, zc_int, zc_ref, zc_null, zc_long, zh_0, zh_1, zh_2, zh_3, zh_4, zt_i, zt_l, zt_r, zt_n, zn_int, zn_b0, zn_b1, zb_0, za_1, za_2, za_3, za_4, za_5, za_6, za_7, za_8, za_9, za_10, za_11, za_12, za_13, za_14, true_and, and_true, Nat.reduceAdd]
      refine ⟨fun z => absurd z (nI_ne0 (by omega) (by omega)), fun _ => ?_⟩
      exact ⟨a5, Or.inl ⟨f, j, a1, a2, rfl, a4⟩⟩
    · simp only [bX12_readText_43, zw_0, zw_1, zs_aloadn0, zs_aloadNn0, zg_12_98, zs_ifeq, zi_12_248, zs_istoren1, zs_iloadn1, zs_ireturn, zc_none, zc_int, zc_ref, zc_null, zc_long, zh_0, zh_1, zh_2, zh_3, zh_4, zt_i, zt_l, zt_r, zt_n, zn_int, zn_b0, zn_b1, zb_0, za_1, za_2, za_3, za_4, za_5, za_6, za_7, za_8, za_9, za_10, za_11, za_12, za_13, za_14, true_and, and_true, Nat.reduceAdd]
      refine ⟨fun _ => ?_, fun z => absurd trivial z⟩
      refine h61 _ _ _ ?_
      simp only [bX12_readText_61, zw_0, zw_1, zs_goto, zb_0, za_1, za_2, za_3, za_4, za_5, za_6, za_7, za_8, za_9, za_10, za_11, za_12, za_13, za_14, true_and, and_true, Nat.reduceAdd]
      exact a2 _
  have hru : zt_ru (zs_T tp n) (zs_N tp n) (fun k nn X => ∀ c mk M1, zu_S tp n m t k nn c X mk M1 → zu_F t M M1 → ∀ l1, G 43 [some (.ref 0), l1] [] M1) Fa Fi := by
    have nbit : ∀ {k nn c mk : Nat} {X : zt_X} {M1 : zm_M} {w : Nat}, zu_S tp n m t k nn c X mk M1 → w ≤ 2 → X.2.2.2.2 w = none → mk.testBit w = false := fun S h z => by rw [S.2.2.2.2.2.2.2.1 _ (by omega), z]; rfl
    refine ⟨fun k nn X n43 hf c mk M1 S1 F1 l1 => ?_, fun k nn X n43 h9 hf c mk M1 S1 F1 => step k nn X c mk M1 S1 F1 n43 ?_, fun k nn X h2 hs hf c mk M1 S1 F1 => step k nn X c mk M1 S1 F1 (by omega) ?_, fun k X h9 hnone hf c mk M1 S1 F1 => step k 24 X c mk M1 S1 F1 (by omega) ?_, fun k nn X lt h9 hnone => ⟨fun f j hF hf c mk M1 S1 F1 => step k nn X c mk M1 S1 F1 (by omega) ?_, fun k' D hO => ⟨fun t40 hf c mk M1 S1 F1 => step k nn X c mk M1 S1 F1 (by omega) ?_, fun t40 hg c mk M1 S1 F1 => step k nn X c mk M1 S1 F1 (by omega) ?_⟩⟩⟩
    · have k9 := S1.1.2.2.2.1
      have e0 : zk_so tp n (zk_st tp n k) = 0 := by
        unfold zs_T at n43
        rw [(zk_stop ht).1] at n43; exact n43
      rw [e0] at k9
      refine h43 _ _ _ ?_
      simp only [bX12_readText_43, zw_0, zw_1, zs_aloadn0, zs_aloadNn0, zg_12_98, zs_ifeq, zi_12_248, zs_istoren1, zs_iloadn1, zs_ireturn, zc_none, zc_int, zc_ref, zc_null, zc_long, zh_0, zh_1, zh_2, zh_3, zh_4, zt_i, zt_l, zt_r, zt_n, zn_int, zn_b0, zn_b1, zb_0, za_1, za_2, za_3, za_4, za_5, za_6, za_7, za_8, za_9, za_10, za_11, za_12, za_13, za_14, true_and, and_true, Nat.reduceAdd, k9]
      refine ⟨fun _ => ?_, fun z => absurd rfl z⟩
      refine h64 _ _ _ ?_
      simp only [bX12_readText_64, zw_0, zw_1, zs_iconst, zs_ireturn, zn_int, zn_b0, zn_b1, zb_0, za_1, za_2, za_3, za_4, za_5, za_6, za_7, za_8, za_9, za_10, za_11, za_12, za_13, za_14, true_and, and_true, Nat.reduceAdd]
      obtain ⟨s1, s2, s3, s4, s5, s6, s7, s8, s9, s10⟩ := S1
      exact ⟨F1, Or.inr ⟨nn, X, hf, s9, fun w hw => zu_lw_m (s10 w hw) s9.1 s9.2.1 (by omega)⟩⟩
    all_goals obtain ⟨s1, s2, s3, s4, s5, s6, s7, s8, s9, s10⟩ := id S1
    · refine zu_clause hE d ht4 hm s2 n43 s1.1 s1.2 s3 s6 s7 s9.2.1 s9.1 (fun _ => Or.inl ⟨1, k, by decide, hf, rfl, s1.2.1, F1⟩) (fun a _ => absurd h9 (by omega)) (fun _ a => absurd a h9) (fun _ a => absurd a h9)
    · have tb : mk.testBit (zs_T tp n k) = true := by
        rw [s8 _ (by omega)]
        cases hx : X.2.2.2.2 (zs_T tp n k) with
        | none => exact absurd hx hs
        | some y => rfl
      refine zu_clause hE d ht4 hm s2 (by omega) s1.1 s1.2 s3 s6 s7 s9.2.1 s9.1 (fun z => absurd (show zs_T tp n k < 9 by omega) z) (fun _ _ => Or.inl ⟨4, k, by decide, hf, rfl, s1.2.1, F1⟩) (fun _ _ z => by rw [tb] at z; exact absurd (z h2) (by decide)) (fun _ _ z => by rw [tb] at z; exact absurd (z h2) (by decide))
    · refine zu_clause hE d ht4 hm s2 (by omega) s1.1 s1.2 s3 s6 s7 s9.2.1 s9.1 (fun z => absurd h9 z) (fun a b => by rw [nbit S1 a (hnone a)] at b; exact absurd b (by decide)) (fun _ _ _ => Or.inl ⟨6, k, by decide, hf, rfl, s1.2.1, F1⟩) (fun z => absurd z (by omega))
    · -- a fault in the body
      refine zu_clause hE d ht4 hm s2 (by omega) s1.1 s1.2 s3 s6 s7 s9.2.1 s9.1 (fun z => absurd h9 z) (fun a b => by rw [nbit S1 a (hnone a)] at b; exact absurd b (by decide)) (fun z => absurd z (by omega)) (fun _ _ _ M3 U3 => ⟨fun f' M' => f' = f ∧ (1 ≤ f ∧ f ≤ 5) ∧ M'.1 0 8 = nI (zk_st tp n j) ∧ zu_F t M M', ?_, fun f' M' _ _ h => ?_, fun M' h => absurd h.2.1.1 (by omega)⟩)
      · have F3 := zu_F_trans F1 (zu_F_33 U3 lt)
        obtain ⟨u1, u2, u3, u4, u5, u6, u7, u8⟩ := U3
        by_cases w2 : zs_T tp n k ≤ 2
        · refine zu_bl hE d w2 ((zu_law hE d (m := m) (b := 705 * t) (c0 := c) w2 hm (by omega) (by omega) (by omega) u1 u2 (by rw [u7 12 (by decide)]; exact s3) (by rw [u7 13 (by decide)]; exact s4) u3 (by omega) (zs_T_lt hm ht s2 (by omega)).1 m3).2 f j hF (fun l2 M4 b1 b2 b3 => ?_))
          exact ⟨_, rfl, f, rfl, by omega, rfl, l2, b2.1, zu_F_trans F3 (zu_F_L b3 lt)⟩
        · unfold zc_F at hF
          rw [if_neg w2] at hF
          refine zm_R_mono (zu_act hE d (by omega) (by omega) u1 u2 (by omega)) (fun r M4 h4 => ?_)
          obtain ⟨T4, B4, h4⟩ := h4
          rcases h4 with ⟨a1, _⟩ | ⟨f2, j2, a1, a2, rfl, a4⟩
          · rw [hF] at a1; cases a1
          · rw [hF] at a1
            cases a1
            exact ⟨f, rfl, by omega, rfl, by omega, a4.1, zu_F_trans F3 (zu_F_A B4 lt)⟩
      · obtain ⟨rfl, h2, h3, h4⟩ := h
        exact Or.inl ⟨f', j, by omega, hf, rfl, h3, h4⟩
    · -- no semicolon
      refine zu_clause hE d ht4 hm s2 (by omega) s1.1 s1.2 s3 s6 s7 s9.2.1 s9.1 (fun z => absurd h9 z) (fun a b => by rw [nbit S1 a (hnone a)] at b; exact absurd b (by decide)) (fun z => absurd z (by omega)) (fun _ _ _ M3 U3 => ⟨fun f' M' => f' = 0 ∧ k' ≤ m ∧ M'.1 0 12 = nI (705 * t) ∧ M'.1 3 (705 * t) = nI nn ∧ zk_tm tp n M' ∧ zk_at tp n (zk_st tp n k') M' ∧ zu_F t M M', ?_, fun f' M' z _ h => absurd h.1 z, fun M' h => ⟨k', h.2.1, h.2.2.1, h.2.2.2.1, h.2.2.2.2.1, h.2.2.2.2.2.1, fun _ => ?_, fun z => absurd z t40⟩⟩)
      · have F3 := zu_F_trans F1 (zu_F_33 U3 lt)
        obtain ⟨u1, u2, u3, u4, u5, u6, u7, u8⟩ := U3
        have c3 : M3.1 3 (705 * t) = nI nn := by rw [u5, if_neg (by omega)]; exact s9.1
        have c12 : M3.1 0 12 = nI (705 * t) := by rw [u7 12 (by decide)]; exact s3
        by_cases w2 : zs_T tp n k ≤ 2
        · refine zu_bl hE d w2 ((zu_law hE d (m := m) (b := 705 * t) (c0 := c) w2 hm (by omega) (by omega) (by omega) u1 u2 c12 (by rw [u7 13 (by decide)]; exact s4) u3 (by omega) (zs_T_lt hm ht s2 (by omega)).1 m3).1 k' D hO (fun cs M4 b1 b2 b3 b4 b5 b6 b7 b8 b9 b10 => ?_))
          exact ⟨_, rfl, 0, rfl, by omega, rfl, b9, by rw [b10.2.1 12 (by decide)]; exact c12, by rw [b10.2.2.1 _ (by omega) (by omega) (by omega)]; exact c3, b1, b2, zu_F_trans F3 (zu_F_L b10 lt)⟩
        · unfold zc_O at hO
          rw [if_neg w2] at hO
          refine zm_R_mono (zu_act hE d (by omega) (by omega) u1 u2 (by omega)) (fun r M4 h4 => ?_)
          obtain ⟨T4, B4, h4⟩ := h4
          rcases h4 with ⟨a1, rfl, a3, a4⟩ | ⟨f2, j2, a1, a2, rfl, a4⟩
          · rw [← hO.2] at a3
            exact ⟨0, rfl, by omega, rfl, zu_e hm ht s2 lt (by omega) w2 h9 hO, by rw [B4.2.1 12 (by decide)]; exact c12, by rw [B4.2.2.1 _ (by omega)]; exact c3, T4, a3, zu_F_trans F3 (zu_F_A B4 lt)⟩
          · rw [hO.1] at a1; cases a1
      · exact Or.inl ⟨1, k', by decide, hf, rfl, by rw [zm_wi_other (by decide)]; exact h.2.2.2.2.2.1.1, zu_F_trans h.2.2.2.2.2.2 zu_F_w⟩
    · -- and one more
      refine zu_clause hE d ht4 hm s2 (by omega) s1.1 s1.2 s3 s6 s7 s9.2.1 s9.1 (fun z => absurd h9 z) (fun a b => by rw [nbit S1 a (hnone a)] at b; exact absurd b (by decide)) (fun z => absurd z (by omega)) (fun _ _ _ M3 U3 => ⟨fun f' M' => f' = 0 ∧ (k' ≤ m ∧ M'.1 0 12 = nI (705 * t) ∧ M'.1 3 (705 * t) = nI nn ∧ zk_tm tp n M' ∧ zk_at tp n (zk_st tp n k') M' ∧ zu_F t M M') ∧ ∃ c', c' ≤ k' ∧ c ≤ c' ∧ M'.1 0 13 = nI c' ∧ M'.1 0 19 = M3.1 0 19 ∧ (∀ j, ¬ (705 * t + 1 + 4 * nn + 1 ≤ j ∧ j ≤ 705 * t + 1 + 4 * nn + 3) → j < 705 * t + 97 + 2 * c → M'.1 3 j = M3.1 3 j) ∧ zy_a (nI (zs_T tp n k)) (nI (zs_N tp n (k + 1))) (nI (zs_N tp n (k + 1 + 2))) (nI (zs_N tp n (k + 1 + 4))) (M'.1 3 (705 * t + 1 + 4 * nn + 1)) (M'.1 3 (705 * t + 1 + 4 * nn + 2)) (M'.1 3 (705 * t + 1 + 4 * nn + 3)) ∧ (zs_T tp n k ≤ 2 → zD_ok (zs_T tp n k) D ∧ ∃ cs, M'.1 3 (705 * t + 1 + 4 * nn + 1) = nI c ∧ M'.1 3 (705 * t + 1 + 4 * nn + 2) = nI (c + cs.length) ∧ c + cs.length ≤ c' ∧ zh_cs (705 * t + 97 + 2 * c) cs (M'.1 3) ∧ zs_mn cs D), ?_, fun f' M' z _ h => absurd h.1 z, fun M' h => ?_⟩)
      · have F3 := zu_F_trans F1 (zu_F_33 U3 lt)
        obtain ⟨u1, u2, u3, u4, u5, u6, u7, u8⟩ := U3
        have c3 : M3.1 3 (705 * t) = nI nn := by rw [u5, if_neg (by omega)]; exact s9.1
        have c12 : M3.1 0 12 = nI (705 * t) := by rw [u7 12 (by decide)]; exact s3
        have c13 : M3.1 0 13 = nI c := by rw [u7 13 (by decide)]; exact s4
        by_cases w2 : zs_T tp n k ≤ 2
        · have ok : zD_ok (zs_T tp n k) D := by
            unfold zc_O at hO
            rw [if_pos w2] at hO
            exact hO.1
          refine zu_bl hE d w2 ((zu_law hE d (m := m) (b := 705 * t) (c0 := c) w2 hm (by omega) (by omega) (by omega) u1 u2 c12 c13 u3 (by omega) (zs_T_lt hm ht s2 (by omega)).1 m3).1 k' D hO (fun cs M4 b1 b2 b3 b4 b5 b6 b7 b8 b9 b10 => ?_))
          have ne : ∀ x : Nat, x < 10 → zs_T tp n k ≠ x → nI (zs_T tp n k) ≠ nI x := fun x hx h z => h ((nI_eq (by omega) (by omega)).mp z)
          refine ⟨_, rfl, 0, rfl, by omega, rfl, ⟨b9, by rw [b10.2.1 12 (by decide)]; exact c12, by rw [b10.2.2.1 _ (by omega) (by omega) (by omega)]; exact c3, b1, b2, zu_F_trans F3 (zu_F_L b10 lt)⟩, c + cs.length, b8, by omega, b4, b10.2.1 19 (by decide), fun j j1 j2 => b10.2.2.1 j (by omega) (by omega) (by omega), ⟨fun z => ?_, fun z => absurd z (ne 5 (by decide) (by omega)), fun z => absurd z (ne 8 (by decide) (by omega))⟩, fun _ => ⟨ok, cs, b6, b7, Nat.le_refl _, b5, b3⟩⟩
          rcases z with z | z | z | z | z
          · exact absurd z (ne 3 (by decide) (by omega))
          · exact absurd z (ne 4 (by decide) (by omega))
          · exact absurd z (ne 5 (by decide) (by omega))
          · exact absurd z (ne 6 (by decide) (by omega))
          · exact absurd z (ne 7 (by decide) (by omega))
        · have hO2 := hO
          unfold zc_O at hO2
          rw [if_neg w2] at hO2
          have e0 : k + 1 ≤ k' := by rw [hO2.2]; omega
          refine zm_R_mono (zu_act hE d (by omega) (by omega) u1 u2 (by omega)) (fun r M4 h4 => ?_)
          obtain ⟨T4, B4, h4⟩ := h4
          rcases h4 with ⟨a1, rfl, a3, a4⟩ | ⟨f2, j2, a1, a2, rfl, a4⟩
          · rw [← hO2.2] at a3
            exact ⟨0, rfl, by omega, rfl, ⟨zu_e hm ht s2 lt (by omega) w2 h9 hO2, by rw [B4.2.1 12 (by decide)]; exact c12, by rw [B4.2.2.1 _ (by omega)]; exact c3, T4, a3, zu_F_trans F3 (zu_F_A B4 lt)⟩, c, by omega, Nat.le_refl _, by rw [B4.2.1 13 (by decide)]; exact c13, B4.2.1 19 (by decide), fun j j1 _ => B4.2.2.1 j j1, a4, fun z => absurd z w2⟩
          · rw [hO2.1] at a1; cases a1
      · obtain ⟨_, ⟨b1, b2, b3, b4, b5, b6⟩, c', d1, d2, d3, d4, d5, d6, d7⟩ := h
        refine ⟨k', b1, b2, b3, b4, b5, fun z => absurd t40 z, fun _ M6 at6 f6 => Or.inr ⟨rfl, fun l1 => ?_⟩⟩
        have T5 : zk_tm tp n (zm_wi M' 3 (705 * t) (nI (nn + 1))) := ⟨b4.1, b4.2.1, b4.2.2.1, ht⟩
        exact hg c' _ M6 (zu_next h9 lt S1 hnone U3 b1 d1 d2 b2 d3 d4 d5 d6 d7 f6 (zk_tm_f T5 f6) at6 (zs_T_lt hm ht b1 (by omega)).1) (zu_F_trans (zu_F_trans b6 zu_F_w) (zu_F_f f6)) l1
  have v1 : vp_in (nI (705 * t)) 2820 := vp_in_nI (by omega) (by decide)
  have v2 : (nI (705 * t)).toNatClampNeg = 705 * t := nI_clamp (by omega)
  have em : (705 : Int32) * nI t = nI (705 * t) := pk_mul 705 t
  refine h0 _ _ _ ?_
  have c12 : (zm_wi M 0 12 (nI (705 * t))).1 0 12 = nI (705 * t) := by rw [zm_wi_same, if_pos rfl]
  simp only [bX12_readText_0, zw_0, zw_1, zs_aloadn0, zs_aloadNn0, zs_sipush, zg_12_7, zs_iconst, zs_iaload, zs_imul, zq_12_136, zg_12_16, zg_12_136, zs_iastore, zq_12_139, zq_12_241, zq_12_88, zi_12_165, zh_0, zh_1, zh_2, zh_3, zh_4, zt_i, zt_l, zt_r, zt_n, zb_0, za_1, za_2, za_3, za_4, za_5, za_6, za_7, za_8, za_9, za_10, za_11, za_12, za_13, za_14, zu_0, zu_1, zu_2, zu_3, zu_4, zu_5, zu_6, zu_7, zu_8, zu_9, zu_10, zu_11, zu_12, zu_13, zu_14, zu_15, zu_16, zu_17, zu_18, zu_19, zu_20, zu_21, zu_22, zu_23, zu_24, zu_25, zu_26, zu_27, zu_28, zu_29, zu_30, zu_90, zv_0_9, zv_1_9, zv_2_9, zv_3_9, zv_4_9, zv_5_9, zv_6_9, zv_7_9, zv_8_9, zv_0_330, zv_0_4544, zv_1_4544, zv_2_4544, zv_3_4544, zv_4_4544, zv_5_4544, zv_6_4544, zv_7_4544, zv_8_4544, zv_9_4544, zv_10_4544, zv_11_4544, zv_12_4544, zv_13_4544, zv_14_4544, zv_15_4544, zv_16_4544, zv_17_4544, zv_18_4544, zv_19_4544, zv_20_4544, zv_21_4544, zv_22_4544, zv_23_4544, zv_24_4544, zv_25_4544, zv_26_4544, zv_27_4544, zv_28_4544, zv_29_4544, zv_0_11, zv_1_11, zv_0_160, true_and, and_true, Nat.reduceAdd, h1, em, c12, v1, v2]
  have F0 : zu_F t M (zm_wi (zm_wi (zm_wi (zm_wi (zm_wi M 0 12 (nI (705 * t))) 3 (705 * t) 0) 0 13 0) 0 19 0) 0 7 0) := by
    refine ⟨zf_wi (zf_wi (zf_wi (zf_wi (zf_wi zf_refl (by decide)) (by decide)) (by decide)) (by decide)) (by decide), zg_wi (zg_wi (zg_wi (zg_wo (zg_wi zg_refl (by decide)) (by decide)) (by decide)) (by decide)) (by decide), fun j hj => ?_, fun _ _ => rfl⟩
    rw [zm_wi_other (by decide), zm_wi_other (by decide), zm_wi_other (by decide), zm_wi_same, if_neg (by omega), zm_wi_other (by decide)]
  have y0 : ∀ j, (zm_wi (zm_wi (zm_wi (zm_wi (zm_wi M 0 12 (nI (705 * t))) 3 (705 * t) 0) 0 13 0) 0 19 0) 0 7 0).1 0 j = if j = 7 then 0 else if j = 19 then 0 else if j = 13 then 0 else if j = 12 then nI (705 * t) else M.1 0 j := by
    intro j
    rw [zm_wi_same, zm_wi_same, zm_wi_same, zm_wi_other (by decide), zm_wi_same]
  have y3 : (zm_wi (zm_wi (zm_wi (zm_wi (zm_wi M 0 12 (nI (705 * t))) 3 (705 * t) 0) 0 13 0) 0 19 0) 0 7 0).1 3 (705 * t) = 0 := by rw [zm_wi_other (by decide), zm_wi_other (by decide), zm_wi_other (by decide), zm_wi_same, if_pos rfl]
  generalize zm_wi (zm_wi (zm_wi (zm_wi (zm_wi M 0 12 (nI (705 * t))) 3 (705 * t) 0) 0 13 0) 0 19 0) 0 7 0 = M0 at *
  have T0 : zk_tm tp n M0 := ⟨hT.1, by rw [y0]; exact hT.2.1, fun i hi => by rw [(F0.1 4 (by decide)).1]; exact hT.2.2.1 i hi, ht⟩
  refine c_nextToken hE (d + 8) T0 (p := 0) (by rw [y0]; rfl) (Nat.zero_le _) (fun M1 a1 f1 => ?_)
  simp only [bX12_readText_0, zw_0, zw_1, zs_aloadn0, zs_aloadNn0, zs_sipush, zg_12_7, zs_iconst, zs_iaload, zs_imul, zq_12_136, zg_12_16, zg_12_136, zs_iastore, zq_12_139, zq_12_241, zq_12_88, zi_12_165, zh_0, zh_1, zh_2, zh_3, zh_4, zt_i, zt_l, zt_r, zt_n, zb_0, za_1, za_2, za_3, za_4, za_5, za_6, za_7, za_8, za_9, za_10, za_11, za_12, za_13, za_14, zu_0, zu_1, zu_2, zu_3, zu_4, zu_5, zu_6, zu_7, zu_8, zu_9, zu_10, zu_11, zu_12, zu_13, zu_14, zu_15, zu_16, zu_17, zu_18, zu_19, zu_20, zu_21, zu_22, zu_23, zu_24, zu_25, zu_26, zu_27, zu_28, zu_29, zu_30, zu_90, zv_0_9, zv_1_9, zv_2_9, zv_3_9, zv_4_9, zv_5_9, zv_6_9, zv_7_9, zv_8_9, zv_0_330, zv_0_4544, zv_1_4544, zv_2_4544, zv_3_4544, zv_4_4544, zv_5_4544, zv_6_4544, zv_7_4544, zv_8_4544, zv_9_4544, zv_10_4544, zv_11_4544, zv_12_4544, zv_13_4544, zv_14_4544, zv_15_4544, zv_16_4544, zv_17_4544, zv_18_4544, zv_19_4544, zv_20_4544, zv_21_4544, zv_22_4544, zv_23_4544, zv_24_4544, zv_25_4544, zv_26_4544, zv_27_4544, zv_28_4544, zv_29_4544, zv_0_11, zv_1_11, zv_0_160, true_and, and_true, Nat.reduceAdd]
  have k3 : M1.1 3 = M0.1 3 := (f1.1 3 (by decide)).1
  refine run _ hru 0 0 M1 ⟨⟨zk_tm_f T0 f1, a1⟩, Nat.zero_le _, ?_, ?_, Nat.le_refl _, ?_, by decide, fun w hw => ?_, ⟨?_, by decide, fun k hk => absurd hk (by omega)⟩, fun w hw i hi => absurd hi (by omega)⟩ (zu_F_trans F0 (zu_F_f f1)) _
  · rw [f1.2.1 12 (by decide), y0]; rfl
  · rw [f1.2.1 13 (by decide), y0]; rfl
  · rw [f1.2.1 19 (by decide), y0]; rfl
  · rw [Nat.zero_testBit]; rfl
  · rw [k3, y3]; rfl
theorem c_text (hE : zm_ok E.2.2.1 E.2.2.2.2) (d : Nat) {m t : Nat} {M : zm_M} (ht4 : t ≤ 4) (hm : zk_st tp n m = n) (m3 : m ≤ 300) (hT : zk_tm tp n M) (h1 : M.1 1 1 = nI t) {Fa : Nat → Nat → Prop} {Fi : Nat → zt_X → Prop} (run : t < 4 → ∀ G, zt_ru (zs_T tp n) (zs_N tp n) G Fa Fi → G 0 0 zt_0) : zm_R E (d + 12) mX12_text [.ref 0] M (fun r M' => (t = 4 ∧ r = some (.int (-1)) ∧ M' = M) ∨ (t < 4 ∧ zf [0, 1, 3, 5] M M' ∧ zg 0 [4, 5, 6, 7, 8, 9, 10, 12, 13, 14, 16, 17, 18, 19] M M' ∧ (∀ j, j < 705 * t ∨ 705 * t + 705 ≤ j → M'.1 3 j = M.1 3 j) ∧ M'.1 0 4 = 0 ∧ ((∃ f j, (1 ≤ f ∧ f ≤ 6) ∧ Fa f j ∧ r = some (.int (-1)) ∧ M'.1 0 5 = nI f ∧ M'.1 0 6 = nI (zk_st tp n j) ∧ M'.1 1 = M.1 1) ∨ (∃ nc X, Fi nc X ∧ r = some (.int (nI t)) ∧ M'.1 0 5 = 0 ∧ M'.1 0 6 = -1 ∧ (∀ j, M'.1 1 j = if j = 1 then nI (t + 1) else M.1 1 j) ∧ zl_cm M' t nc X.1 X.2.1 X.2.2.1 X.2.2.2.1 ∧ ∀ w, w < 3 → zl_m M' t w (X.2.2.2.2 w) ∧ zDo w (X.2.2.2.2 w))))) := by
  refine zX12_text hE rfl (fun G h0 h12 h32 h36 h53 => ?_)
  show G 0 [some (.ref 0)] [] M
  have e4 : (nI t = 4) = (t = 4) := propext (nI_eq (b := 4) (by omega) (by decide))
  refine h0 _ _ _ ?_
  simp only [bX12_text_0, zw_0, zw_1, zs_aloadn0, zs_aloadNn0, zg_12_7, zs_iconst, zs_iaload, zs_icne, zs_ireturn, zn_int, zn_b0, zn_b1, zb_0, za_1, za_2, za_3, za_4, za_5, za_6, za_7, za_8, za_9, za_10, za_11, za_12, za_13, za_14, zu_0, zu_1, zu_2, zu_3, zu_4, zu_5, zu_6, zu_7, zu_8, zu_9, zu_10, zu_11, zu_12, zu_13, zu_14, zu_15, zu_16, zu_17, zu_18, zu_19, zu_20, zu_21, zu_22, zu_23, zu_24, zu_25, zu_26, zu_27, zu_28, zu_29, zu_30, zu_90, zv_0_9, zv_1_9, zv_2_9, zv_3_9, zv_4_9, zv_5_9, zv_6_9, zv_7_9, zv_8_9, zv_0_330, zv_0_4544, zv_1_4544, zv_2_4544, zv_3_4544, zv_4_4544, zv_5_4544, zv_6_4544, zv_7_4544, zv_8_4544, zv_9_4544, zv_10_4544, zv_11_4544, zv_12_4544, zv_13_4544, zv_14_4544, zv_15_4544, zv_16_4544, zv_17_4544, zv_18_4544, zv_19_4544, zv_20_4544, zv_21_4544, zv_22_4544, zv_23_4544, zv_24_4544, zv_25_4544, zv_26_4544, zv_27_4544, zv_28_4544, zv_29_4544, zv_0_11, zv_1_11, zv_0_160, true_and, and_true, Nat.reduceAdd, h1, e4]
  refine ⟨fun n4 => ?_, fun y4 => Or.inl y4⟩
  have lt : t < 4 := by omega
  refine h12 _ _ _ ?_
  simp only [bX12_text_12, zw_0, zw_1, zs_aloadn0, zs_aloadNn0, zi_12_251, zq_12_22, zg_12_22, zs_ifne, zs_iconst, zs_goto, zh_0, zh_1, zh_2, zh_3, zh_4, zt_i, zt_l, zt_r, zt_n, zb_0, za_1, za_2, za_3, za_4, za_5, za_6, za_7, za_8, za_9, za_10, za_11, za_12, za_13, za_14, true_and, and_true, Nat.reduceAdd]
  refine zm_R_mono (c_readText hE d lt hm m3 hT h1 (run lt)) (fun r M1 h1' => ?_)
  obtain ⟨F1, h1'⟩ := h1'
  have k1 : M1.1 1 = M.1 1 := (F1.1 1 (by decide)).1
  have fr : ∀ x y, zf [0, 1, 3, 5] M (zm_wi (zm_wi (zm_wi M1 0 5 x) 0 6 y) 0 4 0) ∧ zg 0 [4, 5, 6, 7, 8, 9, 10, 12, 13, 14, 16, 17, 18, 19] M (zm_wi (zm_wi (zm_wi M1 0 5 x) 0 6 y) 0 4 0) ∧ (∀ j, j < 705 * t ∨ 705 * t + 705 ≤ j → (zm_wi (zm_wi (zm_wi M1 0 5 x) 0 6 y) 0 4 0).1 3 j = M.1 3 j) ∧ (∀ j, (zm_wi (zm_wi (zm_wi M1 0 5 x) 0 6 y) 0 4 0).1 0 j = if j = 4 then 0 else if j = 6 then y else if j = 5 then x else M1.1 0 j) := by
    intro x y
    refine ⟨zf_wi (zf_wi (zf_wi (zf_sub F1.1 (by simp)) (by decide)) (by decide)) (by decide), zg_wi (zg_wi (zg_wi (zg_sub F1.2.1 (by simp)) (by decide)) (by decide)) (by decide), fun j hj => ?_, fun j => by rw [zm_wi_same, zm_wi_same, zm_wi_same]⟩
    rw [zm_wi_other (by decide), zm_wi_other (by decide), zm_wi_other (by decide)]; exact F1.2.2.1 j hj
  rcases h1' with ⟨f, j, a1, a2, rfl, a4⟩ | ⟨nc, X, a1, rfl, a3, a4⟩
  · have b5 : (zm_wi M1 0 5 (nI f)).1 0 5 = nI f := by rw [zm_wi_same, if_pos rfl]
    have b8 : (zm_wi M1 0 5 (nI f)).1 0 8 = nI (zk_st tp n j) := by rw [zm_wi_same, if_neg (by decide)]; exact a4
    have e0 : (nI f = 0) = False := eq_false (nI_ne0 (by omega) (by omega))
    simp only [bX12_text_12, zw_0, zw_1, zs_aloadn0, zs_aloadNn0, zi_12_251, zq_12_22, zg_12_22, zs_ifne, zs_iconst, zs_goto, zh_0, zh_1, zh_2, zh_3, zh_4, zt_i, zt_l, zt_r, zt_n, zb_0, za_1, za_2, za_3, za_4, za_5, za_6, za_7, za_8, za_9, za_10, za_11, za_12, za_13, za_14, true_and, and_true, Nat.reduceAdd, b5, e0]
    refine ⟨fun _ => ?_, fun z => absurd z id⟩
    refine h32 _ _ _ ?_
    simp only [bX12_text_32, zw_0, zw_1, zs_aloadn0, zs_aloadNn0, zg_12_95, zb_0, za_1, za_2, za_3, za_4, za_5, za_6, za_7, za_8, za_9, za_10, za_11, za_12, za_13, za_14, true_and, and_true, Nat.reduceAdd, b8]
    refine h36 _ _ _ ?_
    obtain ⟨g1, g2, g3, g4⟩ := fr (nI f) (nI (zk_st tp n j))
    have c5 : (zm_wi (zm_wi (zm_wi M1 0 5 (nI f)) 0 6 (nI (zk_st tp n j))) 0 4 0).1 0 5 = nI f := by rw [g4]; rfl
    simp only [bX12_text_36, zw_0, zw_1, zq_12_26, zs_aloadn0, zs_aloadNn0, zs_iconst, zq_12_81, zg_12_22, zs_ifeq, zs_ireturn, zn_int, zn_b0, zn_b1, zb_0, za_1, za_2, za_3, za_4, za_5, za_6, za_7, za_8, za_9, za_10, za_11, za_12, za_13, za_14, true_and, and_true, Nat.reduceAdd, c5, e0]
    exact ⟨fun z => absurd z id, fun _ => Or.inr ⟨lt, g1, g2, g3, by rw [g4]; rfl, Or.inl ⟨f, j, a1, a2, rfl, by rw [g4]; rfl, k1⟩⟩⟩
  · have b5 : (zm_wi M1 0 5 0).1 0 5 = 0 := by rw [zm_wi_same, if_pos rfl]
    simp only [bX12_text_12, zw_0, zw_1, zs_aloadn0, zs_aloadNn0, zi_12_251, zq_12_22, zg_12_22, zs_ifne, zs_iconst, zs_goto, zh_0, zh_1, zh_2, zh_3, zh_4, zt_i, zt_l, zt_r, zt_n, zb_0, za_1, za_2, za_3, za_4, za_5, za_6, za_7, za_8, za_9, za_10, za_11, za_12, za_13, za_14, true_and, and_true, Nat.reduceAdd, b5]
    refine ⟨fun z => absurd trivial z, fun _ => ?_⟩
    obtain ⟨g1, g2, g3, g4⟩ := fr 0 (-1)
    have c5 : (zm_wi (zm_wi (zm_wi M1 0 5 0) 0 6 (-1)) 0 4 0).1 0 5 = 0 := by rw [g4]; rfl
    refine h36 _ _ _ ?_
    simp only [bX12_text_36, zw_0, zw_1, zq_12_26, zs_aloadn0, zs_aloadNn0, zs_iconst, zq_12_81, zg_12_22, zs_ifeq, zs_ireturn, zn_int, zn_b0, zn_b1, zb_0, za_1, za_2, za_3, za_4, za_5, za_6, za_7, za_8, za_9, za_10, za_11, za_12, za_13, za_14, true_and, and_true, Nat.reduceAdd, c5]
    refine ⟨fun _ => ?_, fun z => absurd trivial z⟩
    have g5 : ∀ q, q ≠ 0 → (zm_wi (zm_wi (zm_wi M1 0 5 0) 0 6 (-1)) 0 4 0).1 q = M1.1 q := fun q hq => by
      funext j
      rw [zm_wi_other hq, zm_wi_other hq, zm_wi_other hq]
    have g6 : (zm_wi (zm_wi (zm_wi M1 0 5 0) 0 6 (-1)) 0 4 0).1 0 6 = -1 := by rw [g4]; rfl
    have g7 : (zm_wi (zm_wi (zm_wi M1 0 5 0) 0 6 (-1)) 0 4 0).1 0 4 = 0 := by rw [g4]; rfl
    generalize zm_wi (zm_wi (zm_wi M1 0 5 0) 0 6 (-1)) 0 4 0 = M2 at *
    have d1 : M2.1 1 1 = nI t := by rw [g5 1 (by decide), k1]; exact h1
    have d2 : (zm_wi M2 1 1 (nI (t + 1))).1 1 1 = nI (t + 1) := by rw [zm_wi_same, if_pos rfl]
    have k3 : M2.1 3 = M1.1 3 := g5 3 (by decide)
    refine h53 _ _ _ ?_
    simp only [bX12_text_53, zw_0, zw_1, zs_aloadn0, zs_aloadNn0, zg_12_7, zs_iconst, zs_dup2, zs_iaload, zs_iadd, zs_iastore, zs_isub, zs_ireturn, zn_int, zn_b0, zn_b1, zb_0, za_1, za_2, za_3, za_4, za_5, za_6, za_7, za_8, za_9, za_10, za_11, za_12, za_13, za_14, zu_0, zu_1, zu_2, zu_3, zu_4, zu_5, zu_6, zu_7, zu_8, zu_9, zu_10, zu_11, zu_12, zu_13, zu_14, zu_15, zu_16, zu_17, zu_18, zu_19, zu_20, zu_21, zu_22, zu_23, zu_24, zu_25, zu_26, zu_27, zu_28, zu_29, zu_30, zu_90, zv_0_9, zv_1_9, zv_2_9, zv_3_9, zv_4_9, zv_5_9, zv_6_9, zv_7_9, zv_8_9, zv_0_330, zv_0_4544, zv_1_4544, zv_2_4544, zv_3_4544, zv_4_4544, zv_5_4544, zv_6_4544, zv_7_4544, zv_8_4544, zv_9_4544, zv_10_4544, zv_11_4544, zv_12_4544, zv_13_4544, zv_14_4544, zv_15_4544, zv_16_4544, zv_17_4544, zv_18_4544, zv_19_4544, zv_20_4544, zv_21_4544, zv_22_4544, zv_23_4544, zv_24_4544, zv_25_4544, zv_26_4544, zv_27_4544, zv_28_4544, zv_29_4544, zv_0_11, zv_1_11, zv_0_160, true_and, and_true, Nat.reduceAdd, d1, nI_1, d2, nI_pred]
    refine Or.inr ⟨lt, zf_wi g1 (by decide), fun j hj => by rw [zm_wi_other (by decide)]; exact g2 j hj, fun j hj => by rw [zm_wi_other (by decide)]; exact g3 j hj, by rw [zm_wi_other (by decide)]; exact g7, Or.inr ⟨nc, X, a1, by rw [zm_wi_other (by decide)]; exact c5, by rw [zm_wi_other (by decide)]; exact g6, fun j => by rw [zm_wi_same, g5 1 (by decide), k1], ?_, fun w hw => ⟨zl_m_c (a4 w hw).1 (fun j _ _ => by rw [zm_wi_other (by decide), k3]), (a4 w hw).2⟩⟩⟩
    unfold zl_cm at a3 ⊢
    have k4 : (zm_wi M2 1 1 (nI (t + 1))).1 3 = M1.1 3 := by
      rw [← k3]
      funext j
      rw [zm_wi_other (by decide)]
    rw [k4]
    exact a3
end
