/-! ===== the class: a law, a clause ===== -/
def zc_O (T V : Nat → Nat) (w k k' : Nat) (D : zD) : Prop := if w ≤ 2 then (zD_ok w D ∧ ∀ Fa G, zs_ru T V w G Fa (fun j cs => j = k' ∧ zs_mn cs D) → G k [] 0 false []) else (zc_f T V w k = none ∧ k' = k + zc_e w)
def zc_F (T V : Nat → Nat) (w k f j : Nat) : Prop := if w ≤ 2 then (∀ Fi G, zs_ru T V w G (fun f' j' => f' = f ∧ j' = j) Fi → G k [] 0 false []) else zc_f T V w k = some (f, j)
abbrev zt_X : Type := (Nat → Int32) × (Nat → Int32) × (Nat → Int32) × (Nat → Int32) × (Nat → Option zD)
def zt_u (V : Nat → Nat) (n w k : Nat) (D : zD) (X : zt_X) : zt_X := (fun i => if i = n then nI w else X.1 i, fun i => if i = n then nI (V k) else X.2.1 i, fun i => if i = n then nI (V (k + 2)) else X.2.2.1 i, fun i => if i = n then nI (V (k + 4)) else X.2.2.2.1 i, fun v => if v = w ∧ w ≤ 2 then some D else X.2.2.2.2 v)
def zt_ru (T V : Nat → Nat) (G : Nat → Nat → zt_X → Prop) (Fa : Nat → Nat → Prop) (Fi : Nat → zt_X → Prop) : Prop :=
  (∀ k n X, T k = 43 → Fi n X → G k n X) ∧
  (∀ k n X, ¬ T k = 43 → ¬ T k < 9 → Fa 1 k → G k n X) ∧
  (∀ k n X, T k ≤ 2 → ¬ X.2.2.2.2 (T k) = none → Fa 4 k → G k n X) ∧
  (∀ k X, T k < 9 → (T k ≤ 2 → X.2.2.2.2 (T k) = none) → Fa 6 k → G k 24 X) ∧
  (∀ k n X, n < 24 → T k < 9 → (T k ≤ 2 → X.2.2.2.2 (T k) = none) → (∀ f j, zc_F T V (T k) (k + 1) f j → Fa f j → G k n X) ∧ (∀ k' D, zc_O T V (T k) (k + 1) k' D → (¬ T k' = 40 → Fa 1 k' → G k n X) ∧ (T k' = 40 → G (k' + 1) (n + 1) (zt_u V n (T k) (k + 1) D X) → G k n X)))
def zt_lw (M : zm_M) (L w c : Nat) (D : Option zD) : Prop := match D with
  | none => M.1 (L + 5) w = -1
  | some D => ∃ c0 c1, M.1 (L + 5) w = nI c0 ∧ M.1 (L + 6) w = nI c1 ∧ c0 ≤ c1 ∧ c1 ≤ c ∧ zl_sm M L c0 c1 D
def zt_S (tp : Nat → Nat) (n m L k nn c : Nat) (X : zt_X) (M : zm_M) : Prop := zk_R tp n m k M ∧ M.2.2 761 10 = some L ∧ (M.1 761 1 = 0 ∧ M.1 761 2 = -1) ∧ M.1 L 7 = nI c ∧ c ≤ k ∧ zl_cl M L nn X.1 X.2.1 X.2.2.1 X.2.2.2.1 ∧ ∀ w, w ≤ 2 → zt_lw M L w c (X.2.2.2.2 w)
def zt_F (L : Nat) (M M' : zm_M) : Prop := zf [761, L, L + 1, L + 2, L + 3, L + 4, L + 5, L + 6, L + 7, L + 8] M M' ∧ zg 761 [1, 2, 7, 9] M M' ∧ ∀ j, j ≠ 8 → M'.2.2 761 j = M.2.2 761 j
theorem zt_F_refl {L : Nat} {M : zm_M} : zt_F L M M := ⟨zf_refl, zg_refl, fun _ _ => rfl⟩
theorem zt_F_trans {L : Nat} {M M' M'' : zm_M} (h : zt_F L M M') (h2 : zt_F L M' M'') : zt_F L M M'' := ⟨zf_trans h.1 h2.1, zg_trans h.2.1 h2.2.1, fun j hj => (h2.2.2 j hj).trans (h.2.2 j hj)⟩
theorem zt_F_w {L p i : Nat} {v : Int32} {M : zm_M} (hL : zl_ok L) (h1 : L ≤ p) (h2 : p ≤ L + 8) : zt_F L M (zm_wi M p i v) := by
  have l := hL.1.1
  exact ⟨zf_wi zf_refl (by simp; omega), fun j _ => by rw [zm_wi_other (by omega)], fun _ _ => rfl⟩
theorem zt_F_A {L nn : Nat} {M M' : zm_M} (h : zt_A L nn M M') : zt_F L M M' := ⟨zf_sub h.1 (by simp), zg_sub h.2.1 (by simp), h.2.2.1⟩
theorem zt_F_F {L c : Nat} {M M' : zm_M} (h : zd_F L c M M') : zt_F L M M' := ⟨zf_sub h.1 (by simp), zg_sub h.2.1 (by simp), h.2.2.1⟩
theorem zt_F_g {L : Nat} {M M' : zm_M} (h : zk_g M M') : zt_F L M M' := ⟨zf_sub h.1 (by simp), zg_sub h.2.1 (by simp), h.2.2⟩
section
variable {E : zm_E} {tp : Nat → Nat} {n m L : Nat}
theorem zd_law {d k c w : Nat} {M : zm_M} (hE : zm_ok E.2.2.1 E.2.2.2.2) (ht : ∀ j, tp j < 256) (hL : zl_ok L) (hd : 93 ≤ d) (hw : w ≤ 2) (hS : zd_S tp n m L w k c M) {Q : Option Value → zm_M → Prop} (q1 : ∀ k' c' D M', zc_O (zs_T tp n) (zs_N tp n) w k k' D → zd_S tp n m L w k' c' M' → zf [761, L, L + 5, L + 6, L + 7, L + 8] M M' → zt_F L M M' → zg L [7] M M' → (∀ i, i ≠ w → M'.1 (L + 5) i = M.1 (L + 5) i ∧ M'.1 (L + 6) i = M.1 (L + 6) i) → (∀ i, i < c → M'.1 (L + 7) i = M.1 (L + 7) i ∧ M'.1 (L + 8) i = M.1 (L + 8) i) → M'.1 (L + 5) w = nI c → M'.1 (L + 6) w = nI c' → zl_sm M' L c c' D → c ≤ c' → k < k' → Q none M') (q2 : ∀ f j c' M', zc_F (zs_T tp n) (zs_N tp n) w k f j → zd_E tp n m L f j c' M' → zt_F L M M' → Q none M') : zm_R E d mX5_readLaw [.ref 761] M Q := by
  obtain ⟨d, rfl⟩ : ∃ e, d = e + 1 := ⟨d - 1, by omega⟩
  refine zX5_readLaw hE rfl (fun G h0 => ?_)
  show G 0 [some (.ref 761)] [] M
  have ol := eq_true hL.2.1
  have l := hL.1.1
  have A5 := za_of (hL.2.2.2.1 5 (by omega) (by omega))
  have A6 := za_of (hL.2.2.2.1 6 (by omega) (by omega))
  have v1 : vp_in (nI w) 3 := vp_in_nI (by omega) (by decide)
  have v2 : (nI w).toNatClampNeg = w := nI_clamp (by omega)
  have w0 := hS.2.1
  have c9 := hS.2.2.1
  have c7 := hS.2.2.2.2.1
  refine h0 _ _ _ ?_
  simp only [bX5_readLaw_0, zw_0, zw_1, zs_aloadn0, zs_aloadNn0, zg_5_51, zg_5_158, zg_5_48, zg_5_161, zs_iastore, zs_iconst, zi_5_164, zg_5_167, zs_return, zh_0, zh_1, zh_2, zh_3, zh_4, zt_i, zt_l, zt_r, zt_n, zn_int, zn_b0, zn_b1, zb_15, zb_16, zb_17, za_18, za_19, za_20, za_21, za_22, zb_23, za_24, za_25, za_26, za_27, za_28, za_29, za_30, za_31, za_32, zb_35, za_36, za_37, za_38, za_39, za_40, zb_377, zb_378, za_379, za_380, za_381, za_382, za_383, zb_384, za_385, za_386, za_387, za_388, za_389, za_390, za_391, za_392, za_393, zb_396, za_397, za_398, za_399, za_400, za_401, zb_738, za_739, za_740, za_741, za_742, za_743, za_744, za_745, za_746, za_747, zb_748, za_749, za_750, zb_751, zb_752, za_753, za_754, za_755, za_756, zb_757, za_758, za_759, za_760, zb_761, za_763, za_764, za_765, zu_0, zu_1, zu_2, zu_3, zu_4, zu_5, zu_6, zu_7, zu_8, zu_9, zu_10, zu_11, zu_12, zu_13, zu_14, zu_15, zu_16, zu_17, zu_18, zu_19, zu_20, zu_21, zu_22, zu_23, zu_24, zu_25, zu_26, zu_27, zu_28, zu_29, zu_30, zu_90, zv_0_9, zv_1_9, zv_2_9, zv_3_9, zv_4_9, zv_5_9, zv_6_9, zv_7_9, zv_8_9, zv_0_330, zv_0_4544, zv_1_4544, zv_2_4544, zv_3_4544, zv_4_4544, zv_5_4544, zv_6_4544, zv_7_4544, zv_8_4544, zv_9_4544, zv_10_4544, zv_11_4544, zv_12_4544, zv_13_4544, zv_14_4544, zv_15_4544, zv_16_4544, zv_17_4544, zv_18_4544, zv_19_4544, zv_20_4544, zv_21_4544, zv_22_4544, zv_23_4544, zv_24_4544, zv_25_4544, zv_26_4544, zv_27_4544, zv_28_4544, zv_29_4544, zv_0_11, zv_1_11, zv_0_160, true_and, and_true, Nat.reduceAdd, w0, zk_rf, ol, A5, c9, v1, v2, c7]
  have S1 := zd_S_w (p := L + 5) (i := w) (v := nI c) hL (by omega) (by omega) hS
  have F1 : zt_F L M (zm_wi M (L + 5) w (nI c)) := zt_F_w hL (by omega) (by omega)
  have z1 : zf [761, L, L + 5, L + 6, L + 7, L + 8] M (zm_wi M (L + 5) w (nI c)) := zf_wi zf_refl (by simp)
  have u5 : ∀ i, (zm_wi M (L + 5) w (nI c)).1 (L + 5) i = if i = w then nI c else M.1 (L + 5) i := fun i => by rw [zm_wi_same]
  have u6 : ∀ j, j ≠ 5 → (zm_wi M (L + 5) w (nI c)).1 (L + j) = M.1 (L + j) := fun j hj => by
    funext i
    rw [zm_wi_other (by omega)]
  generalize zm_wi M (L + 5) w (nI c) = M1 at *
  refine zd_sum hE ht hL hw _ k c M1 (by omega) S1 _ (fun k' c' D M2 R2 nx2 S2 F2 cc2 ct2 kk2 sm2 _ => ?_) (fun f j c' M2 f2 e2 F2 cc2 => ?_)
  · have w2 := S2.2.1
    have c92 := S2.2.2.1
    have c72 := S2.2.2.2.2.1
    simp only [bX5_readLaw_0, zw_0, zw_1, zs_aloadn0, zs_aloadNn0, zg_5_51, zg_5_158, zg_5_48, zg_5_161, zs_iastore, zs_iconst, zi_5_164, zg_5_167, zs_return, zh_0, zh_1, zh_2, zh_3, zh_4, zt_i, zt_l, zt_r, zt_n, zn_int, zn_b0, zn_b1, zb_15, zb_16, zb_17, za_18, za_19, za_20, za_21, za_22, zb_23, za_24, za_25, za_26, za_27, za_28, za_29, za_30, za_31, za_32, zb_35, za_36, za_37, za_38, za_39, za_40, zb_377, zb_378, za_379, za_380, za_381, za_382, za_383, zb_384, za_385, za_386, za_387, za_388, za_389, za_390, za_391, za_392, za_393, zb_396, za_397, za_398, za_399, za_400, za_401, zb_738, za_739, za_740, za_741, za_742, za_743, za_744, za_745, za_746, za_747, zb_748, za_749, za_750, zb_751, zb_752, za_753, za_754, za_755, za_756, zb_757, za_758, za_759, za_760, zb_761, za_763, za_764, za_765, zu_0, zu_1, zu_2, zu_3, zu_4, zu_5, zu_6, zu_7, zu_8, zu_9, zu_10, zu_11, zu_12, zu_13, zu_14, zu_15, zu_16, zu_17, zu_18, zu_19, zu_20, zu_21, zu_22, zu_23, zu_24, zu_25, zu_26, zu_27, zu_28, zu_29, zu_30, zu_90, zv_0_9, zv_1_9, zv_2_9, zv_3_9, zv_4_9, zv_5_9, zv_6_9, zv_7_9, zv_8_9, zv_0_330, zv_0_4544, zv_1_4544, zv_2_4544, zv_3_4544, zv_4_4544, zv_5_4544, zv_6_4544, zv_7_4544, zv_8_4544, zv_9_4544, zv_10_4544, zv_11_4544, zv_12_4544, zv_13_4544, zv_14_4544, zv_15_4544, zv_16_4544, zv_17_4544, zv_18_4544, zv_19_4544, zv_20_4544, zv_21_4544, zv_22_4544, zv_23_4544, zv_24_4544, zv_25_4544, zv_26_4544, zv_27_4544, zv_28_4544, zv_29_4544, zv_0_11, zv_1_11, zv_0_160, true_and, and_true, Nat.reduceAdd, w2, zk_rf, ol, A6, c92, v1, v2, c72]
    have en := zs_ends R2 nx2
    have k5 : M2.1 (L + 5) = M1.1 (L + 5) := (F2.1 (L + 5) (by simp; omega)).1
    have k6 : M2.1 (L + 6) = M1.1 (L + 6) := (F2.1 (L + 6) (by simp; omega)).1
    refine q1 k' c' D _ ?_ (zd_S_w hL (by omega) (by omega) S2) (zf_trans z1 (zf_wi (zf_sub F2.1 (by simp)) (by simp))) (zt_F_trans (zt_F_trans F1 (zt_F_F F2)) (zt_F_w hL (by omega) (by omega))) (fun j hj => ?_) (fun i hi => ⟨?_, ?_⟩) (fun i hi => ⟨?_, ?_⟩) ?_ ?_ (zl_sm_c sm2 (fun i _ _ => ⟨?_, ?_⟩)) cc2 kk2
    · unfold zc_O
      rw [if_pos hw]
      exact en
    · rw [zm_wi_other (by omega), F2.2.2.2.1 j hj]
      have := u6 0 (by decide)
      rw [Nat.add_zero] at this
      rw [this]
    · rw [zm_wi_other (by omega), k5, u5, if_neg hi]
    · rw [zm_wi_same, if_neg hi, k6, u6 6 (by decide)]
    · rw [zm_wi_other (by omega), (F2.2.2.2.2 i hi).1, u6 7 (by decide)]
    · rw [zm_wi_other (by omega), (F2.2.2.2.2 i hi).2, u6 8 (by decide)]
    · rw [zm_wi_other (by omega), k5, u5, if_pos rfl]
    · rw [zm_wi_same, if_pos rfl]
    · rw [zm_wi_other (by omega)]
    · rw [zm_wi_other (by omega)]
  · have w2 := e2.2.1
    have c92 : M2.1 761 9 = nI w := by rw [F2.2.1 9 (by decide)]; exact S1.2.2.1
    have c72 := e2.2.2.2.2.2.1
    simp only [bX5_readLaw_0, zw_0, zw_1, zs_aloadn0, zs_aloadNn0, zg_5_51, zg_5_158, zg_5_48, zg_5_161, zs_iastore, zs_iconst, zi_5_164, zg_5_167, zs_return, zh_0, zh_1, zh_2, zh_3, zh_4, zt_i, zt_l, zt_r, zt_n, zn_int, zn_b0, zn_b1, zb_15, zb_16, zb_17, za_18, za_19, za_20, za_21, za_22, zb_23, za_24, za_25, za_26, za_27, za_28, za_29, za_30, za_31, za_32, zb_35, za_36, za_37, za_38, za_39, za_40, zb_377, zb_378, za_379, za_380, za_381, za_382, za_383, zb_384, za_385, za_386, za_387, za_388, za_389, za_390, za_391, za_392, za_393, zb_396, za_397, za_398, za_399, za_400, za_401, zb_738, za_739, za_740, za_741, za_742, za_743, za_744, za_745, za_746, za_747, zb_748, za_749, za_750, zb_751, zb_752, za_753, za_754, za_755, za_756, zb_757, za_758, za_759, za_760, zb_761, za_763, za_764, za_765, zu_0, zu_1, zu_2, zu_3, zu_4, zu_5, zu_6, zu_7, zu_8, zu_9, zu_10, zu_11, zu_12, zu_13, zu_14, zu_15, zu_16, zu_17, zu_18, zu_19, zu_20, zu_21, zu_22, zu_23, zu_24, zu_25, zu_26, zu_27, zu_28, zu_29, zu_30, zu_90, zv_0_9, zv_1_9, zv_2_9, zv_3_9, zv_4_9, zv_5_9, zv_6_9, zv_7_9, zv_8_9, zv_0_330, zv_0_4544, zv_1_4544, zv_2_4544, zv_3_4544, zv_4_4544, zv_5_4544, zv_6_4544, zv_7_4544, zv_8_4544, zv_9_4544, zv_10_4544, zv_11_4544, zv_12_4544, zv_13_4544, zv_14_4544, zv_15_4544, zv_16_4544, zv_17_4544, zv_18_4544, zv_19_4544, zv_20_4544, zv_21_4544, zv_22_4544, zv_23_4544, zv_24_4544, zv_25_4544, zv_26_4544, zv_27_4544, zv_28_4544, zv_29_4544, zv_0_11, zv_1_11, zv_0_160, true_and, and_true, Nat.reduceAdd, w2, zk_rf, ol, A6, c92, v1, v2, c72]
    refine q2 f j c' _ ?_ (zd_E_w hL (by omega) (by omega) e2) (zt_F_trans (zt_F_trans F1 (zt_F_F F2)) (zt_F_w hL (by omega) (by omega)))
    unfold zc_F
    rw [if_pos hw]
    exact zs_faults f2
theorem zd_clause {d k c nn : Nat} {X : zt_X} {M : zm_M} (hE : zm_ok E.2.2.1 E.2.2.2.2) (ht : ∀ j, tp j < 256) (hL : zl_ok L) (hd : 94 ≤ d) (hn : nn ≤ 24) (h43 : ¬ zs_T tp n k = 43) (hS : zt_S tp n m L k nn c X M) {Q : Option Value → zm_M → Prop} (q1 : ∀ k' c' X' M', (∀ G Fa Fi, zt_ru (zs_T tp n) (zs_N tp n) G Fa Fi → G k' (nn + 1) X' → G k nn X) → zt_S tp n m L k' (nn + 1) c' X' M' → zt_F L M M' → k < k' → nn < 24 → Q none M') (q2 : ∀ f j c' M', (∀ G Fa Fi, zt_ru (zs_T tp n) (zs_N tp n) G Fa Fi → Fa f j → G k nn X) → zd_E tp n m L f j c' M' → zt_F L M M' → Q none M') : zm_R E d mX5_readClause [.ref 761, .int (nI nn)] M Q := by
  obtain ⟨d, rfl⟩ : ∃ e, d = e + 1 := ⟨d - 1, by omega⟩
  refine zX5_readClause hE rfl (fun G h0 h27 h57 h72 h114 h119 h126 => ?_)
  show G 0 [some (.ref 761), some (.int (nI nn))] [] M
  have ol := eq_true hL.2.1
  have l := hL.1.1
  obtain ⟨sR, s10, s1, s7, sc, scl, slw⟩ := hS
  have w44 : zs_T tp n k < 44 := zk_w_in _ _ _
  have g8 : M.2.2 761 8 = some (1000 + zs_T tp n k) := sR.2.2.2
  have fv : zz_fv 0 (zs_T tp n k) = (if zs_T tp n k < 9 then nI (zs_T tp n k) else -1) := zz_ck_at _ w44
  have fin : ∀ M1, Q none M1 → G 126 [some (.ref 761), some (.int (nI nn))] [] M1 := by
    intro M1 h
    refine h126 _ _ _ ?_
    simp only [bX5_readClause_126, zw_0, zw_1, zs_return, zn_int, zn_b0, zn_b1, zb_15, zb_16, zb_17, za_18, za_19, za_20, za_21, za_22, zb_23, za_24, za_25, za_26, za_27, za_28, za_29, za_30, za_31, za_32, zb_35, za_36, za_37, za_38, za_39, za_40, zb_377, zb_378, za_379, za_380, za_381, za_382, za_383, zb_384, za_385, za_386, za_387, za_388, za_389, za_390, za_391, za_392, za_393, zb_396, za_397, za_398, za_399, za_400, za_401, zb_738, za_739, za_740, za_741, za_742, za_743, za_744, za_745, za_746, za_747, zb_748, za_749, za_750, zb_751, zb_752, za_753, za_754, za_755, za_756, zb_757, za_758, za_759, za_760, zb_761, za_763, za_764, za_765, true_and, and_true, Nat.reduceAdd]
    exact h
  -- behind the clause's kind is noted
  have set9 : ∀ (x : Nat) (v : Int32), v = nI x → zd_S tp n m L x k c (zm_wi M 761 9 v) := by
    intro x v hv
    subst hv
    have f : zf [761] M (zm_wi M 761 9 (nI x)) := zf_wi zf_refl (by decide)
    have g : ∀ j, j ≠ 9 → (zm_wi M 761 9 (nI x)).1 761 j = M.1 761 j := fun j hj => by rw [zm_wi_same, if_neg hj]
    obtain ⟨⟨h1, h2, h3, h4, h5⟩, a, b, e⟩ := sR
    refine ⟨⟨⟨by rw [g 6 (by decide)]; exact h1, h2, h3, h4, fun i hi => ?_⟩, a, by rw [g 7 (by decide)]; exact b, e⟩, s10, by rw [zm_wi_same, if_pos rfl], ⟨by rw [g 1 (by decide)]; exact s1.1, by rw [g 2 (by decide)]; exact s1.2⟩, by rw [zm_wi_other (by omega)]; exact s7, sc⟩
    obtain ⟨x1, x2, x3⟩ := h5 i hi
    exact ⟨x1, by rw [zm_wi_other (by decide)]; exact x2, fun p q => by rw [zm_wi_other (by decide)]; exact x3 p q⟩
  have F0 : ∀ v, zt_F L M (zm_wi M 761 9 v) := fun v => ⟨zf_wi zf_refl (by simp), zg_wi zg_refl (by decide), fun _ _ => rfl⟩
  have keep : ∀ v q, q ≠ 761 → (zm_wi M 761 9 v).1 q = M.1 q := fun v q hq => by
    funext i
    rw [zm_wi_other hq]
  refine h0 _ _ _ ?_
  by_cases t9 : zs_T tp n k < 9
  · rw [if_pos t9] at fv
    have S0 := set9 (zs_T tp n k) (nI (zs_T tp n k)) rfl
    have F0 := F0 (nI (zs_T tp n k))
    have keep := keep (nI (zs_T tp n k))
    generalize hw : zs_T tp n k = w at *
    have b9 : (zm_wi M 761 9 (nI w)).1 761 9 = nI w := by rw [zm_wi_same, if_pos rfl]
    have eN : (nI w = -1) = False := eq_false (zt_ne (by omega))
    simp only [bX5_readClause_0, zw_0, zw_1, zs_aloadn0, zs_aloadNn0, zg_5_45, zgw_132, zq_5_48, zg_5_48, zs_iconst, zs_icne, zi_5_125, zs_goto, zh_0, zh_1, zh_2, zh_3, zh_4, zt_i, zt_l, zt_r, zt_n, zb_15, zb_16, zb_17, za_18, za_19, za_20, za_21, za_22, zb_23, za_24, za_25, za_26, za_27, za_28, za_29, za_30, za_31, za_32, zb_35, za_36, za_37, za_38, za_39, za_40, zb_377, zb_378, za_379, za_380, za_381, za_382, za_383, zb_384, za_385, za_386, za_387, za_388, za_389, za_390, za_391, za_392, za_393, zb_396, za_397, za_398, za_399, za_400, za_401, zb_738, za_739, za_740, za_741, za_742, za_743, za_744, za_745, za_746, za_747, zb_748, za_749, za_750, zb_751, zb_752, za_753, za_754, za_755, za_756, zb_757, za_758, za_759, za_760, zb_761, za_763, za_764, za_765, true_and, and_true, Nat.reduceAdd, g8, zk_rf, fv, b9, eN]
    refine ⟨w44, fun _ => ?_, fun h => absurd h id⟩
    generalize hM1 : zm_wi M 761 9 (nI w) = M1 at *
    have lt3 : ((3 : Int32) ≤ nI w) = (3 ≤ w) := propext (nI_leI (a := 3) (by decide) (by omega))
    have w1 := S0.2.1
    -- clauses may follow
    have at57 : (w ≤ 2 → X.2.2.2.2 w = none) → G 57 [some (.ref 761), some (.int (nI nn))] [] M1 := by
      intro hnone
      have l24 : (nI nn < 24) = (nn < 24) := propext (nI_ltI (b := 24) (by omega) (by decide))
      refine h57 _ _ _ ?_
      simp only [bX5_readClause_57, zw_0, zw_1, zs_iloadn1, zs_bipush, zs_iclt, zs_aloadn0, zs_aloadNn0, zi_5_125, zs_goto, zh_0, zh_1, zh_2, zh_3, zh_4, zt_i, zt_l, zt_r, zt_n, zb_15, zb_16, zb_17, za_18, za_19, za_20, za_21, za_22, zb_23, za_24, za_25, za_26, za_27, za_28, za_29, za_30, za_31, za_32, zb_35, za_36, za_37, za_38, za_39, za_40, zb_377, zb_378, za_379, za_380, za_381, za_382, za_383, zb_384, za_385, za_386, za_387, za_388, za_389, za_390, za_391, za_392, za_393, zb_396, za_397, za_398, za_399, za_400, za_401, zb_738, za_739, za_740, za_741, za_742, za_743, za_744, za_745, za_746, za_747, zb_748, za_749, za_750, zb_751, zb_752, za_753, za_754, za_755, za_756, zb_757, za_758, za_759, za_760, zb_761, za_763, za_764, za_765, true_and, and_true, Nat.reduceAdd, l24]
      refine ⟨fun lt => ?_, fun ge => ?_⟩
      rotate_left
      · have e24 : nn = 24 := by omega
        subst e24
        refine zd_comp (f := 6) (by omega) (by decide) S0 hE hL (fun M2 e2 g2 => ?_)
        simp only [bX5_readClause_57, zw_0, zw_1, zs_iloadn1, zs_bipush, zs_iclt, zs_aloadn0, zs_aloadNn0, zi_5_125, zs_goto, zh_0, zh_1, zh_2, zh_3, zh_4, zt_i, zt_l, zt_r, zt_n, zb_15, zb_16, zb_17, za_18, za_19, za_20, za_21, za_22, zb_23, za_24, za_25, za_26, za_27, za_28, za_29, za_30, za_31, za_32, zb_35, za_36, za_37, za_38, za_39, za_40, zb_377, zb_378, za_379, za_380, za_381, za_382, za_383, zb_384, za_385, za_386, za_387, za_388, za_389, za_390, za_391, za_392, za_393, zb_396, za_397, za_398, za_399, za_400, za_401, zb_738, za_739, za_740, za_741, za_742, za_743, za_744, za_745, za_746, za_747, zb_748, za_749, za_750, zb_751, zb_752, za_753, za_754, za_755, za_756, zb_757, za_758, za_759, za_760, zb_761, za_763, za_764, za_765, true_and, and_true, Nat.reduceAdd]
        exact fin M2 (q2 6 k c M2 (fun G Fa Fi hr hf => hr.2.2.2.1 k X (by omega) (by rw [hw]; exact hnone) hf) e2 (zt_F_trans F0 (zt_F_g g2)))
      have A1 := za_of (hL.2.2.1 1 (by omega) (by omega))
      have v1 : vp_in (nI nn) 24 := vp_in_nI lt (by decide)
      have v2 : (nI nn).toNatClampNeg = nn := nI_clamp (by omega)
      have S2 : zd_S tp n m L w k c (zm_wi M1 (L + 1) nn (nI w)) := zd_S_w hL (by omega) (by omega) S0
      have w2 := S2.2.1
      have S3 : zd_S tp n m L w k c (zm_wi (zm_wi M1 (L + 1) nn (nI w)) L 0 (nI (nn + 1))) := by
        obtain ⟨a1, a2, a3, a4, a5, a6⟩ := S2
        exact ⟨zk_R_c (Z := [L]) a1 (zf_wi zf_refl (by simp)) (by simp; omega), a2, by rw [zm_wi_other (by omega)]; exact a3, ⟨by rw [zm_wi_other (by omega)]; exact a4.1, by rw [zm_wi_other (by omega)]; exact a4.2⟩, by rw [zm_wi_same, if_neg (by decide)]; exact a5, a6⟩
      have F3 : zt_F L M (zm_wi (zm_wi M1 (L + 1) nn (nI w)) L 0 (nI (nn + 1))) := zt_F_trans (zt_F_trans F0 (zt_F_w hL (by omega) (by omega))) (zt_F_w hL (by omega) (by omega))
      have y0 : ∀ j, (zm_wi (zm_wi M1 (L + 1) nn (nI w)) L 0 (nI (nn + 1))).1 L j = if j = 0 then nI (nn + 1) else M.1 L j := fun j => by rw [zm_wi_same, zm_wi_other (by omega), keep L (by omega)]
      have y1 : ∀ j, (zm_wi (zm_wi M1 (L + 1) nn (nI w)) L 0 (nI (nn + 1))).1 (L + 1) j = if j = nn then nI w else M.1 (L + 1) j := fun j => by rw [zm_wi_other (by omega), zm_wi_same, keep (L + 1) (by omega)]
      have y2 : ∀ t, 2 ≤ t → t ≤ 8 → (zm_wi (zm_wi M1 (L + 1) nn (nI w)) L 0 (nI (nn + 1))).1 (L + t) = M.1 (L + t) := fun t t1 t2 => by
        funext j
        rw [zm_wi_other (by omega), zm_wi_other (by omega), keep (L + t) (by omega)]
      refine h72 _ _ _ ?_
      have b92 : ∀ M', zd_S tp n m L w k c M' → M'.1 761 9 = nI w := fun M' h => h.2.2.1
      have b9a := b92 _ S0
      simp only [bX5_readClause_72, zw_0, zw_1, zs_aloadn0, zs_aloadNn0, zg_5_51, zg_5_139, zs_iloadn1, zg_5_48, zs_iastore, zs_iconst, zs_iadd, zq_5_142, zi_5_122, zs_icge, zi_5_145, zs_goto, zh_0, zh_1, zh_2, zh_3, zh_4, zt_i, zt_l, zt_r, zt_n, zb_15, zb_16, zb_17, za_18, za_19, za_20, za_21, za_22, zb_23, za_24, za_25, za_26, za_27, za_28, za_29, za_30, za_31, za_32, zb_35, za_36, za_37, za_38, za_39, za_40, zb_377, zb_378, za_379, za_380, za_381, za_382, za_383, zb_384, za_385, za_386, za_387, za_388, za_389, za_390, za_391, za_392, za_393, zb_396, za_397, za_398, za_399, za_400, za_401, zb_738, za_739, za_740, za_741, za_742, za_743, za_744, za_745, za_746, za_747, zb_748, za_749, za_750, zb_751, zb_752, za_753, za_754, za_755, za_756, zb_757, za_758, za_759, za_760, zb_761, za_763, za_764, za_765, zu_0, zu_1, zu_2, zu_3, zu_4, zu_5, zu_6, zu_7, zu_8, zu_9, zu_10, zu_11, zu_12, zu_13, zu_14, zu_15, zu_16, zu_17, zu_18, zu_19, zu_20, zu_21, zu_22, zu_23, zu_24, zu_25, zu_26, zu_27, zu_28, zu_29, zu_30, zu_90, zv_0_9, zv_1_9, zv_2_9, zv_3_9, zv_4_9, zv_5_9, zv_6_9, zv_7_9, zv_8_9, zv_0_330, zv_0_4544, zv_1_4544, zv_2_4544, zv_3_4544, zv_4_4544, zv_5_4544, zv_6_4544, zv_7_4544, zv_8_4544, zv_9_4544, zv_10_4544, zv_11_4544, zv_12_4544, zv_13_4544, zv_14_4544, zv_15_4544, zv_16_4544, zv_17_4544, zv_18_4544, zv_19_4544, zv_20_4544, zv_21_4544, zv_22_4544, zv_23_4544, zv_24_4544, zv_25_4544, zv_26_4544, zv_27_4544, zv_28_4544, zv_29_4544, zv_0_11, zv_1_11, zv_0_160, true_and, and_true, Nat.reduceAdd, w1, zk_rf, ol, A1, b9a, v1, v2, w2, nI_1]
      generalize zm_wi (zm_wi M1 (L + 1) nn (nI w)) L 0 (nI (nn + 1)) = M3 at *
      refine zd_step (by omega) S3 (by omega) hE ht hL (fun M4 S4 g4 => ?_)
      have F4 := zt_F_trans F3 (zt_F_g g4)
      have z4 : ∀ t, t ≤ 8 → M4.1 (L + t) = M3.1 (L + t) := fun t ht => (g4.1 (L + t) (by simp; omega)).1
      have z40 : M4.1 L = M3.1 L := z4 0 (by omega)
      have b94 := S4.2.2.1
      -- behind the body
      have tail : ∀ k' c' D M5, zc_O (zs_T tp n) (zs_N tp n) w (k + 1) k' D → zd_S tp n m L w k' c' M5 → zt_F L M M5 → k + 1 < k' → zl_cl M5 L (nn + 1) (zt_u (zs_N tp n) nn w (k + 1) D X).1 (zt_u (zs_N tp n) nn w (k + 1) D X).2.1 (zt_u (zs_N tp n) nn w (k + 1) D X).2.2.1 (zt_u (zs_N tp n) nn w (k + 1) D X).2.2.2.1 → (∀ v, v ≤ 2 → zt_lw M5 L v c' ((zt_u (zs_N tp n) nn w (k + 1) D X).2.2.2.2 v)) → G 119 [some (.ref 761), some (.int (nI nn))] [] M5 := by
        intro k' c' D M5 hO S5 F5 hk hcl hlw
        have rule := fun {G Fa Fi} (hr : zt_ru (zs_T tp n) (zs_N tp n) G Fa Fi) => (hr.2.2.2.2 k nn X lt (by omega) (by rw [hw]; exact hnone)).2 k' D (by rw [hw]; exact hO)
        refine h119 _ _ _ ?_
        simp only [bX5_readClause_119, zw_0, zw_1, zs_aloadn0, zs_aloadNn0, zgs_151, zi_5_154, zh_0, zh_1, zh_2, zh_3, zh_4, zt_i, zt_l, zt_r, zt_n, zb_15, zb_16, zb_17, za_18, za_19, za_20, za_21, za_22, zb_23, za_24, za_25, za_26, za_27, za_28, za_29, za_30, za_31, za_32, zb_35, za_36, za_37, za_38, za_39, za_40, zb_377, zb_378, za_379, za_380, za_381, za_382, za_383, zb_384, za_385, za_386, za_387, za_388, za_389, za_390, za_391, za_392, za_393, zb_396, za_397, za_398, za_399, za_400, za_401, zb_738, za_739, za_740, za_741, za_742, za_743, za_744, za_745, za_746, za_747, zb_748, za_749, za_750, zb_751, zb_752, za_753, za_754, za_755, za_756, zb_757, za_758, za_759, za_760, zb_761, za_763, za_764, za_765, true_and, and_true, Nat.reduceAdd]
        refine zd_exp (w := 40) (by omega) (by decide) S5 hE ht hL (fun t6 M6 S6 g6 => ?_) (fun t6 M6 e6 g6 => ?_)
        · simp only [bX5_readClause_119, zw_0, zw_1, zs_aloadn0, zs_aloadNn0, zgs_151, zi_5_154, zh_0, zh_1, zh_2, zh_3, zh_4, zt_i, zt_l, zt_r, zt_n, zb_15, zb_16, zb_17, za_18, za_19, za_20, za_21, za_22, zb_23, za_24, za_25, za_26, za_27, za_28, za_29, za_30, za_31, za_32, zb_35, za_36, za_37, za_38, za_39, za_40, zb_377, zb_378, za_379, za_380, za_381, za_382, za_383, zb_384, za_385, za_386, za_387, za_388, za_389, za_390, za_391, za_392, za_393, zb_396, za_397, za_398, za_399, za_400, za_401, zb_738, za_739, za_740, za_741, za_742, za_743, za_744, za_745, za_746, za_747, zb_748, za_749, za_750, zb_751, zb_752, za_753, za_754, za_755, za_756, zb_757, za_758, za_759, za_760, zb_761, za_763, za_764, za_765, true_and, and_true, Nat.reduceAdd]
          refine fin M6 (q1 (k' + 1) c' (zt_u (zs_N tp n) nn w (k + 1) D X) M6 (fun G Fa Fi hr hg => (rule hr).2 t6 (by rw [hw]; exact hg)) ?_ (zt_F_trans F5 (zt_F_g g6)) (by omega) lt)
          have z6 : ∀ t, t ≤ 8 → M6.1 (L + t) = M5.1 (L + t) := fun t ht => (g6.1 (L + t) (by simp; omega)).1
          have z60 : M6.1 L = M5.1 L := z6 0 (by omega)
          obtain ⟨a1, a2, a3, a4, a5, a6⟩ := S6
          refine ⟨a1, a2, a4, a5, a6, ?_, fun v hv => ?_⟩
          · unfold zl_cl at hcl ⊢
            rw [z60, z6 1 (by omega), z6 2 (by omega), z6 3 (by omega), z6 4 (by omega)]
            exact hcl
          · have := hlw v hv
            generalize (zt_u (zs_N tp n) nn w (k + 1) D X).2.2.2.2 v = Dv at this
            cases Dv with
            | none => show M6.1 (L + 5) v = -1; rw [z6 5 (by omega)]; exact this
            | some Dv =>
              obtain ⟨x0, x1, x2, x3, x4, x5, x6⟩ := this
              exact ⟨x0, x1, by rw [z6 5 (by omega)]; exact x2, by rw [z6 6 (by omega)]; exact x3, x4, x5, zl_sm_c x6 (fun i _ _ => ⟨by rw [z6 7 (by omega)], by rw [z6 8 (by omega)]⟩)⟩
        · simp only [bX5_readClause_119, zw_0, zw_1, zs_aloadn0, zs_aloadNn0, zgs_151, zi_5_154, zh_0, zh_1, zh_2, zh_3, zh_4, zt_i, zt_l, zt_r, zt_n, zb_15, zb_16, zb_17, za_18, za_19, za_20, za_21, za_22, zb_23, za_24, za_25, za_26, za_27, za_28, za_29, za_30, za_31, za_32, zb_35, za_36, za_37, za_38, za_39, za_40, zb_377, zb_378, za_379, za_380, za_381, za_382, za_383, zb_384, za_385, za_386, za_387, za_388, za_389, za_390, za_391, za_392, za_393, zb_396, za_397, za_398, za_399, za_400, za_401, zb_738, za_739, za_740, za_741, za_742, za_743, za_744, za_745, za_746, za_747, zb_748, za_749, za_750, zb_751, zb_752, za_753, za_754, za_755, za_756, zb_757, za_758, za_759, za_760, zb_761, za_763, za_764, za_765, true_and, and_true, Nat.reduceAdd]
          exact fin M6 (q2 1 k' c' M6 (fun G Fa Fi hr hf => (rule hr).1 t6 hf) e6 (zt_F_trans F5 (zt_F_g g6)))
      have tailE : ∀ f j c' M5, zc_F (zs_T tp n) (zs_N tp n) w (k + 1) f j → zd_E tp n m L f j c' M5 → zt_F L M M5 → G 119 [some (.ref 761), some (.int (nI nn))] [] M5 := by
        intro f j c' M5 hF e5 F5
        refine h119 _ _ _ ?_
        simp only [bX5_readClause_119, zw_0, zw_1, zs_aloadn0, zs_aloadNn0, zgs_151, zi_5_154, zh_0, zh_1, zh_2, zh_3, zh_4, zt_i, zt_l, zt_r, zt_n, zb_15, zb_16, zb_17, za_18, za_19, za_20, za_21, za_22, zb_23, za_24, za_25, za_26, za_27, za_28, za_29, za_30, za_31, za_32, zb_35, za_36, za_37, za_38, za_39, za_40, zb_377, zb_378, za_379, za_380, za_381, za_382, za_383, zb_384, za_385, za_386, za_387, za_388, za_389, za_390, za_391, za_392, za_393, zb_396, za_397, za_398, za_399, za_400, za_401, zb_738, za_739, za_740, za_741, za_742, za_743, za_744, za_745, za_746, za_747, zb_748, za_749, za_750, zb_751, zb_752, za_753, za_754, za_755, za_756, zb_757, za_758, za_759, za_760, zb_761, za_763, za_764, za_765, true_and, and_true, Nat.reduceAdd]
        refine zd_expE (w := 40) (by omega) (by decide) e5 hE hL (fun M6 e6 g6 => ?_)
        simp only [bX5_readClause_119, zw_0, zw_1, zs_aloadn0, zs_aloadNn0, zgs_151, zi_5_154, zh_0, zh_1, zh_2, zh_3, zh_4, zt_i, zt_l, zt_r, zt_n, zb_15, zb_16, zb_17, za_18, za_19, za_20, za_21, za_22, zb_23, za_24, za_25, za_26, za_27, za_28, za_29, za_30, za_31, za_32, zb_35, za_36, za_37, za_38, za_39, za_40, zb_377, zb_378, za_379, za_380, za_381, za_382, za_383, zb_384, za_385, za_386, za_387, za_388, za_389, za_390, za_391, za_392, za_393, zb_396, za_397, za_398, za_399, za_400, za_401, zb_738, za_739, za_740, za_741, za_742, za_743, za_744, za_745, za_746, za_747, zb_748, za_749, za_750, zb_751, zb_752, za_753, za_754, za_755, za_756, zb_757, za_758, za_759, za_760, zb_761, za_763, za_764, za_765, true_and, and_true, Nat.reduceAdd]
        exact fin M6 (q2 f j c' M6 (fun G Fa Fi hr hf => (hr.2.2.2.2 k nn X lt (by omega) (by rw [hw]; exact hnone)).1 f j (by rw [hw]; exact hF) hf) e6 (zt_F_trans F5 (zt_F_g g6)))
      simp only [bX5_readClause_72, zw_0, zw_1, zs_aloadn0, zs_aloadNn0, zg_5_51, zg_5_139, zs_iloadn1, zg_5_48, zs_iastore, zs_iconst, zs_iadd, zq_5_142, zi_5_122, zs_icge, zi_5_145, zs_goto, zh_0, zh_1, zh_2, zh_3, zh_4, zt_i, zt_l, zt_r, zt_n, zb_15, zb_16, zb_17, za_18, za_19, za_20, za_21, za_22, zb_23, za_24, za_25, za_26, za_27, za_28, za_29, za_30, za_31, za_32, zb_35, za_36, za_37, za_38, za_39, za_40, zb_377, zb_378, za_379, za_380, za_381, za_382, za_383, zb_384, za_385, za_386, za_387, za_388, za_389, za_390, za_391, za_392, za_393, zb_396, za_397, za_398, za_399, za_400, za_401, zb_738, za_739, za_740, za_741, za_742, za_743, za_744, za_745, za_746, za_747, zb_748, za_749, za_750, zb_751, zb_752, za_753, za_754, za_755, za_756, zb_757, za_758, za_759, za_760, zb_761, za_763, za_764, za_765, zu_0, zu_1, zu_2, zu_3, zu_4, zu_5, zu_6, zu_7, zu_8, zu_9, zu_10, zu_11, zu_12, zu_13, zu_14, zu_15, zu_16, zu_17, zu_18, zu_19, zu_20, zu_21, zu_22, zu_23, zu_24, zu_25, zu_26, zu_27, zu_28, zu_29, zu_30, zu_90, zv_0_9, zv_1_9, zv_2_9, zv_3_9, zv_4_9, zv_5_9, zv_6_9, zv_7_9, zv_8_9, zv_0_330, zv_0_4544, zv_1_4544, zv_2_4544, zv_3_4544, zv_4_4544, zv_5_4544, zv_6_4544, zv_7_4544, zv_8_4544, zv_9_4544, zv_10_4544, zv_11_4544, zv_12_4544, zv_13_4544, zv_14_4544, zv_15_4544, zv_16_4544, zv_17_4544, zv_18_4544, zv_19_4544, zv_20_4544, zv_21_4544, zv_22_4544, zv_23_4544, zv_24_4544, zv_25_4544, zv_26_4544, zv_27_4544, zv_28_4544, zv_29_4544, zv_0_11, zv_1_11, zv_0_160, true_and, and_true, Nat.reduceAdd, b94, lt3]
      refine ⟨fun g3 => ?_, fun l3 => ?_⟩
      · -- an action
        refine h114 _ _ _ ?_
        simp only [bX5_readClause_114, zw_0, zw_1, zs_aloadn0, zs_aloadNn0, zs_iloadn1, zi_5_148, zh_0, zh_1, zh_2, zh_3, zh_4, zt_i, zt_l, zt_r, zt_n, zb_15, zb_16, zb_17, za_18, za_19, za_20, za_21, za_22, zb_23, za_24, za_25, za_26, za_27, za_28, za_29, za_30, za_31, za_32, zb_35, za_36, za_37, za_38, za_39, za_40, zb_377, zb_378, za_379, za_380, za_381, za_382, za_383, zb_384, za_385, za_386, za_387, za_388, za_389, za_390, za_391, za_392, za_393, zb_396, za_397, za_398, za_399, za_400, za_401, zb_738, za_739, za_740, za_741, za_742, za_743, za_744, za_745, za_746, za_747, zb_748, za_749, za_750, zb_751, zb_752, za_753, za_754, za_755, za_756, zb_757, za_758, za_759, za_760, zb_761, za_763, za_764, za_765, true_and, and_true, Nat.reduceAdd]
        refine zd_act hE ht hL (by omega) g3 (by omega) lt S4 (fun pr M5 S5 B5 za => ?_) (fun f j pr M5 e5 B5 => ?_)
        · simp only [bX5_readClause_114, zw_0, zw_1, zs_aloadn0, zs_aloadNn0, zs_iloadn1, zi_5_148, zh_0, zh_1, zh_2, zh_3, zh_4, zt_i, zt_l, zt_r, zt_n, zb_15, zb_16, zb_17, za_18, za_19, za_20, za_21, za_22, zb_23, za_24, za_25, za_26, za_27, za_28, za_29, za_30, za_31, za_32, zb_35, za_36, za_37, za_38, za_39, za_40, zb_377, zb_378, za_379, za_380, za_381, za_382, za_383, zb_384, za_385, za_386, za_387, za_388, za_389, za_390, za_391, za_392, za_393, zb_396, za_397, za_398, za_399, za_400, za_401, zb_738, za_739, za_740, za_741, za_742, za_743, za_744, za_745, za_746, za_747, zb_748, za_749, za_750, zb_751, zb_752, za_753, za_754, za_755, za_756, zb_757, za_758, za_759, za_760, zb_761, za_763, za_764, za_765, true_and, and_true, Nat.reduceAdd]
          have k0 : M5.1 L = M4.1 L := (B5.1 L (by simp; omega)).1
          have kj : ∀ t, 1 ≤ t → t ≤ 8 → t ≠ 2 → t ≠ 3 → t ≠ 4 → M5.1 (L + t) = M4.1 (L + t) := fun t t1 t2 a b c => (B5.1 (L + t) (by simp; omega)).1
          have e0 : 1 ≤ zc_e w := by unfold zc_e; (repeat' split) <;> omega
          refine tail (k + 1 + zc_e w) c (fun _ _ => 0) M5 (by unfold zc_O; rw [if_neg (by omega)]; exact ⟨pr, rfl⟩) S5 (zt_F_trans F4 (zt_F_A B5)) (by omega) ⟨?_, by omega, fun i hi => ⟨?_, ?_⟩⟩ (fun v hv => ?_)
          · rw [k0, z40, y0, if_pos rfl]
          · rw [kj 1 (by omega) (by omega) (by omega) (by omega) (by omega), z4 1 (by omega), y1]
            show _ = if i = nn then nI w else X.1 i
            by_cases e : i = nn
            · rw [if_pos e, if_pos e]
            · rw [if_neg e, if_neg e]; exact (scl.2.2 i (by omega)).1
          · show zy_a (if i = nn then nI w else X.1 i) (if i = nn then nI (zs_N tp n (k + 1)) else X.2.1 i) (if i = nn then nI (zs_N tp n (k + 1 + 2)) else X.2.2.1 i) (if i = nn then nI (zs_N tp n (k + 1 + 4)) else X.2.2.2.1 i) _ _ _
            by_cases e : i = nn
            · rw [if_pos e, if_pos e, if_pos e, if_pos e, e]; exact za
            · rw [if_neg e, if_neg e, if_neg e, if_neg e, B5.2.2.2 2 (by omega) i e, B5.2.2.2 3 (by omega) i e, B5.2.2.2 4 (by omega) i e, z4 2 (by omega), z4 3 (by omega), z4 4 (by omega), y2 2 (by omega) (by omega), y2 3 (by omega) (by omega), y2 4 (by omega) (by omega)]
              exact (scl.2.2 i (by omega)).2
          · show zt_lw M5 L v c (if v = w ∧ w ≤ 2 then _ else X.2.2.2.2 v)
            rw [if_neg (by omega)]
            have q5 : M5.1 (L + 5) = M.1 (L + 5) := by rw [kj 5 (by omega) (by omega) (by omega) (by omega) (by omega), z4 5 (by omega), y2 5 (by omega) (by omega)]
            have q6 : M5.1 (L + 6) = M.1 (L + 6) := by rw [kj 6 (by omega) (by omega) (by omega) (by omega) (by omega), z4 6 (by omega), y2 6 (by omega) (by omega)]
            have q7 : M5.1 (L + 7) = M.1 (L + 7) := by rw [kj 7 (by omega) (by omega) (by omega) (by omega) (by omega), z4 7 (by omega), y2 7 (by omega) (by omega)]
            have q8 : M5.1 (L + 8) = M.1 (L + 8) := by rw [kj 8 (by omega) (by omega) (by omega) (by omega) (by omega), z4 8 (by omega), y2 8 (by omega) (by omega)]
            have := slw v hv
            generalize X.2.2.2.2 v = Dv at this
            cases Dv with
            | none => show M5.1 (L + 5) v = -1; rw [q5]; exact this
            | some Dv =>
              obtain ⟨x0, x1, x2, x3, x4, x5, x6⟩ := this
              exact ⟨x0, x1, by rw [q5]; exact x2, by rw [q6]; exact x3, x4, x5, zl_sm_c x6 (fun i _ _ => ⟨by rw [q7], by rw [q8]⟩)⟩
        · simp only [bX5_readClause_114, zw_0, zw_1, zs_aloadn0, zs_aloadNn0, zs_iloadn1, zi_5_148, zh_0, zh_1, zh_2, zh_3, zh_4, zt_i, zt_l, zt_r, zt_n, zb_15, zb_16, zb_17, za_18, za_19, za_20, za_21, za_22, zb_23, za_24, za_25, za_26, za_27, za_28, za_29, za_30, za_31, za_32, zb_35, za_36, za_37, za_38, za_39, za_40, zb_377, zb_378, za_379, za_380, za_381, za_382, za_383, zb_384, za_385, za_386, za_387, za_388, za_389, za_390, za_391, za_392, za_393, zb_396, za_397, za_398, za_399, za_400, za_401, zb_738, za_739, za_740, za_741, za_742, za_743, za_744, za_745, za_746, za_747, zb_748, za_749, za_750, zb_751, zb_752, za_753, za_754, za_755, za_756, zb_757, za_758, za_759, za_760, zb_761, za_763, za_764, za_765, true_and, and_true, Nat.reduceAdd]
          exact tailE f j c M5 (by unfold zc_F; rw [if_neg (by omega)]; exact pr) e5 (zt_F_trans F4 (zt_F_A B5))
      · -- a law
        refine zd_law hE ht hL (by omega) (by omega) S4 (fun k' c' D M5 hO S5 f5 F5 gL h56 h78 p5 p6 sm cc kk => ?_) (fun f j c' M5 hF e5 F5 => ?_)
        · simp only [bX5_readClause_72, zw_0, zw_1, zs_aloadn0, zs_aloadNn0, zg_5_51, zg_5_139, zs_iloadn1, zg_5_48, zs_iastore, zs_iconst, zs_iadd, zq_5_142, zi_5_122, zs_icge, zi_5_145, zs_goto, zh_0, zh_1, zh_2, zh_3, zh_4, zt_i, zt_l, zt_r, zt_n, zb_15, zb_16, zb_17, za_18, za_19, za_20, za_21, za_22, zb_23, za_24, za_25, za_26, za_27, za_28, za_29, za_30, za_31, za_32, zb_35, za_36, za_37, za_38, za_39, za_40, zb_377, zb_378, za_379, za_380, za_381, za_382, za_383, zb_384, za_385, za_386, za_387, za_388, za_389, za_390, za_391, za_392, za_393, zb_396, za_397, za_398, za_399, za_400, za_401, zb_738, za_739, za_740, za_741, za_742, za_743, za_744, za_745, za_746, za_747, zb_748, za_749, za_750, zb_751, zb_752, za_753, za_754, za_755, za_756, zb_757, za_758, za_759, za_760, zb_761, za_763, za_764, za_765, zu_0, zu_1, zu_2, zu_3, zu_4, zu_5, zu_6, zu_7, zu_8, zu_9, zu_10, zu_11, zu_12, zu_13, zu_14, zu_15, zu_16, zu_17, zu_18, zu_19, zu_20, zu_21, zu_22, zu_23, zu_24, zu_25, zu_26, zu_27, zu_28, zu_29, zu_30, zu_90, zv_0_9, zv_1_9, zv_2_9, zv_3_9, zv_4_9, zv_5_9, zv_6_9, zv_7_9, zv_8_9, zv_0_330, zv_0_4544, zv_1_4544, zv_2_4544, zv_3_4544, zv_4_4544, zv_5_4544, zv_6_4544, zv_7_4544, zv_8_4544, zv_9_4544, zv_10_4544, zv_11_4544, zv_12_4544, zv_13_4544, zv_14_4544, zv_15_4544, zv_16_4544, zv_17_4544, zv_18_4544, zv_19_4544, zv_20_4544, zv_21_4544, zv_22_4544, zv_23_4544, zv_24_4544, zv_25_4544, zv_26_4544, zv_27_4544, zv_28_4544, zv_29_4544, zv_0_11, zv_1_11, zv_0_160, true_and, and_true, Nat.reduceAdd]
          have kj : ∀ t, 1 ≤ t → t ≤ 4 → M5.1 (L + t) = M4.1 (L + t) := fun t t1 t2 => (f5 (L + t) (by simp; omega)).1
          refine tail k' c' D M5 hO S5 (zt_F_trans F4 F5) kk ⟨?_, by omega, fun i hi => ⟨?_, ?_⟩⟩ (fun v hv => ?_)
          · rw [gL 0 (by decide), z40, y0, if_pos rfl]
          · rw [kj 1 (by omega) (by omega), z4 1 (by omega), y1]
            show _ = if i = nn then nI w else X.1 i
            by_cases e : i = nn
            · rw [if_pos e, if_pos e]
            · rw [if_neg e, if_neg e]; exact (scl.2.2 i (by omega)).1
          · show zy_a (if i = nn then nI w else X.1 i) (if i = nn then nI (zs_N tp n (k + 1)) else X.2.1 i) (if i = nn then nI (zs_N tp n (k + 1 + 2)) else X.2.2.1 i) (if i = nn then nI (zs_N tp n (k + 1 + 4)) else X.2.2.2.1 i) _ _ _
            by_cases e : i = nn
            · rw [if_pos e, if_pos e, if_pos e, if_pos e]
              have ne : ∀ x : Nat, x < 10 → w ≠ x → nI w ≠ nI x := fun x hx h z => h ((nI_eq (by omega) (by omega)).mp z)
              exact ⟨fun z => by rcases z with z | z | z | z | z
                                 · exact absurd z (ne 3 (by decide) (by omega))
                                 · exact absurd z (ne 4 (by decide) (by omega))
                                 · exact absurd z (ne 5 (by decide) (by omega))
                                 · exact absurd z (ne 6 (by decide) (by omega))
                                 · exact absurd z (ne 7 (by decide) (by omega)), fun z => absurd z (ne 5 (by decide) (by omega)), fun z => absurd z (ne 8 (by decide) (by omega))⟩
            · rw [if_neg e, if_neg e, if_neg e, if_neg e, kj 2 (by omega) (by omega), kj 3 (by omega) (by omega), kj 4 (by omega) (by omega), z4 2 (by omega), z4 3 (by omega), z4 4 (by omega), y2 2 (by omega) (by omega), y2 3 (by omega) (by omega), y2 4 (by omega) (by omega)]
              exact (scl.2.2 i (by omega)).2
          · show zt_lw M5 L v c' (if v = w ∧ w ≤ 2 then some D else X.2.2.2.2 v)
            by_cases e : v = w
            · rw [if_pos ⟨e, by omega⟩, e]
              exact ⟨c, c', p5, p6, cc, Nat.le_refl _, sm⟩
            · rw [if_neg (fun z => e z.1)]
              have q5 : M5.1 (L + 5) v = M.1 (L + 5) v := by rw [(h56 v e).1, z4 5 (by omega), y2 5 (by omega) (by omega)]
              have q6 : M5.1 (L + 6) v = M.1 (L + 6) v := by rw [(h56 v e).2, z4 6 (by omega), y2 6 (by omega) (by omega)]
              have := slw v hv
              generalize X.2.2.2.2 v = Dv at this
              cases Dv with
              | none => show M5.1 (L + 5) v = -1; rw [q5]; exact this
              | some Dv =>
                obtain ⟨x0, x1, x2, x3, x4, x5, x6⟩ := this
                exact ⟨x0, x1, by rw [q5]; exact x2, by rw [q6]; exact x3, x4, by omega, zl_sm_c x6 (fun i _ i2 => ⟨by rw [(h78 i (by omega)).1, z4 7 (by omega), y2 7 (by omega) (by omega)], by rw [(h78 i (by omega)).2, z4 8 (by omega), y2 8 (by omega) (by omega)]⟩)⟩
        · simp only [bX5_readClause_72, zw_0, zw_1, zs_aloadn0, zs_aloadNn0, zg_5_51, zg_5_139, zs_iloadn1, zg_5_48, zs_iastore, zs_iconst, zs_iadd, zq_5_142, zi_5_122, zs_icge, zi_5_145, zs_goto, zh_0, zh_1, zh_2, zh_3, zh_4, zt_i, zt_l, zt_r, zt_n, zb_15, zb_16, zb_17, za_18, za_19, za_20, za_21, za_22, zb_23, za_24, za_25, za_26, za_27, za_28, za_29, za_30, za_31, za_32, zb_35, za_36, za_37, za_38, za_39, za_40, zb_377, zb_378, za_379, za_380, za_381, za_382, za_383, zb_384, za_385, za_386, za_387, za_388, za_389, za_390, za_391, za_392, za_393, zb_396, za_397, za_398, za_399, za_400, za_401, zb_738, za_739, za_740, za_741, za_742, za_743, za_744, za_745, za_746, za_747, zb_748, za_749, za_750, zb_751, zb_752, za_753, za_754, za_755, za_756, zb_757, za_758, za_759, za_760, zb_761, za_763, za_764, za_765, zu_0, zu_1, zu_2, zu_3, zu_4, zu_5, zu_6, zu_7, zu_8, zu_9, zu_10, zu_11, zu_12, zu_13, zu_14, zu_15, zu_16, zu_17, zu_18, zu_19, zu_20, zu_21, zu_22, zu_23, zu_24, zu_25, zu_26, zu_27, zu_28, zu_29, zu_30, zu_90, zv_0_9, zv_1_9, zv_2_9, zv_3_9, zv_4_9, zv_5_9, zv_6_9, zv_7_9, zv_8_9, zv_0_330, zv_0_4544, zv_1_4544, zv_2_4544, zv_3_4544, zv_4_4544, zv_5_4544, zv_6_4544, zv_7_4544, zv_8_4544, zv_9_4544, zv_10_4544, zv_11_4544, zv_12_4544, zv_13_4544, zv_14_4544, zv_15_4544, zv_16_4544, zv_17_4544, zv_18_4544, zv_19_4544, zv_20_4544, zv_21_4544, zv_22_4544, zv_23_4544, zv_24_4544, zv_25_4544, zv_26_4544, zv_27_4544, zv_28_4544, zv_29_4544, zv_0_11, zv_1_11, zv_0_160, true_and, and_true, Nat.reduceAdd]
          exact tailE f j c' M5 hF e5 (zt_F_trans F4 F5)
    refine h27 _ _ _ ?_
    have b9a := S0.2.2.1
    simp only [bX5_readClause_27, zw_0, zw_1, zs_aloadn0, zs_aloadNn0, zg_5_48, zs_iconst, zs_icge, zg_5_51, zi_5_135, zs_ifeq, zi_5_125, zs_goto, zh_0, zh_1, zh_2, zh_3, zh_4, zt_i, zt_l, zt_r, zt_n, zb_15, zb_16, zb_17, za_18, za_19, za_20, za_21, za_22, zb_23, za_24, za_25, za_26, za_27, za_28, za_29, za_30, za_31, za_32, zb_35, za_36, za_37, za_38, za_39, za_40, zb_377, zb_378, za_379, za_380, za_381, za_382, za_383, zb_384, za_385, za_386, za_387, za_388, za_389, za_390, za_391, za_392, za_393, zb_396, za_397, za_398, za_399, za_400, za_401, zb_738, za_739, za_740, za_741, za_742, za_743, za_744, za_745, za_746, za_747, zb_748, za_749, za_750, zb_751, zb_752, za_753, za_754, za_755, za_756, zb_757, za_758, za_759, za_760, zb_761, za_763, za_764, za_765, true_and, and_true, Nat.reduceAdd, b9a, lt3, w1, zk_rf, ol]
    refine ⟨fun g3 => at57 (fun z => absurd z (by omega)), fun l3 => ?_⟩
    have k5 : M1.1 (L + 5) = M.1 (L + 5) := keep (L + 5) (by omega)
    have lw := slw w (by omega)
    obtain ⟨d, rfl⟩ : ∃ e, d = e + 1 := ⟨d - 1, by omega⟩
    refine zm_R_eq (c1_rules hE d hL (w := w) (by omega) M1) ?_
    have d1 : (decide (¬ M1.1 (L + 5) w = -1) = false) = (M1.1 (L + 5) w = -1) := by simp
    simp only [bX5_readClause_27, zw_0, zw_1, zs_aloadn0, zs_aloadNn0, zg_5_48, zs_iconst, zs_icge, zg_5_51, zi_5_135, zs_ifeq, zi_5_125, zs_goto, zh_0, zh_1, zh_2, zh_3, zh_4, zt_i, zt_l, zt_r, zt_n, zb_15, zb_16, zb_17, za_18, za_19, za_20, za_21, za_22, zb_23, za_24, za_25, za_26, za_27, za_28, za_29, za_30, za_31, za_32, zb_35, za_36, za_37, za_38, za_39, za_40, zb_377, zb_378, za_379, za_380, za_381, za_382, za_383, zb_384, za_385, za_386, za_387, za_388, za_389, za_390, za_391, za_392, za_393, zb_396, za_397, za_398, za_399, za_400, za_401, zb_738, za_739, za_740, za_741, za_742, za_743, za_744, za_745, za_746, za_747, zb_748, za_749, za_750, zb_751, zb_752, za_753, za_754, za_755, za_756, zb_757, za_758, za_759, za_760, zb_761, za_763, za_764, za_765, true_and, and_true, Nat.reduceAdd, zi_b0, d1]
    rw [k5]
    refine ⟨fun y => at57 (fun _ => ?_), fun y => ?_⟩
    · cases hx : X.2.2.2.2 w with
      | none => rfl
      | some Dv =>
        rw [hx] at lw
        obtain ⟨x0, x1, x2, x3, x4, x5, x6⟩ := lw
        rw [x2] at y
        have := x6.2.2.1
        exact absurd y (zt_ne (by omega))
    · refine zd_comp (f := 4) (by omega) (by decide) S0 hE hL (fun M2 e2 g2 => ?_)
      simp only [bX5_readClause_27, zw_0, zw_1, zs_aloadn0, zs_aloadNn0, zg_5_48, zs_iconst, zs_icge, zg_5_51, zi_5_135, zs_ifeq, zi_5_125, zs_goto, zh_0, zh_1, zh_2, zh_3, zh_4, zt_i, zt_l, zt_r, zt_n, zb_15, zb_16, zb_17, za_18, za_19, za_20, za_21, za_22, zb_23, za_24, za_25, za_26, za_27, za_28, za_29, za_30, za_31, za_32, zb_35, za_36, za_37, za_38, za_39, za_40, zb_377, zb_378, za_379, za_380, za_381, za_382, za_383, zb_384, za_385, za_386, za_387, za_388, za_389, za_390, za_391, za_392, za_393, zb_396, za_397, za_398, za_399, za_400, za_401, zb_738, za_739, za_740, za_741, za_742, za_743, za_744, za_745, za_746, za_747, zb_748, za_749, za_750, zb_751, zb_752, za_753, za_754, za_755, za_756, zb_757, za_758, za_759, za_760, zb_761, za_763, za_764, za_765, true_and, and_true, Nat.reduceAdd]
      refine fin M2 (q2 4 k c M2 (fun G Fa Fi hr hf => hr.2.2.1 k nn X (by omega) (fun z => ?_) hf) e2 (zt_F_trans F0 (zt_F_g g2)))
      rw [hw] at z
      rw [z] at lw
      exact y lw
  · rw [if_neg t9] at fv
    have bb : (zm_wi M 761 9 (-1)).1 761 9 = -1 := by rw [zm_wi_same, if_pos rfl]
    simp only [bX5_readClause_0, zw_0, zw_1, zs_aloadn0, zs_aloadNn0, zg_5_45, zgw_132, zq_5_48, zg_5_48, zs_iconst, zs_icne, zi_5_125, zs_goto, zh_0, zh_1, zh_2, zh_3, zh_4, zt_i, zt_l, zt_r, zt_n, zb_15, zb_16, zb_17, za_18, za_19, za_20, za_21, za_22, zb_23, za_24, za_25, za_26, za_27, za_28, za_29, za_30, za_31, za_32, zb_35, za_36, za_37, za_38, za_39, za_40, zb_377, zb_378, za_379, za_380, za_381, za_382, za_383, zb_384, za_385, za_386, za_387, za_388, za_389, za_390, za_391, za_392, za_393, zb_396, za_397, za_398, za_399, za_400, za_401, zb_738, za_739, za_740, za_741, za_742, za_743, za_744, za_745, za_746, za_747, zb_748, za_749, za_750, zb_751, zb_752, za_753, za_754, za_755, za_756, zb_757, za_758, za_759, za_760, zb_761, za_763, za_764, za_765, true_and, and_true, Nat.reduceAdd, g8, zk_rf, fv, bb]
    refine ⟨w44, fun h => absurd trivial h, fun _ => ?_⟩
    have f : zf [761] M (zm_wi M 761 9 (-1)) := zf_wi zf_refl (by decide)
    have g : ∀ j, j ≠ 9 → (zm_wi M 761 9 (-1)).1 761 j = M.1 761 j := fun j hj => by rw [zm_wi_same, if_neg hj]
    have R0 : zk_R tp n m k (zm_wi M 761 9 (-1)) := by
      obtain ⟨⟨h1, h2, h3, h4, h5⟩, a, b, e⟩ := sR
      refine ⟨⟨by rw [g 6 (by decide)]; exact h1, h2, h3, h4, fun i hi => ?_⟩, a, by rw [g 7 (by decide)]; exact b, e⟩
      obtain ⟨x1, x2, x3⟩ := h5 i hi
      exact ⟨x1, by rw [zm_wi_other (by decide)]; exact x2, fun p q => by rw [zm_wi_other (by decide)]; exact x3 p q⟩
    obtain ⟨d, rfl⟩ : ∃ e, d = e + 1 := ⟨d - 1, by omega⟩
    have km := sR.2.1
    have m3 := sR.1.2.1
    refine c5_complain hE d 1 R0 (fun M2 R2 g2 t2 => ?_)
    simp only [bX5_readClause_0, zw_0, zw_1, zs_aloadn0, zs_aloadNn0, zg_5_45, zgw_132, zq_5_48, zg_5_48, zs_iconst, zs_icne, zi_5_125, zs_goto, zh_0, zh_1, zh_2, zh_3, zh_4, zt_i, zt_l, zt_r, zt_n, zb_15, zb_16, zb_17, za_18, za_19, za_20, za_21, za_22, zb_23, za_24, za_25, za_26, za_27, za_28, za_29, za_30, za_31, za_32, zb_35, za_36, za_37, za_38, za_39, za_40, zb_377, zb_378, za_379, za_380, za_381, za_382, za_383, zb_384, za_385, za_386, za_387, za_388, za_389, za_390, za_391, za_392, za_393, zb_396, za_397, za_398, za_399, za_400, za_401, zb_738, za_739, za_740, za_741, za_742, za_743, za_744, za_745, za_746, za_747, zb_748, za_749, za_750, zb_751, zb_752, za_753, za_754, za_755, za_756, zb_757, za_758, za_759, za_760, zb_761, za_763, za_764, za_765, true_and, and_true, Nat.reduceAdd]
    refine fin M2 (q2 1 k c M2 (fun G Fa Fi hr hf => hr.2.1 k nn X h43 t9 hf) ⟨R2, ?_, by decide, ?_, ?_, ?_, by omega⟩ (zt_F_trans (F0 (-1)) (zt_F_g g2)))
    · rw [g2.2.2 10 (by decide)]; exact s10
    · rw [t2.1, g 1 (by decide), if_pos s1.1]; rfl
    · rw [t2.2, g 1 (by decide), if_pos s1.1]
    · rw [(g2.1 L (by simp; omega)).1, keep (-1) L (by omega)]; exact s7
end
