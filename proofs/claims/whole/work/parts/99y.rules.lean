/-! ===== the class: the rules of sums, the contract of a reading method ===== -/
def zd_nx (lvl w : Nat) : Prop := (lvl ≤ 5 → w ≠ 34 ∧ w ≠ 35) ∧ (lvl ≤ 6 → w ≠ 36 ∧ w ≠ 37) ∧ (lvl ≤ 2 → w ≠ 26) ∧ (lvl ≤ 1 → w ≠ 25)
abbrev zd_RT : Type := Nat → Nat → Nat → Nat → zD → Prop
abbrev zd_FT : Type := Nat → Nat → Nat → Nat → Nat → Prop
def zd_nm (cl w : Nat) : Prop := ¬ (w - 8 = 7 ∧ cl = 2) ∧ ¬ (w - 8 = 8 ∧ ¬ cl = 0)
def zd_op (w : Nat) : Prop := w = 38 ∨ w = 35 ∨ w = 18 ∨ w = 20 ∨ w = 21
def zd_7a (T V : Nat → Nat) (cl : Nat) (R : zd_RT) (F : zd_FT) : Prop :=
  (∀ o k, T k = 41 → V k ≤ 9999 → R 7 o k (k + 1) (fun _ _ => (V k : Int))) ∧
  (∀ o k, T k = 41 → ¬ V k ≤ 9999 → F 7 o k 2 k) ∧
  (∀ o k, 8 ≤ T k → T k ≤ 16 → zd_nm cl (T k) → R 7 o k (k + 1) (fun nm _ => nm (T k - 8))) ∧
  (∀ o k, 8 ≤ T k → T k ≤ 16 → ¬ zd_nm cl (T k) → F 7 o k 5 k) ∧
  (∀ k, zd_op (T k) → F 7 8 k 3 k) ∧
  (∀ o k, ¬ T k = 41 → ¬ (8 ≤ T k ∧ T k ≤ 16) → ¬ zd_op (T k) → F 7 o k 1 k)
def zd_7b (T : Nat → Nat) (R : zd_RT) (F : zd_FT) : Prop := ∀ o k, o < 8 → T k = 38 →
  (∀ k1 D, R 5 (o + 1) (k + 1) k1 D → T k1 = 39 → R 7 o k (k1 + 1) D) ∧
  (∀ k1 D, R 5 (o + 1) (k + 1) k1 D → zd_nx 5 (T k1) → ¬ T k1 = 39 → F 7 o k 1 k1) ∧
  (∀ f j, F 5 (o + 1) (k + 1) f j → F 7 o k f j)
def zd_7c (T : Nat → Nat) (R : zd_RT) (F : zd_FT) : Prop := (∀ o k, o < 8 → T k = 35 →
  (∀ k1 D, R 7 (o + 1) (k + 1) k1 D → R 7 o k k1 (fun nm rk => - D nm rk)) ∧
  (∀ f j, F 7 (o + 1) (k + 1) f j → F 7 o k f j)) ∧ (∀ o k, o < 8 → T k = 20 →
  (∀ k1 D, R 7 (o + 1) (k + 1) k1 D → R 7 o k k1 (fun nm rk => rk (D nm rk))) ∧
  (∀ f j, F 7 (o + 1) (k + 1) f j → F 7 o k f j))
def zd_7d (T : Nat → Nat) (R : zd_RT) (F : zd_FT) : Prop := ∀ o k, o < 8 → T k = 18 →
  (∀ f j, F 7 (o + 1) (k + 1) f j → F 7 o k f j) ∧
  (∀ k1 D1, R 7 (o + 1) (k + 1) k1 D1 → ¬ T k1 = 19 → F 7 o k 1 k1) ∧
  (∀ k1 D1 f j, R 7 (o + 1) (k + 1) k1 D1 → T k1 = 19 → F 7 (o + 1) (k1 + 1) f j → F 7 o k f j) ∧
  (∀ k1 D1 k2 D2, R 7 (o + 1) (k + 1) k1 D1 → T k1 = 19 → R 7 (o + 1) (k1 + 1) k2 D2 → R 7 o k k2 (fun nm rk => zq_ar 11 (D1 nm rk) (D2 nm rk)))
def zd_7e (T : Nat → Nat) (R : zd_RT) (F : zd_FT) : Prop := ∀ o k, o < 8 → T k = 21 →
  (∀ f j, F 1 (o + 1) (k + 1) f j → F 7 o k f j) ∧ ∀ k1 B, R 1 (o + 1) (k + 1) k1 B →
  (zd_nx 1 (T k1) → ¬ T k1 = 22 → F 7 o k 1 k1) ∧ (T k1 = 22 →
  (∀ f j, F 5 (o + 1) (k1 + 1) f j → F 7 o k f j) ∧ ∀ k2 D2, R 5 (o + 1) (k1 + 1) k2 D2 →
  (zd_nx 5 (T k2) → ¬ T k2 = 23 → F 7 o k 1 k2) ∧ (T k2 = 23 →
  (∀ f j, F 5 (o + 1) (k2 + 1) f j → F 7 o k f j) ∧ ∀ k3 D3, R 5 (o + 1) (k2 + 1) k3 D3 →
  (zd_nx 5 (T k3) → ¬ T k3 = 24 → F 7 o k 1 k3) ∧ (T k3 = 24 → R 7 o k (k3 + 1) (fun nm rk => if B nm rk = 0 then D3 nm rk else D2 nm rk))))
def zd_6 (T : Nat → Nat) (R : zd_RT) (F : zd_FT) : Prop := ∀ o k,
  (∀ f j, F 7 o k f j → F 6 o k f j) ∧ (∀ k1 D, R 7 o k k1 D → R 6 o k k1 D) ∧ ∀ k1 D1, R 6 o k k1 D1 → (T k1 = 36 ∨ T k1 = 37) →
  (∀ f j, F 7 o (k1 + 1) f j → F 6 o k f j) ∧ (∀ k2 D2, R 7 o (k1 + 1) k2 D2 → R 6 o k k2 (fun nm rk => zq_ar (T k1 - 27) (D1 nm rk) (D2 nm rk)))
def zd_5 (T : Nat → Nat) (R : zd_RT) (F : zd_FT) : Prop := ∀ o k,
  (∀ f j, F 6 o k f j → F 5 o k f j) ∧ (∀ k1 D, R 6 o k k1 D → R 5 o k k1 D) ∧ ∀ k1 D1, R 5 o k k1 D1 → (T k1 = 34 ∨ T k1 = 35) →
  (∀ f j, F 6 o (k1 + 1) f j → F 5 o k f j) ∧ (∀ k2 D2, R 6 o (k1 + 1) k2 D2 → R 5 o k k2 (fun nm rk => zq_ar (T k1 - 27) (D1 nm rk) (D2 nm rk)))
def zd_4 (T : Nat → Nat) (R : zd_RT) (F : zd_FT) : Prop := ∀ o k, ¬ T k = 27 →
  (∀ f j, F 5 o k f j → F 4 o k f j) ∧ ∀ k1 D1, R 5 o k k1 D1 →
  (zd_nx 5 (T k1) → ¬ (28 ≤ T k1 ∧ T k1 ≤ 33) → F 4 o k 1 k1) ∧ (28 ≤ T k1 → T k1 ≤ 33 →
  (∀ f j, F 5 o (k1 + 1) f j → F 4 o k f j) ∧ (∀ k2 D2, R 5 o (k1 + 1) k2 D2 → R 4 o k k2 (fun nm rk => if zq_cp (T k1 - 16) (D1 nm rk) (D2 nm rk) then 1 else 0)))
def zd_3 (T : Nat → Nat) (R : zd_RT) (F : zd_FT) : Prop := (∀ o k, ¬ T k = 27 → (∀ f j, F 4 o k f j → F 3 o k f j) ∧ (∀ k1 D, R 4 o k k1 D → R 3 o k k1 D)) ∧
  (∀ k, T k = 27 → F 3 8 k 3 k) ∧ (∀ o k, o < 8 → T k = 27 → (∀ f j, F 3 (o + 1) (k + 1) f j → F 3 o k f j) ∧ (∀ k1 D, R 3 (o + 1) (k + 1) k1 D → R 3 o k k1 (fun nm rk => 1 - D nm rk)))
def zd_2 (T : Nat → Nat) (R : zd_RT) (F : zd_FT) : Prop := ∀ o k,
  (∀ f j, F 3 o k f j → F 2 o k f j) ∧ (∀ k1 D, R 3 o k k1 D → R 2 o k k1 D) ∧ ∀ k1 D1, R 2 o k k1 D1 → T k1 = 26 →
  (∀ f j, F 3 o (k1 + 1) f j → F 2 o k f j) ∧ (∀ k2 D2, R 3 o (k1 + 1) k2 D2 → R 2 o k k2 (fun nm rk => if zq_cp 18 (D1 nm rk) (D2 nm rk) then 1 else 0))
def zd_1 (T : Nat → Nat) (R : zd_RT) (F : zd_FT) : Prop := ∀ o k,
  (∀ f j, F 2 o k f j → F 1 o k f j) ∧ (∀ k1 D, R 2 o k k1 D → R 1 o k k1 D) ∧ ∀ k1 D1, R 1 o k k1 D1 → T k1 = 25 →
  (∀ f j, F 2 o (k1 + 1) f j → F 1 o k f j) ∧ (∀ k2 D2, R 2 o (k1 + 1) k2 D2 → R 1 o k k2 (fun nm rk => if zq_cp 19 (D1 nm rk) (D2 nm rk) then 1 else 0))
def zd_C (tp : Nat → Nat) (n m L cl : Nat) (R : zd_RT) (F : zd_FT) (E : zm_E) (dd : Nat) (mt : zm_Me) (lvl o : Nat) : Prop :=
  ∀ (d k c : Nat) (M : zm_M), dd ≤ d → zd_S tp n m L cl k c M → ∀ Q : Option Value → zm_M → Prop,
    (∀ k' c' D M', R lvl o k k' D → zd_nx lvl (zs_T tp n k') → zd_S tp n m L cl k' c' M' → zd_F L c M M' → c ≤ c' → c' + k ≤ c + k' → k < k' → zl_sm M' L c c' D → (lvl ≤ 4 → ∀ nm rk, D nm rk = 0 ∨ D nm rk = 1) → Q none M') →
    (∀ f j c' M', F lvl o k f j → zd_E tp n m L f j c' M' → zd_F L c M M' → c ≤ c' → Q none M') →
    zm_R E d mt [.ref 761, .int (nI o)] M Q
/-- behind a fault it leaves all as it is -/
def zd_Z (tp : Nat → Nat) (n m L : Nat) (E : zm_E) (dd : Nat) (mt : zm_Me) : Prop :=
  ∀ (d o f j c : Nat) (M : zm_M), dd ≤ d → zd_E tp n m L f j c M → ∀ Q : Option Value → zm_M → Prop,
    (∀ M', zd_E tp n m L f j c M' → zk_g M M' → Q none M') → zm_R E d mt [.ref 761, .int (nI o)] M Q
section
variable {E : zm_E} {tp : Nat → Nat} {n m L : Nat}
theorem zd_Z7 (hE : zm_ok E.2.2.1 E.2.2.2.2) (hL : zl_ok L) : zd_Z tp n m L E 3 mX5_readOne := by
  intro d o f j c M hd h Q q
  obtain ⟨d, rfl⟩ : ∃ e, d = e + 3 := ⟨d - 3, by omega⟩
  refine zX5_readOne hE rfl (fun G h0 h30 h48 h98 h106 h111 => ?_)
  show G 0 [some (.ref 761), some (.int (nI o))] [] M
  have h8 : M.2.2 761 8 = some 1043 := zd_wE h
  obtain ⟨w, hw, g8⟩ : ∃ w, w = 43 ∧ M.2.2 761 8 = some (1000 + w) := ⟨43, rfl, zd_wE h⟩
  have n43 : zz_fv 1 w = -1 := by rw [hw]; decide +kernel
  refine h0 _ _ _ ?_
  simp only [bX5_readOne_0, zw_0, zw_1, zs_aloadn0, zs_aloadNn0, zg_5_45, zgs_85, zs_acne, zg_5_51, zs_iconst, zs_sipush, zi_5_186, zi_5_210, zs_popi, zs_popr, zs_popn, zs_goto, zh_0, zh_1, zh_2, zh_3, zh_4, zt_i, zt_l, zt_r, zt_n, zb_15, zb_16, zb_17, za_18, za_19, za_20, za_21, za_22, zb_23, za_24, za_25, za_26, za_27, za_28, za_29, za_30, za_31, za_32, zb_35, za_36, za_37, za_38, za_39, za_40, zb_377, zb_378, za_379, za_380, za_381, za_382, za_383, zb_384, za_385, za_386, za_387, za_388, za_389, za_390, za_391, za_392, za_393, zb_396, za_397, za_398, za_399, za_400, za_401, zb_738, za_739, za_740, za_741, za_742, za_743, za_744, za_745, za_746, za_747, zb_748, za_749, za_750, zb_751, zb_752, za_753, za_754, za_755, za_756, zb_757, za_758, za_759, za_760, zb_761, za_763, za_764, za_765, true_and, and_true, Nat.reduceAdd, h8, zk_rf, not_true_eq_false, not_false_eq_true, true_implies, false_implies, Nat.reduceEqDiff]
  refine h30 _ _ _ ?_
  simp only [bX5_readOne_30, zw_0, zw_1, zs_aloadn0, zs_aloadNn0, zg_5_45, zgw_222, zs_iconst, zs_iceq, zi_5_225, zs_goto, zh_0, zh_1, zh_2, zh_3, zh_4, zt_i, zt_l, zt_r, zt_n, zb_15, zb_16, zb_17, za_18, za_19, za_20, za_21, za_22, zb_23, za_24, za_25, za_26, za_27, za_28, za_29, za_30, za_31, za_32, zb_35, za_36, za_37, za_38, za_39, za_40, zb_377, zb_378, za_379, za_380, za_381, za_382, za_383, zb_384, za_385, za_386, za_387, za_388, za_389, za_390, za_391, za_392, za_393, zb_396, za_397, za_398, za_399, za_400, za_401, zb_738, za_739, za_740, za_741, za_742, za_743, za_744, za_745, za_746, za_747, zb_748, za_749, za_750, zb_751, zb_752, za_753, za_754, za_755, za_756, zb_757, za_758, za_759, za_760, zb_761, za_763, za_764, za_765, true_and, and_true, Nat.reduceAdd, g8, zk_rf, n43, not_true_eq_false, not_false_eq_true, true_implies, false_implies, Nat.reduceEqDiff]
  refine ⟨by omega, ?_⟩
  refine h48 _ _ _ ?_
  simp only [bX5_readOne_48, zw_0, zw_1, zs_aloadn0, zs_aloadNn0, zg_5_45, zgs_228, zs_aceq, zgs_204, zgs_231, zgs_234, zgs_237, zs_acne, zb_15, zb_16, zb_17, za_18, za_19, za_20, za_21, za_22, zb_23, za_24, za_25, za_26, za_27, za_28, za_29, za_30, za_31, za_32, zb_35, za_36, za_37, za_38, za_39, za_40, zb_377, zb_378, za_379, za_380, za_381, za_382, za_383, zb_384, za_385, za_386, za_387, za_388, za_389, za_390, za_391, za_392, za_393, zb_396, za_397, za_398, za_399, za_400, za_401, zb_738, za_739, za_740, za_741, za_742, za_743, za_744, za_745, za_746, za_747, zb_748, za_749, za_750, zb_751, zb_752, za_753, za_754, za_755, za_756, zb_757, za_758, za_759, za_760, zb_761, za_763, za_764, za_765, true_and, and_true, Nat.reduceAdd, h8, zk_rf, not_true_eq_false, not_false_eq_true, true_implies, false_implies, Nat.reduceEqDiff]
  refine h106 _ _ _ ?_
  simp only [bX5_readOne_106, zw_0, zw_1, zs_aloadn0, zs_aloadNn0, zs_iconst, zi_5_125, zh_0, zh_1, zh_2, zh_3, zh_4, zt_i, zt_l, zt_r, zt_n, zb_15, zb_16, zb_17, za_18, za_19, za_20, za_21, za_22, zb_23, za_24, za_25, za_26, za_27, za_28, za_29, za_30, za_31, za_32, zb_35, za_36, za_37, za_38, za_39, za_40, zb_377, zb_378, za_379, za_380, za_381, za_382, za_383, zb_384, za_385, za_386, za_387, za_388, za_389, za_390, za_391, za_392, za_393, zb_396, za_397, za_398, za_399, za_400, za_401, zb_738, za_739, za_740, za_741, za_742, za_743, za_744, za_745, za_746, za_747, zb_748, za_749, za_750, zb_751, zb_752, za_753, za_754, za_755, za_756, zb_757, za_758, za_759, za_760, zb_761, za_763, za_764, za_765, true_and, and_true, Nat.reduceAdd]
  refine zd_compE (by omega) h hE hL (fun M1 e1 g1 => ?_)
  simp only [bX5_readOne_106, zw_0, zw_1, zs_aloadn0, zs_aloadNn0, zs_iconst, zi_5_125, zh_0, zh_1, zh_2, zh_3, zh_4, zt_i, zt_l, zt_r, zt_n, zb_15, zb_16, zb_17, za_18, za_19, za_20, za_21, za_22, zb_23, za_24, za_25, za_26, za_27, za_28, za_29, za_30, za_31, za_32, zb_35, za_36, za_37, za_38, za_39, za_40, zb_377, zb_378, za_379, za_380, za_381, za_382, za_383, zb_384, za_385, za_386, za_387, za_388, za_389, za_390, za_391, za_392, za_393, zb_396, za_397, za_398, za_399, za_400, za_401, zb_738, za_739, za_740, za_741, za_742, za_743, za_744, za_745, za_746, za_747, zb_748, za_749, za_750, zb_751, zb_752, za_753, za_754, za_755, za_756, zb_757, za_758, za_759, za_760, zb_761, za_763, za_764, za_765, true_and, and_true, Nat.reduceAdd]
  refine h111 _ _ _ ?_
  simp only [bX5_readOne_111, zw_0, zw_1, zs_return, zn_int, zn_b0, zn_b1, zb_15, zb_16, zb_17, za_18, za_19, za_20, za_21, za_22, zb_23, za_24, za_25, za_26, za_27, za_28, za_29, za_30, za_31, za_32, zb_35, za_36, za_37, za_38, za_39, za_40, zb_377, zb_378, za_379, za_380, za_381, za_382, za_383, zb_384, za_385, za_386, za_387, za_388, za_389, za_390, za_391, za_392, za_393, zb_396, za_397, za_398, za_399, za_400, za_401, zb_738, za_739, za_740, za_741, za_742, za_743, za_744, za_745, za_746, za_747, zb_748, za_749, za_750, zb_751, zb_752, za_753, za_754, za_755, za_756, zb_757, za_758, za_759, za_760, zb_761, za_763, za_764, za_765, true_and, and_true, Nat.reduceAdd]
  exact q M1 e1 g1
theorem zd_Z6 (hE : zm_ok E.2.2.1 E.2.2.2.2) (hL : zl_ok L) : zd_Z tp n m L E 4 mX5_readProduct := by
  intro d o f j c M hd h Q q
  obtain ⟨d, rfl⟩ : ∃ e, d = e + 4 := ⟨d - 4, by omega⟩
  refine zX5_readProduct hE rfl (fun G h0 h7 h34 h67 => ?_)
  show G 0 [some (.ref 761), some (.int (nI o)), none, none] [] M
  refine h0 _ _ _ ?_
  simp only [bX5_readProduct_0, zw_0, zw_1, zs_aloadn0, zs_aloadNn0, zs_iloadn1, zi_5_213, zs_iconst, zs_istoren2, zc_none, zc_int, zc_ref, zc_null, zc_long, zh_0, zh_1, zh_2, zh_3, zh_4, zt_i, zt_l, zt_r, zt_n, zb_15, zb_16, zb_17, za_18, za_19, za_20, za_21, za_22, zb_23, za_24, za_25, za_26, za_27, za_28, za_29, za_30, za_31, za_32, zb_35, za_36, za_37, za_38, za_39, za_40, zb_377, zb_378, za_379, za_380, za_381, za_382, za_383, zb_384, za_385, za_386, za_387, za_388, za_389, za_390, za_391, za_392, za_393, zb_396, za_397, za_398, za_399, za_400, za_401, zb_738, za_739, za_740, za_741, za_742, za_743, za_744, za_745, za_746, za_747, zb_748, za_749, za_750, zb_751, zb_752, za_753, za_754, za_755, za_756, zb_757, za_758, za_759, za_760, zb_761, za_763, za_764, za_765, true_and, and_true, Nat.reduceAdd]
  refine zd_Z7 hE hL _ o f j c M (by omega) h _ (fun M1 e1 g1 => ?_)
  simp only [bX5_readProduct_0, zw_0, zw_1, zs_aloadn0, zs_aloadNn0, zs_iloadn1, zi_5_213, zs_iconst, zs_istoren2, zc_none, zc_int, zc_ref, zc_null, zc_long, zh_0, zh_1, zh_2, zh_3, zh_4, zt_i, zt_l, zt_r, zt_n, zb_15, zb_16, zb_17, za_18, za_19, za_20, za_21, za_22, zb_23, za_24, za_25, za_26, za_27, za_28, za_29, za_30, za_31, za_32, zb_35, za_36, za_37, za_38, za_39, za_40, zb_377, zb_378, za_379, za_380, za_381, za_382, za_383, zb_384, za_385, za_386, za_387, za_388, za_389, za_390, za_391, za_392, za_393, zb_396, za_397, za_398, za_399, za_400, za_401, zb_738, za_739, za_740, za_741, za_742, za_743, za_744, za_745, za_746, za_747, zb_748, za_749, za_750, zb_751, zb_752, za_753, za_754, za_755, za_756, zb_757, za_758, za_759, za_760, zb_761, za_763, za_764, za_765, true_and, and_true, Nat.reduceAdd]
  have h8 : M1.2.2 761 8 = some 1043 := zd_wE e1
  refine h7 _ _ _ ?_
  simp only [bX5_readProduct_7, zw_0, zw_1, zs_iloadn2, zs_sipush, zs_icge, zs_aloadn0, zs_aloadNn0, zg_5_45, zgs_216, zs_aceq, zgs_219, zs_acne, zb_15, zb_16, zb_17, za_18, za_19, za_20, za_21, za_22, zb_23, za_24, za_25, za_26, za_27, za_28, za_29, za_30, za_31, za_32, zb_35, za_36, za_37, za_38, za_39, za_40, zb_377, zb_378, za_379, za_380, za_381, za_382, za_383, zb_384, za_385, za_386, za_387, za_388, za_389, za_390, za_391, za_392, za_393, zb_396, za_397, za_398, za_399, za_400, za_401, zb_738, za_739, za_740, za_741, za_742, za_743, za_744, za_745, za_746, za_747, zb_748, za_749, za_750, zb_751, zb_752, za_753, za_754, za_755, za_756, zb_757, za_758, za_759, za_760, zb_761, za_763, za_764, za_765, true_and, and_true, Nat.reduceAdd, h8, zk_rf, not_true_eq_false, not_false_eq_true, true_implies, false_implies, Nat.reduceEqDiff]
  refine ⟨fun h => absurd h (by decide), fun _ => ?_⟩
  refine h67 _ _ _ ?_
  simp only [bX5_readProduct_67, zw_0, zw_1, zs_return, zn_int, zn_b0, zn_b1, zb_15, zb_16, zb_17, za_18, za_19, za_20, za_21, za_22, zb_23, za_24, za_25, za_26, za_27, za_28, za_29, za_30, za_31, za_32, zb_35, za_36, za_37, za_38, za_39, za_40, zb_377, zb_378, za_379, za_380, za_381, za_382, za_383, zb_384, za_385, za_386, za_387, za_388, za_389, za_390, za_391, za_392, za_393, zb_396, za_397, za_398, za_399, za_400, za_401, zb_738, za_739, za_740, za_741, za_742, za_743, za_744, za_745, za_746, za_747, zb_748, za_749, za_750, zb_751, zb_752, za_753, za_754, za_755, za_756, zb_757, za_758, za_759, za_760, zb_761, za_763, za_764, za_765, true_and, and_true, Nat.reduceAdd]
  exact q M1 e1 g1
theorem zd_Z5 (hE : zm_ok E.2.2.1 E.2.2.2.2) (hL : zl_ok L) : zd_Z tp n m L E 5 mX5_readSum := by
  intro d o f j c M hd h Q q
  obtain ⟨d, rfl⟩ : ∃ e, d = e + 5 := ⟨d - 5, by omega⟩
  refine zX5_readSum hE rfl (fun G h0 h7 h34 h67 => ?_)
  show G 0 [some (.ref 761), some (.int (nI o)), none, none] [] M
  refine h0 _ _ _ ?_
  simp only [bX5_readSum_0, zw_0, zw_1, zs_aloadn0, zs_aloadNn0, zs_iloadn1, zi_5_198, zs_iconst, zs_istoren2, zc_none, zc_int, zc_ref, zc_null, zc_long, zh_0, zh_1, zh_2, zh_3, zh_4, zt_i, zt_l, zt_r, zt_n, zb_15, zb_16, zb_17, za_18, za_19, za_20, za_21, za_22, zb_23, za_24, za_25, za_26, za_27, za_28, za_29, za_30, za_31, za_32, zb_35, za_36, za_37, za_38, za_39, za_40, zb_377, zb_378, za_379, za_380, za_381, za_382, za_383, zb_384, za_385, za_386, za_387, za_388, za_389, za_390, za_391, za_392, za_393, zb_396, za_397, za_398, za_399, za_400, za_401, zb_738, za_739, za_740, za_741, za_742, za_743, za_744, za_745, za_746, za_747, zb_748, za_749, za_750, zb_751, zb_752, za_753, za_754, za_755, za_756, zb_757, za_758, za_759, za_760, zb_761, za_763, za_764, za_765, true_and, and_true, Nat.reduceAdd]
  refine zd_Z6 hE hL _ o f j c M (by omega) h _ (fun M1 e1 g1 => ?_)
  simp only [bX5_readSum_0, zw_0, zw_1, zs_aloadn0, zs_aloadNn0, zs_iloadn1, zi_5_198, zs_iconst, zs_istoren2, zc_none, zc_int, zc_ref, zc_null, zc_long, zh_0, zh_1, zh_2, zh_3, zh_4, zt_i, zt_l, zt_r, zt_n, zb_15, zb_16, zb_17, za_18, za_19, za_20, za_21, za_22, zb_23, za_24, za_25, za_26, za_27, za_28, za_29, za_30, za_31, za_32, zb_35, za_36, za_37, za_38, za_39, za_40, zb_377, zb_378, za_379, za_380, za_381, za_382, za_383, zb_384, za_385, za_386, za_387, za_388, za_389, za_390, za_391, za_392, za_393, zb_396, za_397, za_398, za_399, za_400, za_401, zb_738, za_739, za_740, za_741, za_742, za_743, za_744, za_745, za_746, za_747, zb_748, za_749, za_750, zb_751, zb_752, za_753, za_754, za_755, za_756, zb_757, za_758, za_759, za_760, zb_761, za_763, za_764, za_765, true_and, and_true, Nat.reduceAdd]
  have h8 : M1.2.2 761 8 = some 1043 := zd_wE e1
  refine h7 _ _ _ ?_
  simp only [bX5_readSum_7, zw_0, zw_1, zs_iloadn2, zs_sipush, zs_icge, zs_aloadn0, zs_aloadNn0, zg_5_45, zgs_201, zs_aceq, zgs_204, zs_acne, zb_15, zb_16, zb_17, za_18, za_19, za_20, za_21, za_22, zb_23, za_24, za_25, za_26, za_27, za_28, za_29, za_30, za_31, za_32, zb_35, za_36, za_37, za_38, za_39, za_40, zb_377, zb_378, za_379, za_380, za_381, za_382, za_383, zb_384, za_385, za_386, za_387, za_388, za_389, za_390, za_391, za_392, za_393, zb_396, za_397, za_398, za_399, za_400, za_401, zb_738, za_739, za_740, za_741, za_742, za_743, za_744, za_745, za_746, za_747, zb_748, za_749, za_750, zb_751, zb_752, za_753, za_754, za_755, za_756, zb_757, za_758, za_759, za_760, zb_761, za_763, za_764, za_765, true_and, and_true, Nat.reduceAdd, h8, zk_rf, not_true_eq_false, not_false_eq_true, true_implies, false_implies, Nat.reduceEqDiff]
  refine ⟨fun h => absurd h (by decide), fun _ => ?_⟩
  refine h67 _ _ _ ?_
  simp only [bX5_readSum_67, zw_0, zw_1, zs_return, zn_int, zn_b0, zn_b1, zb_15, zb_16, zb_17, za_18, za_19, za_20, za_21, za_22, zb_23, za_24, za_25, za_26, za_27, za_28, za_29, za_30, za_31, za_32, zb_35, za_36, za_37, za_38, za_39, za_40, zb_377, zb_378, za_379, za_380, za_381, za_382, za_383, zb_384, za_385, za_386, za_387, za_388, za_389, za_390, za_391, za_392, za_393, zb_396, za_397, za_398, za_399, za_400, za_401, zb_738, za_739, za_740, za_741, za_742, za_743, za_744, za_745, za_746, za_747, zb_748, za_749, za_750, zb_751, zb_752, za_753, za_754, za_755, za_756, zb_757, za_758, za_759, za_760, zb_761, za_763, za_764, za_765, true_and, and_true, Nat.reduceAdd]
  exact q M1 e1 g1
theorem zd_Z4 (hE : zm_ok E.2.2.1 E.2.2.2.2) (hL : zl_ok L) : zd_Z tp n m L E 6 mX5_readComparison := by
  intro d o f j c M hd h Q q
  obtain ⟨d, rfl⟩ : ∃ e, d = e + 6 := ⟨d - 6, by omega⟩
  refine zX5_readComparison hE rfl (fun G h0 h25 => ?_)
  show G 0 [some (.ref 761), some (.int (nI o)), none] [] M
  refine h0 _ _ _ ?_
  simp only [bX5_readComparison_0, zw_0, zw_1, zs_aloadn0, zs_aloadNn0, zs_iloadn1, zi_5_164, zg_5_45, zgw_207, zs_istoren2, zs_iloadn2, zs_bipush, zs_icge, zs_iconst, zi_5_125, zs_return, zc_none, zc_int, zc_ref, zc_null, zc_long, zh_0, zh_1, zh_2, zh_3, zh_4, zt_i, zt_l, zt_r, zt_n, zn_int, zn_b0, zn_b1, zb_15, zb_16, zb_17, za_18, za_19, za_20, za_21, za_22, zb_23, za_24, za_25, za_26, za_27, za_28, za_29, za_30, za_31, za_32, zb_35, za_36, za_37, za_38, za_39, za_40, zb_377, zb_378, za_379, za_380, za_381, za_382, za_383, zb_384, za_385, za_386, za_387, za_388, za_389, za_390, za_391, za_392, za_393, zb_396, za_397, za_398, za_399, za_400, za_401, zb_738, za_739, za_740, za_741, za_742, za_743, za_744, za_745, za_746, za_747, zb_748, za_749, za_750, zb_751, zb_752, za_753, za_754, za_755, za_756, zb_757, za_758, za_759, za_760, zb_761, za_763, za_764, za_765, true_and, and_true, Nat.reduceAdd]
  refine zd_Z5 hE hL _ o f j c M (by omega) h _ (fun M1 e1 g1 => ?_)
  obtain ⟨w, hw, g8⟩ : ∃ w, w = 43 ∧ M1.2.2 761 8 = some (1000 + w) := ⟨43, rfl, zd_wE e1⟩
  have n43 : zz_fv 2 w = -1 := by rw [hw]; decide +kernel
  simp only [bX5_readComparison_0, zw_0, zw_1, zs_aloadn0, zs_aloadNn0, zs_iloadn1, zi_5_164, zg_5_45, zgw_207, zs_istoren2, zs_iloadn2, zs_bipush, zs_icge, zs_iconst, zi_5_125, zs_return, zc_none, zc_int, zc_ref, zc_null, zc_long, zh_0, zh_1, zh_2, zh_3, zh_4, zt_i, zt_l, zt_r, zt_n, zn_int, zn_b0, zn_b1, zb_15, zb_16, zb_17, za_18, za_19, za_20, za_21, za_22, zb_23, za_24, za_25, za_26, za_27, za_28, za_29, za_30, za_31, za_32, zb_35, za_36, za_37, za_38, za_39, za_40, zb_377, zb_378, za_379, za_380, za_381, za_382, za_383, zb_384, za_385, za_386, za_387, za_388, za_389, za_390, za_391, za_392, za_393, zb_396, za_397, za_398, za_399, za_400, za_401, zb_738, za_739, za_740, za_741, za_742, za_743, za_744, za_745, za_746, za_747, zb_748, za_749, za_750, zb_751, zb_752, za_753, za_754, za_755, za_756, zb_757, za_758, za_759, za_760, zb_761, za_763, za_764, za_765, true_and, and_true, Nat.reduceAdd, g8, zk_rf, n43]
  refine ⟨by omega, fun h => absurd h (by decide), fun _ => ?_⟩
  refine zd_compE (by omega) e1 hE hL (fun M2 e2 g2 => ?_)
  simp only [bX5_readComparison_0, zw_0, zw_1, zs_aloadn0, zs_aloadNn0, zs_iloadn1, zi_5_164, zg_5_45, zgw_207, zs_istoren2, zs_iloadn2, zs_bipush, zs_icge, zs_iconst, zi_5_125, zs_return, zc_none, zc_int, zc_ref, zc_null, zc_long, zh_0, zh_1, zh_2, zh_3, zh_4, zt_i, zt_l, zt_r, zt_n, zn_int, zn_b0, zn_b1, zb_15, zb_16, zb_17, za_18, za_19, za_20, za_21, za_22, zb_23, za_24, za_25, za_26, za_27, za_28, za_29, za_30, za_31, za_32, zb_35, za_36, za_37, za_38, za_39, za_40, zb_377, zb_378, za_379, za_380, za_381, za_382, za_383, zb_384, za_385, za_386, za_387, za_388, za_389, za_390, za_391, za_392, za_393, zb_396, za_397, za_398, za_399, za_400, za_401, zb_738, za_739, za_740, za_741, za_742, za_743, za_744, za_745, za_746, za_747, zb_748, za_749, za_750, zb_751, zb_752, za_753, za_754, za_755, za_756, zb_757, za_758, za_759, za_760, zb_761, za_763, za_764, za_765, true_and, and_true, Nat.reduceAdd]
  exact q M2 e2 (zk_g_trans g1 g2)
theorem zd_Z3 (hE : zm_ok E.2.2.1 E.2.2.2.2) (hL : zl_ok L) : zd_Z tp n m L E 7 mX5_readAsk := by
  intro d o f j c M hd h Q q
  obtain ⟨d, rfl⟩ : ∃ e, d = e + 7 := ⟨d - 7, by omega⟩
  refine zX5_readAsk hE rfl (fun G h0 h18 h32 h53 => ?_)
  show G 0 [some (.ref 761), some (.int (nI o))] [] M
  have h8 : M.2.2 761 8 = some 1043 := zd_wE h
  refine h0 _ _ _ ?_
  simp only [bX5_readAsk_0, zw_0, zw_1, zs_aloadn0, zs_aloadNn0, zg_5_45, zgs_279, zs_aceq, zs_iloadn1, zi_5_282, zs_goto, zh_0, zh_1, zh_2, zh_3, zh_4, zt_i, zt_l, zt_r, zt_n, zb_15, zb_16, zb_17, za_18, za_19, za_20, za_21, za_22, zb_23, za_24, za_25, za_26, za_27, za_28, za_29, za_30, za_31, za_32, zb_35, za_36, za_37, za_38, za_39, za_40, zb_377, zb_378, za_379, za_380, za_381, za_382, za_383, zb_384, za_385, za_386, za_387, za_388, za_389, za_390, za_391, za_392, za_393, zb_396, za_397, za_398, za_399, za_400, za_401, zb_738, za_739, za_740, za_741, za_742, za_743, za_744, za_745, za_746, za_747, zb_748, za_749, za_750, zb_751, zb_752, za_753, za_754, za_755, za_756, zb_757, za_758, za_759, za_760, zb_761, za_763, za_764, za_765, true_and, and_true, Nat.reduceAdd, h8, zk_rf, not_true_eq_false, not_false_eq_true, true_implies, false_implies, Nat.reduceEqDiff]
  refine zd_Z4 hE hL _ o f j c M (by omega) h _ (fun M1 e1 g1 => ?_)
  simp only [bX5_readAsk_0, zw_0, zw_1, zs_aloadn0, zs_aloadNn0, zg_5_45, zgs_279, zs_aceq, zs_iloadn1, zi_5_282, zs_goto, zh_0, zh_1, zh_2, zh_3, zh_4, zt_i, zt_l, zt_r, zt_n, zb_15, zb_16, zb_17, za_18, za_19, za_20, za_21, za_22, zb_23, za_24, za_25, za_26, za_27, za_28, za_29, za_30, za_31, za_32, zb_35, za_36, za_37, za_38, za_39, za_40, zb_377, zb_378, za_379, za_380, za_381, za_382, za_383, zb_384, za_385, za_386, za_387, za_388, za_389, za_390, za_391, za_392, za_393, zb_396, za_397, za_398, za_399, za_400, za_401, zb_738, za_739, za_740, za_741, za_742, za_743, za_744, za_745, za_746, za_747, zb_748, za_749, za_750, zb_751, zb_752, za_753, za_754, za_755, za_756, zb_757, za_758, za_759, za_760, zb_761, za_763, za_764, za_765, true_and, and_true, Nat.reduceAdd]
  refine h53 _ _ _ ?_
  simp only [bX5_readAsk_53, zw_0, zw_1, zs_return, zn_int, zn_b0, zn_b1, zb_15, zb_16, zb_17, za_18, za_19, za_20, za_21, za_22, zb_23, za_24, za_25, za_26, za_27, za_28, za_29, za_30, za_31, za_32, zb_35, za_36, za_37, za_38, za_39, za_40, zb_377, zb_378, za_379, za_380, za_381, za_382, za_383, zb_384, za_385, za_386, za_387, za_388, za_389, za_390, za_391, za_392, za_393, zb_396, za_397, za_398, za_399, za_400, za_401, zb_738, za_739, za_740, za_741, za_742, za_743, za_744, za_745, za_746, za_747, zb_748, za_749, za_750, zb_751, zb_752, za_753, za_754, za_755, za_756, zb_757, za_758, za_759, za_760, zb_761, za_763, za_764, za_765, true_and, and_true, Nat.reduceAdd]
  exact q M1 e1 g1
theorem zd_Z2 (hE : zm_ok E.2.2.1 E.2.2.2.2) (hL : zl_ok L) : zd_Z tp n m L E 8 mX5_readBoth := by
  intro d o f j c M hd h Q q
  obtain ⟨d, rfl⟩ : ∃ e, d = e + 8 := ⟨d - 8, by omega⟩
  refine zX5_readBoth hE rfl (fun G h0 h7 h50 => ?_)
  show G 0 [some (.ref 761), some (.int (nI o)), none] [] M
  refine h0 _ _ _ ?_
  simp only [bX5_readBoth_0, zw_0, zw_1, zs_aloadn0, zs_aloadNn0, zs_iloadn1, zi_5_273, zs_iconst, zs_istoren2, zc_none, zc_int, zc_ref, zc_null, zc_long, zh_0, zh_1, zh_2, zh_3, zh_4, zt_i, zt_l, zt_r, zt_n, zb_15, zb_16, zb_17, za_18, za_19, za_20, za_21, za_22, zb_23, za_24, za_25, za_26, za_27, za_28, za_29, za_30, za_31, za_32, zb_35, za_36, za_37, za_38, za_39, za_40, zb_377, zb_378, za_379, za_380, za_381, za_382, za_383, zb_384, za_385, za_386, za_387, za_388, za_389, za_390, za_391, za_392, za_393, zb_396, za_397, za_398, za_399, za_400, za_401, zb_738, za_739, za_740, za_741, za_742, za_743, za_744, za_745, za_746, za_747, zb_748, za_749, za_750, zb_751, zb_752, za_753, za_754, za_755, za_756, zb_757, za_758, za_759, za_760, zb_761, za_763, za_764, za_765, true_and, and_true, Nat.reduceAdd]
  refine zd_Z3 hE hL _ o f j c M (by omega) h _ (fun M1 e1 g1 => ?_)
  simp only [bX5_readBoth_0, zw_0, zw_1, zs_aloadn0, zs_aloadNn0, zs_iloadn1, zi_5_273, zs_iconst, zs_istoren2, zc_none, zc_int, zc_ref, zc_null, zc_long, zh_0, zh_1, zh_2, zh_3, zh_4, zt_i, zt_l, zt_r, zt_n, zb_15, zb_16, zb_17, za_18, za_19, za_20, za_21, za_22, zb_23, za_24, za_25, za_26, za_27, za_28, za_29, za_30, za_31, za_32, zb_35, za_36, za_37, za_38, za_39, za_40, zb_377, zb_378, za_379, za_380, za_381, za_382, za_383, zb_384, za_385, za_386, za_387, za_388, za_389, za_390, za_391, za_392, za_393, zb_396, za_397, za_398, za_399, za_400, za_401, zb_738, za_739, za_740, za_741, za_742, za_743, za_744, za_745, za_746, za_747, zb_748, za_749, za_750, zb_751, zb_752, za_753, za_754, za_755, za_756, zb_757, za_758, za_759, za_760, zb_761, za_763, za_764, za_765, true_and, and_true, Nat.reduceAdd]
  have h8 : M1.2.2 761 8 = some 1043 := zd_wE e1
  refine h7 _ _ _ ?_
  simp only [bX5_readBoth_7, zw_0, zw_1, zs_iloadn2, zs_sipush, zs_icge, zs_aloadn0, zs_aloadNn0, zg_5_45, zgs_276, zs_acne, zi_5_122, zs_iloadn1, zi_5_273, zg_5_51, zs_bipush, zs_iconst, zi_5_210, zs_popi, zs_popr, zs_popn, zs_iinc2, zs_goto, zc_none, zc_int, zc_ref, zc_null, zc_long, zh_0, zh_1, zh_2, zh_3, zh_4, zt_i, zt_l, zt_r, zt_n, zb_15, zb_16, zb_17, za_18, za_19, za_20, za_21, za_22, zb_23, za_24, za_25, za_26, za_27, za_28, za_29, za_30, za_31, za_32, zb_35, za_36, za_37, za_38, za_39, za_40, zb_377, zb_378, za_379, za_380, za_381, za_382, za_383, zb_384, za_385, za_386, za_387, za_388, za_389, za_390, za_391, za_392, za_393, zb_396, za_397, za_398, za_399, za_400, za_401, zb_738, za_739, za_740, za_741, za_742, za_743, za_744, za_745, za_746, za_747, zb_748, za_749, za_750, zb_751, zb_752, za_753, za_754, za_755, za_756, zb_757, za_758, za_759, za_760, zb_761, za_763, za_764, za_765, true_and, and_true, Nat.reduceAdd, h8, zk_rf, not_true_eq_false, not_false_eq_true, true_implies, false_implies, Nat.reduceEqDiff]
  refine ⟨fun h => absurd h (by decide), fun _ => ?_⟩
  refine h50 _ _ _ ?_
  simp only [bX5_readBoth_50, zw_0, zw_1, zs_return, zn_int, zn_b0, zn_b1, zb_15, zb_16, zb_17, za_18, za_19, za_20, za_21, za_22, zb_23, za_24, za_25, za_26, za_27, za_28, za_29, za_30, za_31, za_32, zb_35, za_36, za_37, za_38, za_39, za_40, zb_377, zb_378, za_379, za_380, za_381, za_382, za_383, zb_384, za_385, za_386, za_387, za_388, za_389, za_390, za_391, za_392, za_393, zb_396, za_397, za_398, za_399, za_400, za_401, zb_738, za_739, za_740, za_741, za_742, za_743, za_744, za_745, za_746, za_747, zb_748, za_749, za_750, zb_751, zb_752, za_753, za_754, za_755, za_756, zb_757, za_758, za_759, za_760, zb_761, za_763, za_764, za_765, true_and, and_true, Nat.reduceAdd]
  exact q M1 e1 g1
theorem zd_Z1 (hE : zm_ok E.2.2.1 E.2.2.2.2) (hL : zl_ok L) : zd_Z tp n m L E 9 mX5_readEither := by
  intro d o f j c M hd h Q q
  obtain ⟨d, rfl⟩ : ∃ e, d = e + 9 := ⟨d - 9, by omega⟩
  refine zX5_readEither hE rfl (fun G h0 h7 h50 => ?_)
  show G 0 [some (.ref 761), some (.int (nI o)), none] [] M
  refine h0 _ _ _ ?_
  simp only [bX5_readEither_0, zw_0, zw_1, zs_aloadn0, zs_aloadNn0, zs_iloadn1, zi_5_267, zs_iconst, zs_istoren2, zc_none, zc_int, zc_ref, zc_null, zc_long, zh_0, zh_1, zh_2, zh_3, zh_4, zt_i, zt_l, zt_r, zt_n, zb_15, zb_16, zb_17, za_18, za_19, za_20, za_21, za_22, zb_23, za_24, za_25, za_26, za_27, za_28, za_29, za_30, za_31, za_32, zb_35, za_36, za_37, za_38, za_39, za_40, zb_377, zb_378, za_379, za_380, za_381, za_382, za_383, zb_384, za_385, za_386, za_387, za_388, za_389, za_390, za_391, za_392, za_393, zb_396, za_397, za_398, za_399, za_400, za_401, zb_738, za_739, za_740, za_741, za_742, za_743, za_744, za_745, za_746, za_747, zb_748, za_749, za_750, zb_751, zb_752, za_753, za_754, za_755, za_756, zb_757, za_758, za_759, za_760, zb_761, za_763, za_764, za_765, true_and, and_true, Nat.reduceAdd]
  refine zd_Z2 hE hL _ o f j c M (by omega) h _ (fun M1 e1 g1 => ?_)
  simp only [bX5_readEither_0, zw_0, zw_1, zs_aloadn0, zs_aloadNn0, zs_iloadn1, zi_5_267, zs_iconst, zs_istoren2, zc_none, zc_int, zc_ref, zc_null, zc_long, zh_0, zh_1, zh_2, zh_3, zh_4, zt_i, zt_l, zt_r, zt_n, zb_15, zb_16, zb_17, za_18, za_19, za_20, za_21, za_22, zb_23, za_24, za_25, za_26, za_27, za_28, za_29, za_30, za_31, za_32, zb_35, za_36, za_37, za_38, za_39, za_40, zb_377, zb_378, za_379, za_380, za_381, za_382, za_383, zb_384, za_385, za_386, za_387, za_388, za_389, za_390, za_391, za_392, za_393, zb_396, za_397, za_398, za_399, za_400, za_401, zb_738, za_739, za_740, za_741, za_742, za_743, za_744, za_745, za_746, za_747, zb_748, za_749, za_750, zb_751, zb_752, za_753, za_754, za_755, za_756, zb_757, za_758, za_759, za_760, zb_761, za_763, za_764, za_765, true_and, and_true, Nat.reduceAdd]
  have h8 : M1.2.2 761 8 = some 1043 := zd_wE e1
  refine h7 _ _ _ ?_
  simp only [bX5_readEither_7, zw_0, zw_1, zs_iloadn2, zs_sipush, zs_icge, zs_aloadn0, zs_aloadNn0, zg_5_45, zgs_270, zs_acne, zi_5_122, zs_iloadn1, zi_5_267, zg_5_51, zs_bipush, zs_iconst, zi_5_210, zs_popi, zs_popr, zs_popn, zs_iinc2, zs_goto, zc_none, zc_int, zc_ref, zc_null, zc_long, zh_0, zh_1, zh_2, zh_3, zh_4, zt_i, zt_l, zt_r, zt_n, zb_15, zb_16, zb_17, za_18, za_19, za_20, za_21, za_22, zb_23, za_24, za_25, za_26, za_27, za_28, za_29, za_30, za_31, za_32, zb_35, za_36, za_37, za_38, za_39, za_40, zb_377, zb_378, za_379, za_380, za_381, za_382, za_383, zb_384, za_385, za_386, za_387, za_388, za_389, za_390, za_391, za_392, za_393, zb_396, za_397, za_398, za_399, za_400, za_401, zb_738, za_739, za_740, za_741, za_742, za_743, za_744, za_745, za_746, za_747, zb_748, za_749, za_750, zb_751, zb_752, za_753, za_754, za_755, za_756, zb_757, za_758, za_759, za_760, zb_761, za_763, za_764, za_765, true_and, and_true, Nat.reduceAdd, h8, zk_rf, not_true_eq_false, not_false_eq_true, true_implies, false_implies, Nat.reduceEqDiff]
  refine ⟨fun h => absurd h (by decide), fun _ => ?_⟩
  refine h50 _ _ _ ?_
  simp only [bX5_readEither_50, zw_0, zw_1, zs_return, zn_int, zn_b0, zn_b1, zb_15, zb_16, zb_17, za_18, za_19, za_20, za_21, za_22, zb_23, za_24, za_25, za_26, za_27, za_28, za_29, za_30, za_31, za_32, zb_35, za_36, za_37, za_38, za_39, za_40, zb_377, zb_378, za_379, za_380, za_381, za_382, za_383, zb_384, za_385, za_386, za_387, za_388, za_389, za_390, za_391, za_392, za_393, zb_396, za_397, za_398, za_399, za_400, za_401, zb_738, za_739, za_740, za_741, za_742, za_743, za_744, za_745, za_746, za_747, zb_748, za_749, za_750, zb_751, zb_752, za_753, za_754, za_755, za_756, zb_757, za_758, za_759, za_760, zb_761, za_763, za_764, za_765, true_and, and_true, Nat.reduceAdd]
  exact q M1 e1 g1
end
