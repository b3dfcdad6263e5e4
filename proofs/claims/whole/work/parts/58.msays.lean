/-! ===== the reference: what a text says; names ===== -/
def zl_m (M : zm_M) (t w : Nat) (D : Option zD) : Prop := ∃ nc, M.1 3 (705 * t) = nI nc ∧ nc ≤ 24 ∧ match D with
  | none => ∀ k, k < nc → ¬ M.1 3 (705 * t + 1 + 4 * k) = nI w
  | some D => ∃ k i0 i1 co cv, k < nc ∧ i1 ≤ 304 ∧ M.1 3 (705 * t + 1 + 4 * k) = nI w ∧ (∀ j, j < k → ¬ M.1 3 (705 * t + 1 + 4 * j) = nI w) ∧ M.1 3 (705 * t + 1 + 4 * k + 1) = nI i0 ∧ M.1 3 (705 * t + 1 + 4 * k + 2) = nI i1 ∧ (∀ i, i0 ≤ i → i < i1 → M.1 3 (705 * t + 97 + 2 * i) = nI (co i) ∧ M.1 3 (705 * t + 97 + 2 * i + 1) = nI (cv i) ∧ co i ≤ 22) ∧ zp_seg co cv i0 i1 D
theorem zl_m_c {M M' : zm_M} {t w : Nat} {D : Option zD} (h : zl_m M t w D) (e : ∀ j, 705 * t ≤ j → j < 705 * t + 705 → M'.1 3 j = M.1 3 j) : zl_m M' t w D := by
  obtain ⟨nc, h1, h2, h3⟩ := h
  refine ⟨nc, by rw [e _ (by omega) (by omega)]; exact h1, h2, ?_⟩
  cases D with
  | none => exact fun k hk => by rw [e _ (by omega) (by omega)]; exact h3 k hk
  | some D =>
    obtain ⟨k, i0, i1, co, cv, a1, a2, a3, a4, a5, a6, a7, a8⟩ := h3
    exact ⟨k, i0, i1, co, cv, a1, a2, by rw [e _ (by omega) (by omega)]; exact a3, fun j hj => by rw [e _ (by omega) (by omega)]; exact a4 j hj, by rw [e _ (by omega) (by omega)]; exact a5, by rw [e _ (by omega) (by omega)]; exact a6, fun i b1 b2 => by rw [e _ (by omega) (by omega), e _ (by omega) (by omega)]; exact a7 i b1 b2, a8⟩
theorem zx_cut {v : Int64} {hi : Int32} (h : 0 ≤ hi.toInt) : (zi_cut v 0 hi).toInt = if v.toInt < 0 then 0 else if hi.toInt < v.toInt then hi.toInt else v.toInt := by
  unfold zi_cut
  have e1 : ((0 : Int32).toInt64 ≤ v) = (0 ≤ v.toInt) := by rw [zx_i64le]; rfl
  have e2 : (v ≤ hi.toInt64) = (v.toInt ≤ hi.toInt) := by rw [zx_i64le, Int32.toInt_toInt64]
  by_cases c : 0 ≤ v.toInt
  · have c' : (0 : Int32).toInt64 ≤ v := by rw [e1]; exact c
    rw [if_pos c', if_neg (show ¬ v.toInt < 0 by omega)]
    by_cases c2 : v.toInt ≤ hi.toInt
    · have c2' : v ≤ hi.toInt64 := by rw [e2]; exact c2
      rw [if_pos c2', if_neg (show ¬ hi.toInt < v.toInt by omega), Int64.toInt_toInt32]
      have := Int32.toInt_lt hi
      exact Int.bmod_eq_of_le (by omega) (by omega)
    · have c2' : ¬ v ≤ hi.toInt64 := by rw [e2]; exact c2
      rw [if_neg c2', if_pos (show hi.toInt < v.toInt by omega)]
  · have c' : ¬ (0 : Int32).toInt64 ≤ v := by rw [e1]; exact c
    rw [if_neg c', if_pos (show v.toInt < 0 by omega)]; rfl
theorem zq_bd_cut {w : Nat} {v : Int64} {hi : Int32} (ht : hi.toInt = zq_top w) : (zi_cut v 0 hi).toInt = zq_bd w v.toInt := by
  have h0 := zq_top_0 w
  rw [zx_cut (by omega), ht]; rfl
theorem c_says {E : zm_E} (hE : zm_ok E.2.2.1 E.2.2.2.2) (d : Nat) {n w : Nat} (hw2 : w ≤ 2) {tx wo top : Int32} {M : zm_M} (hw : zt_wf n (fun i => M.1 1 (90 + i))) (hc : M.1 1 0 = nI n) (hnm : ∀ i, i < 9 → zq_ok (M.1 6 i).toInt) {D : Option zD} (hT : (tx = -1 ∧ D = none) ∨ ∃ t, t < 4 ∧ tx = nI t ∧ zl_m M t w D) (hwo : wo.toInt = zq_un w (fun i => (M.1 6 i).toInt)) (htop : top.toInt = zq_top w) {Q : Option Value → zm_M → Prop} (q : ∀ y M', y.toInt = zq_said D w (fun i => (M.1 6 i).toInt) (zq_rk n (fun i => M.1 1 (90 + i))) → zf [7, 8] M M' → Q (some (.int y)) M') : zm_R E (d + 4) mX12_says [.ref 0, .int tx, .int (nI w), .int wo, .int top] M Q := by
  refine zX12_says hE rfl (fun G h0 h3 h57 h63 => ?_)
  show G 0 [some (.ref 0), some (.int tx), some (.int (nI w)), some (.int wo), some (.int top), none] [] M
  have fin : D = none → ∀ k, G 63 [some (.ref 0), some (.int tx), some (.int (nI w)), some (.int wo), some (.int top), some (.int k)] [] M := by
    intro hD k
    refine h63 _ _ _ ?_
    simp only [bX12_says_63, zw_0, zw_1, zs_iloadn3, zs_i2l, zs_iconst, zs_iload4, zi_12_289, zs_ireturn, zh_0, zh_1, zh_2, zh_3, zh_4, zt_i, zt_l, zt_r, zt_n, zn_int, zn_b0, zn_b1, zb_0, za_1, za_2, za_3, za_4, za_5, za_6, za_7, za_8, za_9, za_10, za_11, za_12, za_13, za_14, true_and, and_true, Nat.reduceAdd]
    refine zm_R_eq (c_cut hE (d + 2) _ 0 top M) ?_
    simp only [bX12_says_63, zw_0, zw_1, zs_iloadn3, zs_i2l, zs_iconst, zs_iload4, zi_12_289, zs_ireturn, zh_0, zh_1, zh_2, zh_3, zh_4, zt_i, zt_l, zt_r, zt_n, zn_int, zn_b0, zn_b1, zb_0, za_1, za_2, za_3, za_4, za_5, za_6, za_7, za_8, za_9, za_10, za_11, za_12, za_13, za_14, true_and, and_true, Nat.reduceAdd]
    refine q _ M ?_ zf_refl
    rw [zq_bd_cut htop, Int32.toInt_toInt64, hwo, hD]; rfl
  refine h0 _ _ _ ?_
  simp only [bX12_says_0, zw_0, zw_1, zs_iconst, zs_istore5, zc_none, zc_int, zc_ref, zc_null, zc_long, zb_0, za_1, za_2, za_3, za_4, za_5, za_6, za_7, za_8, za_9, za_10, za_11, za_12, za_13, za_14, true_and, and_true, Nat.reduceAdd]
  rcases hT with ⟨rfl, hD⟩ | ⟨t, ht, rfl, nc, hnc, hn24, hT⟩
  · refine h3 _ _ _ ?_
    simp only [bX12_says_3, zw_0, zw_1, zs_iloadn1, zs_iflt, zs_iload5, zs_aloadn0, zs_aloadNn0, zg_12_16, zs_sipush, zs_imul, zs_iaload, zs_icge, zs_iconst, zs_iadd, zs_iloadn2, zs_icne, zi_12_286, zs_iload4, zi_12_289, zs_ireturn, zh_0, zh_1, zh_2, zh_3, zh_4, zt_i, zt_l, zt_r, zt_n, zn_int, zn_b0, zn_b1, zb_0, za_1, za_2, za_3, za_4, za_5, za_6, za_7, za_8, za_9, za_10, za_11, za_12, za_13, za_14, zu_0, zu_1, zu_2, zu_3, zu_4, zu_5, zu_6, zu_7, zu_8, zu_9, zu_10, zu_11, zu_12, zu_13, zu_14, zu_15, zu_16, zu_17, zu_18, zu_19, zu_20, zu_21, zu_22, zu_23, zu_24, zu_25, zu_26, zu_27, zu_28, zu_29, zu_30, zu_90, zv_0_9, zv_1_9, zv_2_9, zv_3_9, zv_4_9, zv_5_9, zv_6_9, zv_7_9, zv_8_9, zv_0_330, zv_0_4544, zv_1_4544, zv_2_4544, zv_3_4544, zv_4_4544, zv_5_4544, zv_6_4544, zv_7_4544, zv_8_4544, zv_9_4544, zv_10_4544, zv_11_4544, zv_12_4544, zv_13_4544, zv_14_4544, zv_15_4544, zv_16_4544, zv_17_4544, zv_18_4544, zv_19_4544, zv_20_4544, zv_21_4544, zv_22_4544, zv_23_4544, zv_24_4544, zv_25_4544, zv_26_4544, zv_27_4544, zv_28_4544, zv_29_4544, zv_0_11, zv_1_11, zv_0_160, true_and, and_true, Nat.reduceAdd]
    exact ⟨fun _ => fin hD _, fun h => absurd (by decide) h⟩
  · have e0 : (705 : Int32) * nI t = nI (705 * t) := by rw [show (705 : Int32) = nI 705 from rfl, pk_mul]
    have v0 : vp_in (nI (705 * t)) 2820 := vp_in_nI (by omega) (by decide)
    have c0 : (nI (705 * t)).toNatClampNeg = 705 * t := nI_clamp (by omega)
    have tp : ¬ nI t < 0 := nI_pos (by omega)
    have loop : ∀ (f k : Nat), k + f = nc → (∀ j, j < k → ¬ M.1 3 (705 * t + 1 + 4 * j) = nI w) → G 3 [some (.ref 0), some (.int (nI t)), some (.int (nI w)), some (.int wo), some (.int top), some (.int (nI k))] [] M := by
      intro f
      induction f with
      | zero =>
        intro k hk hno
        refine h3 _ _ _ ?_
        simp only [bX12_says_3, zw_0, zw_1, zs_iloadn1, zs_iflt, zs_iload5, zs_aloadn0, zs_aloadNn0, zg_12_16, zs_sipush, zs_imul, zs_iaload, zs_icge, zs_iconst, zs_iadd, zs_iloadn2, zs_icne, zi_12_286, zs_iload4, zi_12_289, zs_ireturn, zh_0, zh_1, zh_2, zh_3, zh_4, zt_i, zt_l, zt_r, zt_n, zn_int, zn_b0, zn_b1, zb_0, za_1, za_2, za_3, za_4, za_5, za_6, za_7, za_8, za_9, za_10, za_11, za_12, za_13, za_14, zu_0, zu_1, zu_2, zu_3, zu_4, zu_5, zu_6, zu_7, zu_8, zu_9, zu_10, zu_11, zu_12, zu_13, zu_14, zu_15, zu_16, zu_17, zu_18, zu_19, zu_20, zu_21, zu_22, zu_23, zu_24, zu_25, zu_26, zu_27, zu_28, zu_29, zu_30, zu_90, zv_0_9, zv_1_9, zv_2_9, zv_3_9, zv_4_9, zv_5_9, zv_6_9, zv_7_9, zv_8_9, zv_0_330, zv_0_4544, zv_1_4544, zv_2_4544, zv_3_4544, zv_4_4544, zv_5_4544, zv_6_4544, zv_7_4544, zv_8_4544, zv_9_4544, zv_10_4544, zv_11_4544, zv_12_4544, zv_13_4544, zv_14_4544, zv_15_4544, zv_16_4544, zv_17_4544, zv_18_4544, zv_19_4544, zv_20_4544, zv_21_4544, zv_22_4544, zv_23_4544, zv_24_4544, zv_25_4544, zv_26_4544, zv_27_4544, zv_28_4544, zv_29_4544, zv_0_11, zv_1_11, zv_0_160, true_and, and_true, Nat.reduceAdd, e0, v0, c0, hnc]
        refine ⟨fun h => absurd h tp, fun _ => ⟨fun _ => fin ?_ _, fun h => absurd (nI_le (by omega) (by omega)) h⟩⟩
        cases D with
        | none => rfl
        | some D =>
          obtain ⟨k', i0, i1, co, cv, a1, a2, a3, a4⟩ := hT
          exact absurd a3 (hno k' (by omega))
      | succ f ih =>
        intro k hk hno
        have e1 : nI (705 * t) + 1 + 4 * nI k = nI (705 * t + 1 + 4 * k) := by rw [show (4 : Int32) = nI 4 from rfl, pk_mul, nI_1, nI_add]
        obtain ⟨v1, c1⟩ := zx_ck (k := 705 * t + 1) (p := 4 * k) (N := 2820) (by omega) (by decide)
        refine h3 _ _ _ ?_
        simp only [bX12_says_3, zw_0, zw_1, zs_iloadn1, zs_iflt, zs_iload5, zs_aloadn0, zs_aloadNn0, zg_12_16, zs_sipush, zs_imul, zs_iaload, zs_icge, zs_iconst, zs_iadd, zs_iloadn2, zs_icne, zi_12_286, zs_iload4, zi_12_289, zs_ireturn, zh_0, zh_1, zh_2, zh_3, zh_4, zt_i, zt_l, zt_r, zt_n, zn_int, zn_b0, zn_b1, zb_0, za_1, za_2, za_3, za_4, za_5, za_6, za_7, za_8, za_9, za_10, za_11, za_12, za_13, za_14, zu_0, zu_1, zu_2, zu_3, zu_4, zu_5, zu_6, zu_7, zu_8, zu_9, zu_10, zu_11, zu_12, zu_13, zu_14, zu_15, zu_16, zu_17, zu_18, zu_19, zu_20, zu_21, zu_22, zu_23, zu_24, zu_25, zu_26, zu_27, zu_28, zu_29, zu_30, zu_90, zv_0_9, zv_1_9, zv_2_9, zv_3_9, zv_4_9, zv_5_9, zv_6_9, zv_7_9, zv_8_9, zv_0_330, zv_0_4544, zv_1_4544, zv_2_4544, zv_3_4544, zv_4_4544, zv_5_4544, zv_6_4544, zv_7_4544, zv_8_4544, zv_9_4544, zv_10_4544, zv_11_4544, zv_12_4544, zv_13_4544, zv_14_4544, zv_15_4544, zv_16_4544, zv_17_4544, zv_18_4544, zv_19_4544, zv_20_4544, zv_21_4544, zv_22_4544, zv_23_4544, zv_24_4544, zv_25_4544, zv_26_4544, zv_27_4544, zv_28_4544, zv_29_4544, zv_0_11, zv_1_11, zv_0_160, true_and, and_true, Nat.reduceAdd, e0, v0, c0, hnc, e1, v1, c1]
        refine ⟨fun h => absurd h tp, fun _ => ⟨fun h => absurd h (nI_ge (by omega) (by omega)), fun _ => ⟨fun hne => ?_, fun heq => ?_⟩⟩⟩
        · refine h57 _ _ _ ?_
          simp only [bX12_says_57, zw_0, zw_1, zs_iinc5, zs_goto, zc_none, zc_int, zc_ref, zc_null, zc_long, zb_0, za_1, za_2, za_3, za_4, za_5, za_6, za_7, za_8, za_9, za_10, za_11, za_12, za_13, za_14, true_and, and_true, Nat.reduceAdd, nI_1]
          refine ih (k + 1) (by omega) (fun j hj => ?_)
          by_cases c : j = k
          · rw [c]; exact hne
          · exact hno j (by omega)
        · cases D with
          | none => exact absurd heq (hT k (by omega))
          | some D =>
            obtain ⟨k', i0, i1, co, cv, a1, a2, a3, a4, a5, a6, a7, a8⟩ := hT
            have hkk : k' = k := by
              rcases Nat.lt_trichotomy k' k with z | z | z
              · exact absurd a3 (hno k' z)
              · exact z
              · exact absurd heq (a4 k z)
            subst hkk
            refine c_summedUp hE d ht (by omega) a2 hw hc hnm a5 a6 a7 a8 (fun x M' hx hok hf => ?_)
            simp only [bX12_says_3, zw_0, zw_1, zs_iloadn1, zs_iflt, zs_iload5, zs_aloadn0, zs_aloadNn0, zg_12_16, zs_sipush, zs_imul, zs_iaload, zs_icge, zs_iconst, zs_iadd, zs_iloadn2, zs_icne, zi_12_286, zs_iload4, zi_12_289, zs_ireturn, zh_0, zh_1, zh_2, zh_3, zh_4, zt_i, zt_l, zt_r, zt_n, zn_int, zn_b0, zn_b1, zb_0, za_1, za_2, za_3, za_4, za_5, za_6, za_7, za_8, za_9, za_10, za_11, za_12, za_13, za_14, zu_0, zu_1, zu_2, zu_3, zu_4, zu_5, zu_6, zu_7, zu_8, zu_9, zu_10, zu_11, zu_12, zu_13, zu_14, zu_15, zu_16, zu_17, zu_18, zu_19, zu_20, zu_21, zu_22, zu_23, zu_24, zu_25, zu_26, zu_27, zu_28, zu_29, zu_30, zu_90, zv_0_9, zv_1_9, zv_2_9, zv_3_9, zv_4_9, zv_5_9, zv_6_9, zv_7_9, zv_8_9, zv_0_330, zv_0_4544, zv_1_4544, zv_2_4544, zv_3_4544, zv_4_4544, zv_5_4544, zv_6_4544, zv_7_4544, zv_8_4544, zv_9_4544, zv_10_4544, zv_11_4544, zv_12_4544, zv_13_4544, zv_14_4544, zv_15_4544, zv_16_4544, zv_17_4544, zv_18_4544, zv_19_4544, zv_20_4544, zv_21_4544, zv_22_4544, zv_23_4544, zv_24_4544, zv_25_4544, zv_26_4544, zv_27_4544, zv_28_4544, zv_29_4544, zv_0_11, zv_1_11, zv_0_160, true_and, and_true, Nat.reduceAdd]
            refine zm_R_eq (c_cut hE (d + 2) x 0 top M') ?_
            simp only [bX12_says_3, zw_0, zw_1, zs_iloadn1, zs_iflt, zs_iload5, zs_aloadn0, zs_aloadNn0, zg_12_16, zs_sipush, zs_imul, zs_iaload, zs_icge, zs_iconst, zs_iadd, zs_iloadn2, zs_icne, zi_12_286, zs_iload4, zi_12_289, zs_ireturn, zh_0, zh_1, zh_2, zh_3, zh_4, zt_i, zt_l, zt_r, zt_n, zn_int, zn_b0, zn_b1, zb_0, za_1, za_2, za_3, za_4, za_5, za_6, za_7, za_8, za_9, za_10, za_11, za_12, za_13, za_14, zu_0, zu_1, zu_2, zu_3, zu_4, zu_5, zu_6, zu_7, zu_8, zu_9, zu_10, zu_11, zu_12, zu_13, zu_14, zu_15, zu_16, zu_17, zu_18, zu_19, zu_20, zu_21, zu_22, zu_23, zu_24, zu_25, zu_26, zu_27, zu_28, zu_29, zu_30, zu_90, zv_0_9, zv_1_9, zv_2_9, zv_3_9, zv_4_9, zv_5_9, zv_6_9, zv_7_9, zv_8_9, zv_0_330, zv_0_4544, zv_1_4544, zv_2_4544, zv_3_4544, zv_4_4544, zv_5_4544, zv_6_4544, zv_7_4544, zv_8_4544, zv_9_4544, zv_10_4544, zv_11_4544, zv_12_4544, zv_13_4544, zv_14_4544, zv_15_4544, zv_16_4544, zv_17_4544, zv_18_4544, zv_19_4544, zv_20_4544, zv_21_4544, zv_22_4544, zv_23_4544, zv_24_4544, zv_25_4544, zv_26_4544, zv_27_4544, zv_28_4544, zv_29_4544, zv_0_11, zv_1_11, zv_0_160, true_and, and_true, Nat.reduceAdd]
            refine q _ M' ?_ hf
            rw [zq_bd_cut htop, hx]; rfl
    exact loop nc 0 (by omega) (fun j hj => absurd hj (by omega))
/-! names -/
def zn_l (day size who pride rank fr to days desk : Int32) : Nat → Int32
  | 0 => day
  | 1 => size
  | 2 => who
  | 3 => pride
  | 4 => rank
  | 5 => fr
  | 6 => to
  | 7 => days
  | _ => desk
def zn_k (w : Nat) : Nat := if w = 0 then 9 else if w = 1 then 8 else 7
theorem zn_k_7 (w : Nat) : 7 ≤ zn_k w ∧ zn_k w ≤ 9 := by
  unfold zn_k
  by_cases c : w = 0
  · rw [if_pos c]; omega
  · rw [if_neg c]
    by_cases c1 : w = 1
    · rw [if_pos c1]; omega
    · rw [if_neg c1]; omega
def zD_ok (w : Nat) (D : zD) : Prop := ∀ nm nm' rk, (∀ i, i < zn_k w → nm i = nm' i) → D nm rk = D nm' rk
def zDo (w : Nat) (D : Option zD) : Prop := ∀ f, D = some f → zD_ok w f
theorem zq_said_c {D : Option zD} {w : Nat} {nm nm' : Nat → Int} {rk : Int → Int} (hD : zDo w D) (h : ∀ i, i < zn_k w → nm i = nm' i) : zq_said D w nm rk = zq_said D w nm' rk := by
  have k7 := zn_k_7 w
  unfold zq_said
  cases D with
  | none => simp only [zq_un, h 3 (by omega), h 1 (by omega)]
  | some f => simp only [hD f rfl nm nm' rk h]
theorem c_name {E : zm_E} (hE : zm_ok E.2.2.1 E.2.2.2.2) (d : Nat) {n p : Nat} (hp : p < n) (sz fr to : Int32) {M : zm_M} (hw : zt_wf n (fun i => M.1 1 (90 + i))) {Q : Option Value → zm_M → Prop} (q : ∀ M', (∀ i, i < 9 → M'.1 6 i = zn_l (M.1 1 6) sz (nI p) (M.1 1 (100 + p)) (nI (zt_rk (fun i => M.1 1 (90 + i)) p)) fr to 0 0 i) → zf [6] M M' → Q none M') : zm_R E (d + 2) mX12_name [.ref 0, .int (nI p), .int sz, .int fr, .int to] M Q := by
  refine zX12_name hE rfl (fun G h0 => ?_)
  show G 0 [some (.ref 0), some (.int (nI p)), some (.int sz), some (.int fr), some (.int to)] [] M
  have hn := hw.1
  obtain ⟨v1, c1⟩ := zx_ck (k := 100) (p := p) (N := 4544) (by omega) (by decide)
  have r : ∀ (M : zm_M) (k : Nat) (v : Int32), (zm_wi M 6 k v).1 1 = M.1 1 := fun M k v => zm_wi_other (by decide)
  refine h0 _ _ _ ?_
  simp only [bX12_name_0, zw_0, zw_1, zs_aloadn0, zs_aloadNn0, zg_12_32, zs_iconst, zg_12_7, zs_bipush, zs_iaload, zs_iastore, zs_iloadn2, zs_iloadn1, zs_iadd, zi_12_262, zs_iloadn3, zs_iload4, zs_return, zh_0, zh_1, zh_2, zh_3, zh_4, zt_i, zt_l, zt_r, zt_n, zn_int, zn_b0, zn_b1, zb_0, za_1, za_2, za_3, za_4, za_5, za_6, za_7, za_8, za_9, za_10, za_11, za_12, za_13, za_14, zu_0, zu_1, zu_2, zu_3, zu_4, zu_5, zu_6, zu_7, zu_8, zu_9, zu_10, zu_11, zu_12, zu_13, zu_14, zu_15, zu_16, zu_17, zu_18, zu_19, zu_20, zu_21, zu_22, zu_23, zu_24, zu_25, zu_26, zu_27, zu_28, zu_29, zu_30, zu_90, zv_0_9, zv_1_9, zv_2_9, zv_3_9, zv_4_9, zv_5_9, zv_6_9, zv_7_9, zv_8_9, zv_0_330, zv_0_4544, zv_1_4544, zv_2_4544, zv_3_4544, zv_4_4544, zv_5_4544, zv_6_4544, zv_7_4544, zv_8_4544, zv_9_4544, zv_10_4544, zv_11_4544, zv_12_4544, zv_13_4544, zv_14_4544, zv_15_4544, zv_16_4544, zv_17_4544, zv_18_4544, zv_19_4544, zv_20_4544, zv_21_4544, zv_22_4544, zv_23_4544, zv_24_4544, zv_25_4544, zv_26_4544, zv_27_4544, zv_28_4544, zv_29_4544, zv_0_11, zv_1_11, zv_0_160, true_and, and_true, Nat.reduceAdd, zx_100, v1, c1, r]
  refine zm_R_eq (c_rankOf hE d (n := n) (p := p) (by simp only [r]; exact hw) hp) ?_
  simp only [bX12_name_0, zw_0, zw_1, zs_aloadn0, zs_aloadNn0, zg_12_32, zs_iconst, zg_12_7, zs_bipush, zs_iaload, zs_iastore, zs_iloadn2, zs_iloadn1, zs_iadd, zi_12_262, zs_iloadn3, zs_iload4, zs_return, zh_0, zh_1, zh_2, zh_3, zh_4, zt_i, zt_l, zt_r, zt_n, zn_int, zn_b0, zn_b1, zb_0, za_1, za_2, za_3, za_4, za_5, za_6, za_7, za_8, za_9, za_10, za_11, za_12, za_13, za_14, zu_0, zu_1, zu_2, zu_3, zu_4, zu_5, zu_6, zu_7, zu_8, zu_9, zu_10, zu_11, zu_12, zu_13, zu_14, zu_15, zu_16, zu_17, zu_18, zu_19, zu_20, zu_21, zu_22, zu_23, zu_24, zu_25, zu_26, zu_27, zu_28, zu_29, zu_30, zu_90, zv_0_9, zv_1_9, zv_2_9, zv_3_9, zv_4_9, zv_5_9, zv_6_9, zv_7_9, zv_8_9, zv_0_330, zv_0_4544, zv_1_4544, zv_2_4544, zv_3_4544, zv_4_4544, zv_5_4544, zv_6_4544, zv_7_4544, zv_8_4544, zv_9_4544, zv_10_4544, zv_11_4544, zv_12_4544, zv_13_4544, zv_14_4544, zv_15_4544, zv_16_4544, zv_17_4544, zv_18_4544, zv_19_4544, zv_20_4544, zv_21_4544, zv_22_4544, zv_23_4544, zv_24_4544, zv_25_4544, zv_26_4544, zv_27_4544, zv_28_4544, zv_29_4544, zv_0_11, zv_1_11, zv_0_160, true_and, and_true, Nat.reduceAdd, r]
  refine q _ (fun i hi => ?_) ?_
  · rcases (show i = 0 ∨ i = 1 ∨ i = 2 ∨ i = 3 ∨ i = 4 ∨ i = 5 ∨ i = 6 ∨ i = 7 ∨ i = 8 by omega) with rfl | rfl | rfl | rfl | rfl | rfl | rfl | rfl | rfl <;> simp [zm_wi_same, zn_l]
  · refine zf_wi (zf_wi (zf_wi (zf_wi (zf_wi (zf_wi (zf_wi (zf_wi (zf_wi zf_refl ?_) ?_) ?_) ?_) ?_) ?_) ?_) ?_) ?_ <;> decide
def zm_T (M : zm_M) (tx : Int32) (w : Nat) (D : Option zD) : Prop := (tx = -1 ∧ D = none) ∨ ∃ t, t < 4 ∧ tx = nI t ∧ zl_m M t w D
theorem zm_T_c {M M' : zm_M} {tx : Int32} {w : Nat} {D : Option zD} (h : zm_T M tx w D) (e : M'.1 3 = M.1 3) : zm_T M' tx w D := by
  rcases h with h | ⟨t, h1, h2, h3⟩
  · exact Or.inl h
  · exact Or.inr ⟨t, h1, h2, zl_m_c h3 (fun j _ _ => by rw [e])⟩
theorem zq_un0 {f : Nat → Int32} (h : zq_ok (f 3).toInt) : (f 3 + 1).toInt = zq_un 0 (fun i => (f i).toInt) := by
  unfold zq_ok at h
  unfold zq_un
  rw [if_pos rfl]
  exact zx_addI (x := (f 3).toInt) (y := 1) rfl rfl (by omega) (by omega)
theorem c_addsBy {E : zm_E} (hE : zm_ok E.2.2.1 E.2.2.2.2) (d : Nat) {n : Nat} {tx : Int32} {M : zm_M} (hw : zt_wf n (fun i => M.1 1 (90 + i))) (hc : M.1 1 0 = nI n) (hnm : ∀ i, i < 9 → zq_ok (M.1 6 i).toInt) {D : Option zD} (hT : zm_T M tx 0 D) {Q : Option Value → zm_M → Prop} (q : ∀ y M', y.toInt = zq_said D 0 (fun i => (M.1 6 i).toInt) (zq_rk n (fun i => M.1 1 (90 + i))) → zf [7, 8] M M' → Q (some (.int y)) M') : zm_R E (d + 5) mX12_addsBy [.ref 0, .int tx] M Q := by
  refine zX12_addsBy hE rfl (fun G h0 => ?_)
  show G 0 [some (.ref 0), some (.int tx)] [] M
  refine h0 _ _ _ ?_
  simp only [bX12_addsBy_0, zw_0, zw_1, zs_aloadn0, zs_aloadNn0, zs_iloadn1, zs_iconst, zg_12_32, zs_iaload, zs_iadd, zs_sipush, zi_12_293, zs_ireturn, zh_0, zh_1, zh_2, zh_3, zh_4, zt_i, zt_l, zt_r, zt_n, zn_int, zn_b0, zn_b1, zb_0, za_1, za_2, za_3, za_4, za_5, za_6, za_7, za_8, za_9, za_10, za_11, za_12, za_13, za_14, zu_0, zu_1, zu_2, zu_3, zu_4, zu_5, zu_6, zu_7, zu_8, zu_9, zu_10, zu_11, zu_12, zu_13, zu_14, zu_15, zu_16, zu_17, zu_18, zu_19, zu_20, zu_21, zu_22, zu_23, zu_24, zu_25, zu_26, zu_27, zu_28, zu_29, zu_30, zu_90, zv_0_9, zv_1_9, zv_2_9, zv_3_9, zv_4_9, zv_5_9, zv_6_9, zv_7_9, zv_8_9, zv_0_330, zv_0_4544, zv_1_4544, zv_2_4544, zv_3_4544, zv_4_4544, zv_5_4544, zv_6_4544, zv_7_4544, zv_8_4544, zv_9_4544, zv_10_4544, zv_11_4544, zv_12_4544, zv_13_4544, zv_14_4544, zv_15_4544, zv_16_4544, zv_17_4544, zv_18_4544, zv_19_4544, zv_20_4544, zv_21_4544, zv_22_4544, zv_23_4544, zv_24_4544, zv_25_4544, zv_26_4544, zv_27_4544, zv_28_4544, zv_29_4544, zv_0_11, zv_1_11, zv_0_160, true_and, and_true, Nat.reduceAdd]
  refine c_says hE d (w := 0) (by decide) hw hc hnm hT (zq_un0 (hnm 3 (by decide))) rfl (fun y M' hy hf => ?_)
  simp only [bX12_addsBy_0, zw_0, zw_1, zs_aloadn0, zs_aloadNn0, zs_iloadn1, zs_iconst, zg_12_32, zs_iaload, zs_iadd, zs_sipush, zi_12_293, zs_ireturn, zh_0, zh_1, zh_2, zh_3, zh_4, zt_i, zt_l, zt_r, zt_n, zn_int, zn_b0, zn_b1, zb_0, za_1, za_2, za_3, za_4, za_5, za_6, za_7, za_8, za_9, za_10, za_11, za_12, za_13, za_14, zu_0, zu_1, zu_2, zu_3, zu_4, zu_5, zu_6, zu_7, zu_8, zu_9, zu_10, zu_11, zu_12, zu_13, zu_14, zu_15, zu_16, zu_17, zu_18, zu_19, zu_20, zu_21, zu_22, zu_23, zu_24, zu_25, zu_26, zu_27, zu_28, zu_29, zu_30, zu_90, zv_0_9, zv_1_9, zv_2_9, zv_3_9, zv_4_9, zv_5_9, zv_6_9, zv_7_9, zv_8_9, zv_0_330, zv_0_4544, zv_1_4544, zv_2_4544, zv_3_4544, zv_4_4544, zv_5_4544, zv_6_4544, zv_7_4544, zv_8_4544, zv_9_4544, zv_10_4544, zv_11_4544, zv_12_4544, zv_13_4544, zv_14_4544, zv_15_4544, zv_16_4544, zv_17_4544, zv_18_4544, zv_19_4544, zv_20_4544, zv_21_4544, zv_22_4544, zv_23_4544, zv_24_4544, zv_25_4544, zv_26_4544, zv_27_4544, zv_28_4544, zv_29_4544, zv_0_11, zv_1_11, zv_0_160, true_and, and_true, Nat.reduceAdd]
  exact q y M' hy hf
