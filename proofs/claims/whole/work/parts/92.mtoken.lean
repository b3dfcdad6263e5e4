/-! ===== the reference's next token: read ===== -/
theorem zk_b_in {tp : Nat → Nat} {n p : Nat} (h : p < n) : zk_b tp n p = nI (tp p) := if_pos h
theorem zk_b_out {tp : Nat → Nat} {n p : Nat} (h : ¬ p < n) : zk_b tp n p = -1 := if_neg h
theorem zk_b_e {tp : Nat → Nat} {n p k : Nat} (ht : ∀ i, tp i < 256) (hk : k < 256) : (zk_b tp n p = nI k) = (p < n ∧ tp p = k) := by
  have := ht p
  by_cases c : p < n
  · rw [zk_b_in c]
    exact propext ⟨fun h => ⟨c, (nI_eq (by omega) (by omega)).mp h⟩, fun h => by rw [h.2]⟩
  · rw [zk_b_out c]
    exact propext ⟨fun h => absurd h.symm (zt_ne (by omega)), fun h => absurd h.1 c⟩
theorem zk_s48 {x : Nat} (h : 48 ≤ x) : nI x - 48 = nI (x - 48) := by
  obtain ⟨y, rfl⟩ : ∃ y, x = y + 48 := ⟨x - 48, by omega⟩
  rw [← nI_add, Nat.add_sub_cancel]
  exact Int32.add_sub_cancel _ _
theorem zr_pos {a : Nat} (h : a < 2 ^ 31) : (0 : Int32) ≤ nI a := Int32.not_lt.mp (nI_pos h)
set_option maxHeartbeats 4000000 in
theorem c_nextToken {E : zm_E} (hE : zm_ok E.2.2.1 E.2.2.2.2) (d : Nat) {tp : Nat → Nat} {n p : Nat} {M : zm_M} (hT : zk_tm tp n M) (h7 : M.1 0 7 = nI p) (hp : p ≤ n) {Q : Option Value → zm_M → Prop} (q : ∀ M', zk_at tp n (zk_sk tp n p) M' → zk_f M M' → Q none M') : zm_R E (d + 2) mX12_nextToken [.ref 0] M Q := by
  refine zX12_nextToken hE rfl (fun G h0 h26 h39 h68 h85 h116 h135 h151 h168 h201 h218 h234 h246 h247 h272 h296 h297 h310 => ?_)
  show G 0 [some (.ref 0), none] [] M
  have n300 := hT.1
  have ht := hT.2.2.2
  have hsn : zk_sk tp n p ≤ n := (zk_rn_in zk_S tp n n p).2 hp
  have hse : ¬ (zk_sk tp n p < n ∧ zk_S (tp (zk_sk tp n p)) = true) := zk_rn_end zk_S tp n n p (by omega)
  generalize hs : zk_sk tp n p = s at q hsn hse
  have fin : ∀ (M1 : zm_M) (l1 : Option Value), zk_f M M1 → zk_at tp n s M1 → G 310 [some (.ref 0), l1] [] M1 := by
    intro M1 l1 f1 a1
    refine h310 _ _ _ ?_
    simp only [bX12_nextToken_310, zw_0, zw_1, zs_return, zn_int, zn_b0, zn_b1, zb_0, za_1, za_2, za_3, za_4, za_5, za_6, za_7, za_8, za_9, za_10, za_11, za_12, za_13, za_14, true_and, and_true, Nat.reduceAdd]
    exact q M1 a1 f1
  have num : s < n → zk_F (tp s) = true → ∀ (f x a : Nat) (M1 : zm_M) (l1 : Option Value), zk_f M M1 → M1.1 0 8 = nI s → M1.1 0 9 = nI 1 → M1.1 0 7 = nI x → M1.1 0 10 = nI a → s ≤ x → x ≤ n → n ≤ x + f → a < 2 ^ 28 → zk_rn zk_F tp n f x = zk_rn zk_F tp n n s → zk_nr tp (zk_rn zk_F tp n n s - x) x a = zk_nr tp (zk_rn zk_F tp n n s - s) s 0 → G 85 [some (.ref 0), l1] [] M1 := by
    intro hs1 hs2 f
    have eso : zk_so tp n s = 1 := by unfold zk_so; rw [if_neg (by omega), if_pos hs2]
    have een : zk_en tp n s = zk_rn zk_F tp n n s := by unfold zk_en; rw [if_neg (by omega), if_pos hs2]
    have out : ∀ (x a : Nat) (M1 : zm_M) (l1 : Option Value), zk_f M M1 → M1.1 0 8 = nI s → M1.1 0 9 = nI 1 → M1.1 0 7 = nI x → M1.1 0 10 = nI a → zk_rn zk_F tp n n s = x → zk_nr tp (zk_rn zk_F tp n n s - x) x a = zk_nr tp (zk_rn zk_F tp n n s - s) s 0 → G 310 [some (.ref 0), l1] [] M1 := by
      intro x a M1 l1 f1 m8 m9 m7 m10 e1 e2
      refine fin M1 _ f1 ⟨m8, by rw [een, e1]; exact m7, by rw [eso]; exact m9, fun _ => ?_, fun h => by omega⟩
      rw [een, ← e2, e1, Nat.sub_self]
      exact m10
    induction f with
    | zero =>
      intro x a M1 l1 f1 m8 m9 m7 m10 sx xn nx ha e1 e2
      have T1 := zk_tm_f hT f1
      refine h85 _ _ _ ?_
      simp only [bX12_nextToken_85, zw_0, zw_1, zs_aloadn0, zs_aloadNn0, zg_12_88, zi_12_91, zi_12_101, zs_ifeq, zg_12_104, zd_12_107, zs_icle, zs_goto, zh_0, zh_1, zh_2, zh_3, zh_4, zt_i, zt_l, zt_r, zt_n, zb_0, za_1, za_2, za_3, za_4, za_5, za_6, za_7, za_8, za_9, za_10, za_11, za_12, za_13, za_14, true_and, and_true, Nat.reduceAdd, m7]
      refine zm_R_eq (c_byteAt hE d (by omega) T1) ?_
      simp only [bX12_nextToken_85, zw_0, zw_1, zs_aloadn0, zs_aloadNn0, zg_12_88, zi_12_91, zi_12_101, zs_ifeq, zg_12_104, zd_12_107, zs_icle, zs_goto, zh_0, zh_1, zh_2, zh_3, zh_4, zt_i, zt_l, zt_r, zt_n, zb_0, za_1, za_2, za_3, za_4, za_5, za_6, za_7, za_8, za_9, za_10, za_11, za_12, za_13, za_14, true_and, and_true, Nat.reduceAdd]
      refine zm_R_eq (c_isFigure hE d ht M1) ?_
      simp only [bX12_nextToken_85, zw_0, zw_1, zs_aloadn0, zs_aloadNn0, zg_12_88, zi_12_91, zi_12_101, zs_ifeq, zg_12_104, zd_12_107, zs_icle, zs_goto, zh_0, zh_1, zh_2, zh_3, zh_4, zt_i, zt_l, zt_r, zt_n, zb_0, za_1, za_2, za_3, za_4, za_5, za_6, za_7, za_8, za_9, za_10, za_11, za_12, za_13, za_14, true_and, and_true, Nat.reduceAdd, zi_b0]
      refine ⟨fun h => ?_, fun h => ?_⟩
      · exact out x a M1 l1 f1 m8 m9 m7 m10 e1.symm e2
      · have h : zk_bP zk_F tp n x = true := by simpa using h
        unfold zk_bP at h
        simp only [Bool.and_eq_true, decide_eq_true_eq] at h
        omega
    | succ f ih =>
      intro x a M1 l1 f1 m8 m9 m7 m10 sx xn nx ha e1 e2
      have T1 := zk_tm_f hT f1
      have ea : (nI a ≤ 99999) = (a ≤ 99999) := propext (nI_leI (b := 99999) (by omega) (by decide))
      simp only [zk_rn] at e1
      refine h85 _ _ _ ?_
      simp only [bX12_nextToken_85, zw_0, zw_1, zs_aloadn0, zs_aloadNn0, zg_12_88, zi_12_91, zi_12_101, zs_ifeq, zg_12_104, zd_12_107, zs_icle, zs_goto, zh_0, zh_1, zh_2, zh_3, zh_4, zt_i, zt_l, zt_r, zt_n, zb_0, za_1, za_2, za_3, za_4, za_5, za_6, za_7, za_8, za_9, za_10, za_11, za_12, za_13, za_14, true_and, and_true, Nat.reduceAdd, m7]
      refine zm_R_eq (c_byteAt hE d (by omega) T1) ?_
      simp only [bX12_nextToken_85, zw_0, zw_1, zs_aloadn0, zs_aloadNn0, zg_12_88, zi_12_91, zi_12_101, zs_ifeq, zg_12_104, zd_12_107, zs_icle, zs_goto, zh_0, zh_1, zh_2, zh_3, zh_4, zt_i, zt_l, zt_r, zt_n, zb_0, za_1, za_2, za_3, za_4, za_5, za_6, za_7, za_8, za_9, za_10, za_11, za_12, za_13, za_14, true_and, and_true, Nat.reduceAdd]
      refine zm_R_eq (c_isFigure hE d ht M1) ?_
      simp only [bX12_nextToken_85, zw_0, zw_1, zs_aloadn0, zs_aloadNn0, zg_12_88, zi_12_91, zi_12_101, zs_ifeq, zg_12_104, zd_12_107, zs_icle, zs_goto, zh_0, zh_1, zh_2, zh_3, zh_4, zt_i, zt_l, zt_r, zt_n, zb_0, za_1, za_2, za_3, za_4, za_5, za_6, za_7, za_8, za_9, za_10, za_11, za_12, za_13, za_14, true_and, and_true, Nat.reduceAdd, zi_b0, m10, ea]
      refine ⟨fun h => ?_, fun h => ?_⟩
      · rw [if_neg (fun z => by unfold zk_bP at h; rw [decide_eq_true z.1, z.2] at h; exact absurd h (by decide))] at e1
        exact out x a M1 l1 f1 m8 m9 m7 m10 e1.symm e2
      · have h : zk_bP zk_F tp n x = true := by simpa using h
        unfold zk_bP at h
        simp only [Bool.and_eq_true, decide_eq_true_eq] at h
        obtain ⟨hx, hF⟩ := h
        rw [if_pos ⟨hx, hF⟩] at e1
        have hx2 := (zk_rn_in zk_F tp n f (x + 1)).1
        have tl := ht x
        have f48 : 48 ≤ tp x := by unfold zk_F at hF; exact (of_decide_eq_true hF).1
        rw [show zk_rn zk_F tp n n s - x = (zk_rn zk_F tp n n s - (x + 1)) + 1 by omega] at e2
        simp only [zk_nr] at e2
        have go : ∀ y, y < 2 ^ 28 → zk_nr tp (zk_rn zk_F tp n n s - (x + 1)) (x + 1) y = zk_nr tp (zk_rn zk_F tp n n s - s) s 0 → G 135 [some (.ref 0), l1] [.int (nI y), .ref 0] M1 := by
          intro y hy e3
          refine h135 _ _ _ ?_
          simp only [bX12_nextToken_135, zw_0, zw_1, zq_12_104, zs_aloadn0, zs_aloadNn0, zs_dupi, zs_dupr, zs_dupn, zg_12_88, zs_iconst, zs_iadd, zq_12_88, zs_goto, zb_0, za_1, za_2, za_3, za_4, za_5, za_6, za_7, za_8, za_9, za_10, za_11, za_12, za_13, za_14, true_and, and_true, Nat.reduceAdd]
          refine ih (x + 1) y _ _ (zk_f_wi (zk_f_wi f1 (by decide)) (by decide)) ?_ ?_ ?_ ?_ (by omega) (by omega) (by omega) hy e1 e3
          · rw [zm_wi_same, if_neg (by decide), zm_wi_same, if_neg (by decide)]; exact m8
          · rw [zm_wi_same, if_neg (by decide), zm_wi_same, if_neg (by decide)]; exact m9
          · rw [zm_wi_same, if_pos rfl, zm_wi_same, if_neg (by decide), m7, nI_1]
          · rw [zm_wi_same, if_neg (by decide), zm_wi_same, if_pos rfl]
        refine ⟨fun h9 => ?_, fun h9 => ?_⟩
        · refine h116 _ _ _ ?_
          simp only [bX12_nextToken_116, zw_0, zw_1, zs_bipush, zs_aloadn0, zs_aloadNn0, zg_12_104, zs_imul, zg_12_88, zi_12_91, zs_iadd, zs_isub, zh_0, zh_1, zh_2, zh_3, zh_4, zt_i, zt_l, zt_r, zt_n, zb_0, za_1, za_2, za_3, za_4, za_5, za_6, za_7, za_8, za_9, za_10, za_11, za_12, za_13, za_14, true_and, and_true, Nat.reduceAdd, m7, m10]
          refine zm_R_eq (c_byteAt hE d (by omega) T1) ?_
          rw [zk_b_in hx]
          simp only [bX12_nextToken_116, zw_0, zw_1, zs_bipush, zs_aloadn0, zs_aloadNn0, zg_12_104, zs_imul, zg_12_88, zi_12_91, zs_iadd, zs_isub, zh_0, zh_1, zh_2, zh_3, zh_4, zt_i, zt_l, zt_r, zt_n, zb_0, za_1, za_2, za_3, za_4, za_5, za_6, za_7, za_8, za_9, za_10, za_11, za_12, za_13, za_14, true_and, and_true, Nat.reduceAdd]
          have ev : (10 : Int32) * nI a + nI (tp x) - 48 = nI (10 * a + tp x - 48) := by
            rw [show (10 : Int32) * nI a = nI (10 * a) from pk_mul 10 a, nI_add]
            exact zk_s48 (by omega)
          rw [ev]
          rw [if_neg (by omega)] at e2
          exact go _ (by omega) e2
        · rw [if_pos (by omega)] at e2
          exact go a ha e2
  have let' : s < n → zk_F (tp s) = false → zk_L (tp s) = true → ∀ (f x a : Nat) (M1 : zm_M) (l1 : Option Value), zk_f M M1 → M1.1 0 8 = nI s → M1.1 0 9 = nI 2 → M1.1 0 7 = nI x → M1.2.1 0 11 = lN a → s ≤ x → x ≤ n → n ≤ x + f → a < 2 ^ 62 → zk_rn zk_L tp n f x = zk_rn zk_L tp n n s → zk_pk tp (zk_rn zk_L tp n n s - x) x a = zk_pk tp (zk_rn zk_L tp n n s - s) s 0 → G 168 [some (.ref 0), l1] [] M1 := by
    intro hs1 hs2 hs3 f
    have eso : zk_so tp n s = 2 := by unfold zk_so; rw [if_neg (by omega), if_neg (by rw [hs2]; decide), if_pos hs3]
    have een : zk_en tp n s = zk_rn zk_L tp n n s := by unfold zk_en; rw [if_neg (by omega), if_neg (by rw [hs2]; decide), if_pos hs3]
    have out : ∀ (x a : Nat) (M1 : zm_M) (l1 : Option Value), zk_f M M1 → M1.1 0 8 = nI s → M1.1 0 9 = nI 2 → M1.1 0 7 = nI x → M1.2.1 0 11 = lN a → zk_rn zk_L tp n n s = x → zk_pk tp (zk_rn zk_L tp n n s - x) x a = zk_pk tp (zk_rn zk_L tp n n s - s) s 0 → G 310 [some (.ref 0), l1] [] M1 := by
      intro x a M1 l1 f1 m8 m9 m7 m11 e1 e2
      refine fin M1 _ f1 ⟨m8, by rw [een, e1]; exact m7, by rw [eso]; exact m9, fun h => by omega, fun _ => ?_⟩
      rw [een, ← e2, e1, Nat.sub_self]
      exact m11
    induction f with
    | zero =>
      intro x a M1 l1 f1 m8 m9 m7 m11 sx xn nx ha e1 e2
      have T1 := zk_tm_f hT f1
      refine h168 _ _ _ ?_
      simp only [bX12_nextToken_168, zw_0, zw_1, zs_aloadn0, zs_aloadNn0, zg_12_88, zi_12_91, zi_12_108, zs_ifeq, zg_12_111, zs_bipush, zs_lshr, zs_lconst0, zs_lcmp, zd_12_115, zs_goto, zh_0, zh_1, zh_2, zh_3, zh_4, zt_i, zt_l, zt_r, zt_n, zb_0, za_1, za_2, za_3, za_4, za_5, za_6, za_7, za_8, za_9, za_10, za_11, za_12, za_13, za_14, true_and, and_true, Nat.reduceAdd, m7]
      refine zm_R_eq (c_byteAt hE d (by omega) T1) ?_
      simp only [bX12_nextToken_168, zw_0, zw_1, zs_aloadn0, zs_aloadNn0, zg_12_88, zi_12_91, zi_12_108, zs_ifeq, zg_12_111, zs_bipush, zs_lshr, zs_lconst0, zs_lcmp, zd_12_115, zs_goto, zh_0, zh_1, zh_2, zh_3, zh_4, zt_i, zt_l, zt_r, zt_n, zb_0, za_1, za_2, za_3, za_4, za_5, za_6, za_7, za_8, za_9, za_10, za_11, za_12, za_13, za_14, true_and, and_true, Nat.reduceAdd]
      refine zm_R_eq (c_isLetterByte hE d ht M1) ?_
      simp only [bX12_nextToken_168, zw_0, zw_1, zs_aloadn0, zs_aloadNn0, zg_12_88, zi_12_91, zi_12_108, zs_ifeq, zg_12_111, zs_bipush, zs_lshr, zs_lconst0, zs_lcmp, zd_12_115, zs_goto, zh_0, zh_1, zh_2, zh_3, zh_4, zt_i, zt_l, zt_r, zt_n, zb_0, za_1, za_2, za_3, za_4, za_5, za_6, za_7, za_8, za_9, za_10, za_11, za_12, za_13, za_14, true_and, and_true, Nat.reduceAdd, zi_b0]
      refine ⟨fun h => ?_, fun h => ?_⟩
      · exact out x a M1 l1 f1 m8 m9 m7 m11 e1.symm e2
      · have h : zk_bP zk_L tp n x = true := by simpa using h
        unfold zk_bP at h
        simp only [Bool.and_eq_true, decide_eq_true_eq] at h
        omega
    | succ f ih =>
      intro x a M1 l1 f1 m8 m9 m7 m11 sx xn nx ha e1 e2
      have T1 := zk_tm_f hT f1
      have e48 := zk_sh48 ha
      simp only [zk_rn] at e1
      refine h168 _ _ _ ?_
      simp only [bX12_nextToken_168, zw_0, zw_1, zs_aloadn0, zs_aloadNn0, zg_12_88, zi_12_91, zi_12_108, zs_ifeq, zg_12_111, zs_bipush, zs_lshr, zs_lconst0, zs_lcmp, zd_12_115, zs_goto, zh_0, zh_1, zh_2, zh_3, zh_4, zt_i, zt_l, zt_r, zt_n, zb_0, za_1, za_2, za_3, za_4, za_5, za_6, za_7, za_8, za_9, za_10, za_11, za_12, za_13, za_14, true_and, and_true, Nat.reduceAdd, m7]
      refine zm_R_eq (c_byteAt hE d (by omega) T1) ?_
      simp only [bX12_nextToken_168, zw_0, zw_1, zs_aloadn0, zs_aloadNn0, zg_12_88, zi_12_91, zi_12_108, zs_ifeq, zg_12_111, zs_bipush, zs_lshr, zs_lconst0, zs_lcmp, zd_12_115, zs_goto, zh_0, zh_1, zh_2, zh_3, zh_4, zt_i, zt_l, zt_r, zt_n, zb_0, za_1, za_2, za_3, za_4, za_5, za_6, za_7, za_8, za_9, za_10, za_11, za_12, za_13, za_14, true_and, and_true, Nat.reduceAdd]
      refine zm_R_eq (c_isLetterByte hE d ht M1) ?_
      simp only [bX12_nextToken_168, zw_0, zw_1, zs_aloadn0, zs_aloadNn0, zg_12_88, zi_12_91, zi_12_108, zs_ifeq, zg_12_111, zs_bipush, zs_lshr, zs_lconst0, zs_lcmp, zd_12_115, zs_goto, zh_0, zh_1, zh_2, zh_3, zh_4, zt_i, zt_l, zt_r, zt_n, zb_0, za_1, za_2, za_3, za_4, za_5, za_6, za_7, za_8, za_9, za_10, za_11, za_12, za_13, za_14, true_and, and_true, Nat.reduceAdd, zi_b0, m11, lg_cmp_eq, e48]
      refine ⟨fun h => ?_, fun h => ?_⟩
      · rw [if_neg (fun z => by unfold zk_bP at h; rw [decide_eq_true z.1, z.2] at h; exact absurd h (by decide))] at e1
        exact out x a M1 l1 f1 m8 m9 m7 m11 e1.symm e2
      · have h : zk_bP zk_L tp n x = true := by simpa using h
        unfold zk_bP at h
        simp only [Bool.and_eq_true, decide_eq_true_eq] at h
        obtain ⟨hx, hF⟩ := h
        rw [if_pos ⟨hx, hF⟩] at e1
        have hx2 := (zk_rn_in zk_L tp n f (x + 1)).1
        have tl := ht x
        rw [show zk_rn zk_L tp n n s - x = (zk_rn zk_L tp n n s - (x + 1)) + 1 by omega] at e2
        simp only [zk_pk] at e2
        have go : ∀ y, y < 2 ^ 62 → zk_pk tp (zk_rn zk_L tp n n s - (x + 1)) (x + 1) y = zk_pk tp (zk_rn zk_L tp n n s - s) s 0 → G 218 [some (.ref 0), l1] [.long (lN y), .ref 0] M1 := by
          intro y hy e3
          refine h218 _ _ _ ?_
          simp only [bX12_nextToken_218, zw_0, zw_1, zq_12_111, zs_aloadn0, zs_aloadNn0, zs_dupi, zs_dupr, zs_dupn, zg_12_88, zs_iconst, zs_iadd, zq_12_88, zs_goto, zb_0, za_1, za_2, za_3, za_4, za_5, za_6, za_7, za_8, za_9, za_10, za_11, za_12, za_13, za_14, true_and, and_true, Nat.reduceAdd]
          refine ih (x + 1) y _ _ (zk_f_wi (zk_f_wj f1) (by decide)) ?_ ?_ ?_ ?_ (by omega) (by omega) (by omega) hy e1 e3
          · rw [zm_wi_same, if_neg (by decide), zm_wj_1]; exact m8
          · rw [zm_wi_same, if_neg (by decide), zm_wj_1]; exact m9
          · rw [zm_wi_same, if_pos rfl, zm_wj_1, m7, nI_1]
          · show (zm_wj M1 0 11 (lN y)).2.1 0 11 = lN y
            rw [zm_wj_same, if_pos rfl]
        refine ⟨fun h9 => ?_, fun h9 => ?_⟩
        · refine h201 _ _ _ ?_
          simp only [bX12_nextToken_201, zw_0, zw_1, zs_aloadn0, zs_aloadNn0, zg_12_111, zs_bipush, zs_lshl, zg_12_88, zi_12_91, zs_i2l, zs_lor, zh_0, zh_1, zh_2, zh_3, zh_4, zt_i, zt_l, zt_r, zt_n, zb_0, za_1, za_2, za_3, za_4, za_5, za_6, za_7, za_8, za_9, za_10, za_11, za_12, za_13, za_14, true_and, and_true, Nat.reduceAdd, m7, m11]
          refine zm_R_eq (c_byteAt hE d (by omega) T1) ?_
          rw [zk_b_in hx]
          simp only [bX12_nextToken_201, zw_0, zw_1, zs_aloadn0, zs_aloadNn0, zg_12_111, zs_bipush, zs_lshl, zg_12_88, zi_12_91, zs_i2l, zs_lor, zh_0, zh_1, zh_2, zh_3, zh_4, zt_i, zt_l, zt_r, zt_n, zb_0, za_1, za_2, za_3, za_4, za_5, za_6, za_7, za_8, za_9, za_10, za_11, za_12, za_13, za_14, true_and, and_true, Nat.reduceAdd]
          rw [zk_sh8 h9 tl]
          rw [if_pos h9] at e2
          exact go _ (by omega) e2
        · rw [if_neg h9] at e2
          exact go (2 ^ 60) (by omega) e2
  have sign : s < n → zk_F (tp s) = false → zk_L (tp s) = false → ∀ (M1 : zm_M), zk_f M M1 → M1.1 0 8 = nI s → M1.1 0 7 = nI s → G 234 [some (.ref 0), some (.int (nI (tp s)))] [] M1 := by
    intro hs1 hs2 hs3 M1 f1 m8 m7
    have tl := ht s
    have T1 := zk_tm_f hT f1
    have fin2 : ∀ (M2 : zm_M) (l1 : Option Value) (e so : Nat), zk_f M M2 → M2.1 0 8 = nI s → M2.1 0 7 = nI e → M2.1 0 9 = nI so → zk_en tp n s = e → zk_so tp n s = so → so ≠ 1 → so ≠ 2 → G 310 [some (.ref 0), l1] [] M2 := by
      intro M2 l1 e so f2 a8 a7 a9 e1 e2 e3 e4
      exact fin M2 l1 f2 ⟨a8, by rw [e1]; exact a7, by rw [e2]; exact a9, fun h => absurd (e2.symm.trans h) e3, fun h => absurd (e2.symm.trans h) e4⟩
    have e60 : (nI (tp s) = 60) = (tp s = 60) := propext (nI_eq (b := 60) (by omega) (by decide))
    have e62 : (nI (tp s) = 62) = (tp s = 62) := propext (nI_eq (b := 62) (by omega) (by decide))
    have go : ∀ so : Nat, so = (if zk_sg (tp s) then tp s else 3) → G 247 [some (.ref 0), some (.int (nI (tp s)))] [.int (nI so), .ref 0] M1 := by
      intro so hso
      have so1 : so ≠ 1 ∧ so ≠ 2 := by
        rw [hso]
        split
        · next h =>
          unfold zk_sg at h
          simp only [Bool.or_eq_true, decide_eq_true_eq] at h
          omega
        · omega
      generalize hM2 : zm_wi (zm_wi M1 0 9 (nI so)) 0 7 (nI (s + 1)) = M2
      have f2 : zk_f M M2 := by rw [← hM2]; exact zk_f_wi (zk_f_wi f1 (by decide)) (by decide)
      have T2 := zk_tm_f hT f2
      have a8 : M2.1 0 8 = nI s := by rw [← hM2, zm_wi_same, if_neg (by decide), zm_wi_same, if_neg (by decide)]; exact m8
      have a7 : M2.1 0 7 = nI (s + 1) := by rw [← hM2, zm_wi_same, if_pos rfl]
      have a9 : M2.1 0 9 = nI so := by rw [← hM2, zm_wi_same, if_neg (by decide), zm_wi_same, if_pos rfl]
      have m7' : (zm_wi M1 0 9 (nI so)).1 0 7 = nI s := by rw [zm_wi_same, if_neg (by decide)]; exact m7
      have alone : ¬ ((tp s = 60 ∨ tp s = 62) ∧ s + 1 < n ∧ tp (s + 1) = 61) → G 310 [some (.ref 0), some (.int (nI (tp s)))] [] M2 := by
        intro h
        refine fin2 M2 _ (s + 1) so f2 a8 a7 a9 ?_ ?_ so1.1 so1.2
        · unfold zk_en; rw [if_neg (by omega), if_neg (by rw [hs2]; decide), if_neg (by rw [hs3]; decide), if_neg h]
        · unfold zk_so; rw [if_neg (by omega), if_neg (by rw [hs2]; decide), if_neg (by rw [hs3]; decide), if_neg h, hso]
      have more : (tp s = 60 ∨ tp s = 62) → G 272 [some (.ref 0), some (.int (nI (tp s)))] [] M2 := by
        intro h6
        refine h272 _ _ _ ?_
        simp only [bX12_nextToken_272, zw_0, zw_1, zs_aloadn0, zs_aloadNn0, zg_12_88, zi_12_91, zs_bipush, zs_icne, zs_iloadn1, zs_iconst, zs_goto, zh_0, zh_1, zh_2, zh_3, zh_4, zt_i, zt_l, zt_r, zt_n, zb_0, za_1, za_2, za_3, za_4, za_5, za_6, za_7, za_8, za_9, za_10, za_11, za_12, za_13, za_14, true_and, and_true, Nat.reduceAdd, a7]
        refine zm_R_eq (c_byteAt hE d (by omega) T2) ?_
        have e61 : (zk_b tp n (s + 1) = 61) = (s + 1 < n ∧ tp (s + 1) = 61) := zk_b_e (k := 61) ht (by decide)
        simp only [bX12_nextToken_272, zw_0, zw_1, zs_aloadn0, zs_aloadNn0, zg_12_88, zi_12_91, zs_bipush, zs_icne, zs_iloadn1, zs_iconst, zs_goto, zh_0, zh_1, zh_2, zh_3, zh_4, zt_i, zt_l, zt_r, zt_n, zb_0, za_1, za_2, za_3, za_4, za_5, za_6, za_7, za_8, za_9, za_10, za_11, za_12, za_13, za_14, true_and, and_true, Nat.reduceAdd, e61, e60]
        refine ⟨fun h => alone (fun z => h z.2), fun h => ?_⟩
        have last : ∀ so2 : Nat, so2 = (if tp s = 60 then 4 else 5) → G 297 [some (.ref 0), some (.int (nI (tp s)))] [.int (nI so2), .ref 0] M2 := by
          intro so2 hso2
          refine h297 _ _ _ ?_
          simp only [bX12_nextToken_297, zw_0, zw_1, zq_12_98, zs_aloadn0, zs_aloadNn0, zs_dupi, zs_dupr, zs_dupn, zg_12_88, zs_iconst, zs_iadd, zq_12_88, zb_0, za_1, za_2, za_3, za_4, za_5, za_6, za_7, za_8, za_9, za_10, za_11, za_12, za_13, za_14, true_and, and_true, Nat.reduceAdd]
          refine fin2 _ _ (s + 2) so2 (zk_f_wi (zk_f_wi f2 (by decide)) (by decide)) ?_ ?_ ?_ ?_ ?_ (by rw [hso2]; split <;> omega) (by rw [hso2]; split <;> omega)
          · rw [zm_wi_same, if_neg (by decide), zm_wi_same, if_neg (by decide)]; exact a8
          · rw [zm_wi_same, if_pos rfl, zm_wi_same, if_neg (by decide), a7, nI_1]
          · rw [zm_wi_same, if_neg (by decide), zm_wi_same, if_pos rfl]
          · unfold zk_en; rw [if_neg (by omega), if_neg (by rw [hs2]; decide), if_neg (by rw [hs3]; decide), if_pos ⟨h6, h⟩]
          · unfold zk_so; rw [if_neg (by omega), if_neg (by rw [hs2]; decide), if_neg (by rw [hs3]; decide), if_pos ⟨h6, h⟩, hso2]
        refine ⟨fun h0 => ?_, fun h0 => ?_⟩
        · refine h296 _ _ _ ?_
          simp only [bX12_nextToken_296, zw_0, zw_1, zs_iconst, zb_0, za_1, za_2, za_3, za_4, za_5, za_6, za_7, za_8, za_9, za_10, za_11, za_12, za_13, za_14, true_and, and_true, Nat.reduceAdd]
          exact last 5 (by rw [if_neg h0])
        · exact last 4 (by rw [if_pos h0])
      refine h247 _ _ _ ?_
      simp only [bX12_nextToken_247, zw_0, zw_1, zq_12_98, zs_aloadn0, zs_aloadNn0, zs_dupi, zs_dupr, zs_dupn, zg_12_88, zs_iconst, zs_iadd, zq_12_88, zs_iloadn1, zs_bipush, zs_iceq, zs_icne, zb_0, za_1, za_2, za_3, za_4, za_5, za_6, za_7, za_8, za_9, za_10, za_11, za_12, za_13, za_14, true_and, and_true, Nat.reduceAdd, m7', nI_1, hM2, e60, e62]
      refine ⟨fun h => more (Or.inl h), fun h => ⟨fun h2 => alone (fun z => z.1.elim h h2), fun h2 => more (Or.inr h2)⟩⟩
    refine h234 _ _ _ ?_
    simp only [bX12_nextToken_234, zw_0, zw_1, zs_aloadn0, zs_aloadNn0, zs_iloadn1, zi_12_117, zs_ifeq, zs_goto, zh_0, zh_1, zh_2, zh_3, zh_4, zt_i, zt_l, zt_r, zt_n, zb_0, za_1, za_2, za_3, za_4, za_5, za_6, za_7, za_8, za_9, za_10, za_11, za_12, za_13, za_14, true_and, and_true, Nat.reduceAdd]
    refine zm_R_eq (c_isSign hE d tl M1) ?_
    simp only [bX12_nextToken_234, zw_0, zw_1, zs_aloadn0, zs_aloadNn0, zs_iloadn1, zi_12_117, zs_ifeq, zs_goto, zh_0, zh_1, zh_2, zh_3, zh_4, zt_i, zt_l, zt_r, zt_n, zb_0, za_1, za_2, za_3, za_4, za_5, za_6, za_7, za_8, za_9, za_10, za_11, za_12, za_13, za_14, true_and, and_true, Nat.reduceAdd, zi_b0]
    refine ⟨fun h => ?_, fun h => ?_⟩
    · refine h246 _ _ _ ?_
      simp only [bX12_nextToken_246, zw_0, zw_1, zs_iconst, zb_0, za_1, za_2, za_3, za_4, za_5, za_6, za_7, za_8, za_9, za_10, za_11, za_12, za_13, za_14, true_and, and_true, Nat.reduceAdd]
      exact go 3 (by rw [if_neg (by rw [h]; decide)])
    · have h : zk_sg (tp s) = true := by simpa using h
      exact go (tp s) (by rw [if_pos h])
  have start : ∀ (M1 : zm_M) (l1 : Option Value), zk_f M M1 → M1.1 0 7 = nI s → G 39 [some (.ref 0), l1] [] M1 := by
    intro M1 l1 f1 m7
    generalize hM2 : zm_wi M1 0 8 (nI s) = M2
    have f2 : zk_f M M2 := by rw [← hM2]; exact zk_f_wi f1 (by decide)
    have T2 := zk_tm_f hT f2
    have a8 : M2.1 0 8 = nI s := by rw [← hM2, zm_wi_same, if_pos rfl]
    have a7 : M2.1 0 7 = nI s := by rw [← hM2, zm_wi_same, if_neg (by decide)]; exact m7
    refine h39 _ _ _ ?_
    simp only [bX12_nextToken_39, zw_0, zw_1, zs_aloadn0, zs_aloadNn0, zg_12_88, zq_12_95, zi_12_91, zs_istoren1, zs_iloadn1, zs_ifge, zs_iconst, zq_12_98, zs_goto, zc_none, zc_int, zc_ref, zc_null, zc_long, zh_0, zh_1, zh_2, zh_3, zh_4, zt_i, zt_l, zt_r, zt_n, zb_0, za_1, za_2, za_3, za_4, za_5, za_6, za_7, za_8, za_9, za_10, za_11, za_12, za_13, za_14, true_and, and_true, Nat.reduceAdd, m7, hM2, a7]
    refine zm_R_eq (c_byteAt hE d (by omega) T2) ?_
    simp only [bX12_nextToken_39, zw_0, zw_1, zs_aloadn0, zs_aloadNn0, zg_12_88, zq_12_95, zi_12_91, zs_istoren1, zs_iloadn1, zs_ifge, zs_iconst, zq_12_98, zs_goto, zc_none, zc_int, zc_ref, zc_null, zc_long, zh_0, zh_1, zh_2, zh_3, zh_4, zt_i, zt_l, zt_r, zt_n, zb_0, za_1, za_2, za_3, za_4, za_5, za_6, za_7, za_8, za_9, za_10, za_11, za_12, za_13, za_14, true_and, and_true, Nat.reduceAdd]
    by_cases c : s < n
    · rw [zk_b_in c]
      have tl := ht s
      refine ⟨fun _ => ?_, fun h => absurd (zr_pos (by omega)) h⟩
      have fg : G 68 [some (.ref 0), some (.int (nI (tp s)))] [] M2 := by
        refine h68 _ _ _ ?_
        simp only [bX12_nextToken_68, zw_0, zw_1, zs_iloadn1, zi_12_101, zs_ifeq, zs_aloadn0, zs_aloadNn0, zs_iconst, zq_12_98, zq_12_104, zh_0, zh_1, zh_2, zh_3, zh_4, zt_i, zt_l, zt_r, zt_n, zb_0, za_1, za_2, za_3, za_4, za_5, za_6, za_7, za_8, za_9, za_10, za_11, za_12, za_13, za_14, true_and, and_true, Nat.reduceAdd]
        have is := c_isFigure hE d (tp := tp) (n := n) (p := s) ht M2
        rw [zk_b_in c] at is
        refine zm_R_eq is ?_
        have ebF : zk_bP zk_F tp n s = zk_F (tp s) := by unfold zk_bP; rw [decide_eq_true c, Bool.true_and]
        rw [ebF]
        simp only [bX12_nextToken_68, zw_0, zw_1, zs_iloadn1, zi_12_101, zs_ifeq, zs_aloadn0, zs_aloadNn0, zs_iconst, zq_12_98, zq_12_104, zh_0, zh_1, zh_2, zh_3, zh_4, zt_i, zt_l, zt_r, zt_n, zb_0, za_1, za_2, za_3, za_4, za_5, za_6, za_7, za_8, za_9, za_10, za_11, za_12, za_13, za_14, true_and, and_true, Nat.reduceAdd, zi_b0]
        refine ⟨fun hF => ?_, fun hF => ?_⟩
        · refine h151 _ _ _ ?_
          simp only [bX12_nextToken_151, zw_0, zw_1, zs_iloadn1, zi_12_108, zs_ifeq, zs_aloadn0, zs_aloadNn0, zs_iconst, zq_12_98, zs_lconst0, zq_12_111, zh_0, zh_1, zh_2, zh_3, zh_4, zt_i, zt_l, zt_r, zt_n, zb_0, za_1, za_2, za_3, za_4, za_5, za_6, za_7, za_8, za_9, za_10, za_11, za_12, za_13, za_14, true_and, and_true, Nat.reduceAdd]
          have is := c_isLetterByte hE d (tp := tp) (n := n) (p := s) ht M2
          rw [zk_b_in c] at is
          refine zm_R_eq is ?_
          have ebL : zk_bP zk_L tp n s = zk_L (tp s) := by unfold zk_bP; rw [decide_eq_true c, Bool.true_and]
          rw [ebL]
          simp only [bX12_nextToken_151, zw_0, zw_1, zs_iloadn1, zi_12_108, zs_ifeq, zs_aloadn0, zs_aloadNn0, zs_iconst, zq_12_98, zs_lconst0, zq_12_111, zh_0, zh_1, zh_2, zh_3, zh_4, zt_i, zt_l, zt_r, zt_n, zb_0, za_1, za_2, za_3, za_4, za_5, za_6, za_7, za_8, za_9, za_10, za_11, za_12, za_13, za_14, true_and, and_true, Nat.reduceAdd, zi_b0]
          refine ⟨fun hL => ?_, fun hL => ?_⟩
          · exact sign c hF hL M2 f2 a8 a7
          · have hL : zk_L (tp s) = true := by simpa using hL
            refine let' c hF hL n s 0 _ _ (zk_f_wj (zk_f_wi f2 (by decide))) ?_ ?_ ?_ ?_ (by omega) (by omega) (by omega) (by omega) rfl rfl
            · rw [zm_wj_1, zm_wi_same, if_neg (by decide)]; exact a8
            · rw [zm_wj_1, zm_wi_same, if_pos rfl]; rfl
            · rw [zm_wj_1, zm_wi_same, if_neg (by decide)]; exact a7
            · rw [zm_wj_same, if_pos rfl]; rfl
        · have hF : zk_F (tp s) = true := by simpa using hF
          refine num c hF n s 0 _ _ (zk_f_wi (zk_f_wi f2 (by decide)) (by decide)) ?_ ?_ ?_ ?_ (by omega) (by omega) (by omega) (by omega) rfl rfl
          · rw [zm_wi_same, if_neg (by decide), zm_wi_same, if_neg (by decide)]; exact a8
          · rw [zm_wi_same, if_neg (by decide), zm_wi_same, if_pos rfl]; rfl
          · rw [zm_wi_same, if_neg (by decide), zm_wi_same, if_neg (by decide)]; exact a7
          · rw [zm_wi_same, if_pos rfl]; rfl
      exact fg
    · rw [zk_b_out c]
      refine ⟨fun h => absurd h (by decide), fun _ => ?_⟩
      refine fin _ _ (zk_f_wi f2 (by decide)) ⟨?_, ?_, ?_, fun h => ?_, fun h => ?_⟩
      · rw [zm_wi_same, if_neg (by decide)]; exact a8
      · rw [zm_wi_same, if_neg (by decide)]
        have : zk_en tp n s = s := by unfold zk_en; rw [if_pos (by omega)]
        rw [this]; exact a7
      · rw [zm_wi_same, if_pos rfl]
        unfold zk_so; rw [if_pos (by omega)]; rfl
      · unfold zk_so at h; rw [if_pos (by omega)] at h; omega
      · unfold zk_so at h; rw [if_pos (by omega)] at h; omega
  have skip : ∀ (f x : Nat) (M1 : zm_M) (l1 : Option Value), zk_f M M1 → M1.1 0 7 = nI x → x ≤ n → n ≤ x + f → zk_rn zk_S tp n f x = s → G 0 [some (.ref 0), l1] [] M1 := by
    intro f
    induction f with
    | zero =>
      intro x M1 l1 f1 m7 xn nx e
      have T1 := zk_tm_f hT f1
      have e : x = s := e
      subst e
      refine h0 _ _ _ ?_
      simp only [bX12_nextToken_0, zw_0, zw_1, zs_aloadn0, zs_aloadNn0, zg_12_88, zi_12_91, zs_bipush, zs_iceq, zs_icne, zh_0, zh_1, zh_2, zh_3, zh_4, zt_i, zt_l, zt_r, zt_n, zb_0, za_1, za_2, za_3, za_4, za_5, za_6, za_7, za_8, za_9, za_10, za_11, za_12, za_13, za_14, true_and, and_true, Nat.reduceAdd, m7]
      refine zm_R_eq (c_byteAt hE d (by omega) T1) ?_
      rw [zk_b_out (by omega)]
      simp only [bX12_nextToken_0, zw_0, zw_1, zs_aloadn0, zs_aloadNn0, zg_12_88, zi_12_91, zs_bipush, zs_iceq, zs_icne, zh_0, zh_1, zh_2, zh_3, zh_4, zt_i, zt_l, zt_r, zt_n, zb_0, za_1, za_2, za_3, za_4, za_5, za_6, za_7, za_8, za_9, za_10, za_11, za_12, za_13, za_14, true_and, and_true, Nat.reduceAdd, m7]
      refine ⟨fun h => absurd h (by decide), fun _ => ?_⟩
      refine zm_R_eq (c_byteAt hE d (by omega) T1) ?_
      rw [zk_b_out (by omega)]
      simp only [bX12_nextToken_0, zw_0, zw_1, zs_aloadn0, zs_aloadNn0, zg_12_88, zi_12_91, zs_bipush, zs_iceq, zs_icne, zh_0, zh_1, zh_2, zh_3, zh_4, zt_i, zt_l, zt_r, zt_n, zb_0, za_1, za_2, za_3, za_4, za_5, za_6, za_7, za_8, za_9, za_10, za_11, za_12, za_13, za_14, true_and, and_true, Nat.reduceAdd]
      exact ⟨fun _ => start M1 _ f1 m7, fun h => absurd h (by decide)⟩
    | succ f ih =>
      intro x M1 l1 f1 m7 xn nx e
      have T1 := zk_tm_f hT f1
      simp only [zk_rn] at e
      have e32 : (zk_b tp n x = 32) = (x < n ∧ tp x = 32) := zk_b_e (k := 32) ht (by decide)
      have e10 : (zk_b tp n x = 10) = (x < n ∧ tp x = 10) := zk_b_e (k := 10) ht (by decide)
      have on : x < n → zk_S (tp x) = true → G 26 [some (.ref 0), l1] [] M1 := by
        intro hx hS
        rw [if_pos ⟨hx, hS⟩] at e
        refine h26 _ _ _ ?_
        simp only [bX12_nextToken_26, zw_0, zw_1, zs_aloadn0, zs_aloadNn0, zs_dupi, zs_dupr, zs_dupn, zg_12_88, zs_iconst, zs_iadd, zq_12_88, zs_goto, zb_0, za_1, za_2, za_3, za_4, za_5, za_6, za_7, za_8, za_9, za_10, za_11, za_12, za_13, za_14, true_and, and_true, Nat.reduceAdd, m7, nI_1]
        exact ih (x + 1) _ _ (zk_f_wi f1 (by decide)) (by rw [zm_wi_same, if_pos rfl]) (by omega) (by omega) e
      refine h0 _ _ _ ?_
      simp only [bX12_nextToken_0, zw_0, zw_1, zs_aloadn0, zs_aloadNn0, zg_12_88, zi_12_91, zs_bipush, zs_iceq, zs_icne, zh_0, zh_1, zh_2, zh_3, zh_4, zt_i, zt_l, zt_r, zt_n, zb_0, za_1, za_2, za_3, za_4, za_5, za_6, za_7, za_8, za_9, za_10, za_11, za_12, za_13, za_14, true_and, and_true, Nat.reduceAdd, m7]
      refine zm_R_eq (c_byteAt hE d (by omega) T1) ?_
      simp only [bX12_nextToken_0, zw_0, zw_1, zs_aloadn0, zs_aloadNn0, zg_12_88, zi_12_91, zs_bipush, zs_iceq, zs_icne, zh_0, zh_1, zh_2, zh_3, zh_4, zt_i, zt_l, zt_r, zt_n, zb_0, za_1, za_2, za_3, za_4, za_5, za_6, za_7, za_8, za_9, za_10, za_11, za_12, za_13, za_14, true_and, and_true, Nat.reduceAdd, m7, e32]
      refine ⟨fun h => on h.1 (by unfold zk_S; rw [decide_eq_true h.2, Bool.true_or]), fun h => ?_⟩
      refine zm_R_eq (c_byteAt hE d (by omega) T1) ?_
      simp only [bX12_nextToken_0, zw_0, zw_1, zs_aloadn0, zs_aloadNn0, zg_12_88, zi_12_91, zs_bipush, zs_iceq, zs_icne, zh_0, zh_1, zh_2, zh_3, zh_4, zt_i, zt_l, zt_r, zt_n, zb_0, za_1, za_2, za_3, za_4, za_5, za_6, za_7, za_8, za_9, za_10, za_11, za_12, za_13, za_14, true_and, and_true, Nat.reduceAdd, e10]
      refine ⟨fun h2 => ?_, fun h2 => on h2.1 (by unfold zk_S; rw [decide_eq_true h2.2, Bool.or_true])⟩
      have ns : ¬ (x < n ∧ zk_S (tp x) = true) := by
        intro z
        have z2 := z.2
        unfold zk_S at z2
        simp only [Bool.or_eq_true, decide_eq_true_eq] at z2
        exact z2.elim (fun y => h ⟨z.1, y⟩) (fun y => h2 ⟨z.1, y⟩)
      rw [if_neg ns] at e
      subst e
      exact start M1 _ f1 m7
  exact skip n p M none zk_f_refl h7 hp (by omega) hs
