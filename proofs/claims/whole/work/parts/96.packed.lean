/-! ===== words as the reference packs them ===== -/
theorem zk_pk_s {tp : Nat → Nat} : ∀ (f p a : Nat), zk_pk tp (f + 1) p a = (if zk_pk tp f p a < 2 ^ 48 then zk_pk tp f p a * 256 + tp (p + f) else 2 ^ 60) := by
  intro f
  induction f with
  | zero => intro p a; rfl
  | succ f ih =>
    intro p a
    rw [show zk_pk tp (f + 1 + 1) p a = zk_pk tp (f + 1) (p + 1) (if a < 2 ^ 48 then a * 256 + tp p else 2 ^ 60) from rfl, ih]
    rw [show zk_pk tp (f + 1) p a = zk_pk tp f (p + 1) (if a < 2 ^ 48 then a * 256 + tp p else 2 ^ 60) from rfl, show p + 1 + f = p + (f + 1) by omega]
theorem zk_li_s {tp : Nat → Nat} {s f : Nat} : zk_li tp s (s + (f + 1)) = zk_li tp s (s + f) ++ [tp (s + f)] := by
  unfold zk_li
  rw [Nat.add_sub_cancel_left, Nat.add_sub_cancel_left, List.range_succ, List.map_append]
  rfl
theorem zk_li_in {tp : Nat → Nat} {s f : Nat} (h : ∀ j, s ≤ j → j < s + f → 1 ≤ tp j ∧ tp j < 256) : ∀ c, c ∈ zk_li tp s (s + f) → 1 ≤ c ∧ c < 256 := by
  intro c hc
  unfold zk_li at hc
  rw [List.mem_map] at hc
  obtain ⟨j, hj, rfl⟩ := hc
  rw [List.mem_range] at hj
  exact h _ (by omega) (by omega)
theorem zk_pk_fd {tp : Nat → Nat} {s : Nat} : ∀ f, (∀ j, s ≤ j → j < s + f → 1 ≤ tp j ∧ tp j < 256) → zk_pk tp f s 0 = (if f ≤ 7 then zk_fd (zk_li tp s (s + f)) else 2 ^ 60) := by
  intro f
  induction f with
  | zero => intro _; rw [if_pos (by omega)]; unfold zk_li; simp [zk_pk, zk_fd]
  | succ f ih =>
    intro h
    have h' : ∀ j, s ≤ j → j < s + f → 1 ≤ tp j ∧ tp j < 256 := fun j a b => h j a (by omega)
    rw [zk_pk_s, ih h']
    have lt := zk_fd_lt f (zk_li tp s (s + f)) (by rw [zk_li_len]; omega) (zk_li_in h')
    by_cases c6 : f ≤ 6
    · have p6 : 256 ^ f ≤ 256 ^ 6 := Nat.pow_le_pow_right (by decide) c6
      have e6 : (256 : Nat) ^ 6 = 2 ^ 48 := by decide
      rw [if_pos (show f ≤ 7 by omega), if_pos (by omega), if_pos (by omega), zk_li_s, zk_fd_s]
    · rw [if_neg (show ¬ f + 1 ≤ 7 by omega)]
      by_cases c7 : f = 7
      · subst c7
        rw [if_pos (show 7 ≤ 7 by omega)]
        have e6 : (256 : Nat) ^ (7 - 1) = 2 ^ 48 := by decide
        have := lt.2 (by omega)
        rw [if_neg (by omega)]
      · rw [if_neg (show ¬ f ≤ 7 by omega), if_neg (by omega)]
theorem zk_pw {tp : Nat → Nat} {s f : Nat} {ds : List Nat} (h : ∀ j, s ≤ j → j < s + f → 1 ≤ tp j ∧ tp j < 256) (hd : ∀ c, c ∈ ds → 1 ≤ c ∧ c < 256) (hl : ds.length ≤ 6) : (zk_pk tp f s 0 = zk_fd ds) = (zk_li tp s (s + f) = ds) := by
  rw [zk_pk_fd f h]
  by_cases c : f ≤ 7
  · rw [if_pos c]
    exact propext ⟨fun e => zk_fd_inj _ _ _ rfl (zk_li_in h) hd e, fun e => by rw [e]⟩
  · rw [if_neg c]
    have lt := (zk_fd_lt ds.length ds rfl hd).1
    have p6 : 256 ^ ds.length ≤ 256 ^ 6 := Nat.pow_le_pow_right (by decide) hl
    have e6 : (256 : Nat) ^ 6 = 2 ^ 48 := by decide
    refine propext ⟨fun e => by omega, fun e => ?_⟩
    have := congrArg List.length e
    rw [zk_li_len] at this
    omega
/-- a token of letters -/
theorem zk_so_2 {tp : Nat → Nat} {n s : Nat} (h : zk_so tp n s = 2) : s < n ∧ zk_F (tp s) = false ∧ zk_L (tp s) = true := by
  unfold zk_so at h
  by_cases c1 : n ≤ s
  · rw [if_pos c1] at h; omega
  rw [if_neg c1] at h
  cases hF : zk_F (tp s) with
  | true => rw [hF, if_pos rfl] at h; omega
  | false =>
    rw [hF, if_neg (by decide)] at h
    cases hL : zk_L (tp s) with
    | true => exact ⟨by omega, rfl, rfl⟩
    | false =>
      rw [hL, if_neg (by decide)] at h
      split at h
      · split at h <;> omega
      · split at h
        · next z =>
          unfold zk_sg at z
          simp only [Bool.or_eq_true, decide_eq_true_eq] at z
          omega
        · omega
theorem zk_L_F {c : Nat} (h : zk_L c = true) : zk_F c = false := by
  unfold zk_L at h
  unfold zk_F
  simp only [Bool.or_eq_true, decide_eq_true_eq] at h
  exact decide_eq_false (by omega)
theorem zk_so_L {tp : Nat → Nat} {n s : Nat} (h1 : s < n) (h2 : zk_L (tp s) = true) : zk_so tp n s = 2 := by
  unfold zk_so
  rw [if_neg (by omega), if_neg (by rw [zk_L_F h2]; decide), if_pos h2]
theorem zz_sd_L : ∀ i, i < 28 → (∀ c, c ∈ zz_sd.getD i [] → zk_L c = true) ∧ (zz_sd.getD i []) ≠ [] := by decide +kernel
theorem zk_L_in {c : Nat} (h : zk_L c = true) : 1 ≤ c ∧ c < 256 := by
  unfold zk_L at h
  simp only [Bool.or_eq_true, decide_eq_true_eq] at h
  omega
theorem zk_en_L {tp : Nat → Nat} {n s : Nat} (h1 : s < n) (h2 : zk_L (tp s) = true) : zk_en tp n s = zk_rn zk_L tp n n s := by
  unfold zk_en
  rw [if_neg (by omega), if_neg (by rw [zk_L_F h2]; decide), if_pos h2]
theorem zk_w_28 {tp : Nat → Nat} {n s i : Nat} (ht : ∀ j, tp j < 256) (hi : i < 28) (h : zk_w tp n s = i) : s < n ∧ zk_L (tp s) = true := by
  unfold zk_w at h
  by_cases c1 : n ≤ s
  · rw [if_pos c1] at h; omega
  rw [if_neg c1] at h
  split at h
  · omega
  · rw [zk_wd_li ht (by omega)] at h
    have hen := zk_en_in (tp := tp) (n := n) (s := s) (by omega)
    obtain ⟨z1, z2⟩ := zz_sd_L i hi
    refine ⟨by omega, ?_⟩
    rw [← h] at z1
    refine z1 (tp s) ?_
    unfold zk_li
    rw [List.mem_map]
    exact ⟨0, List.mem_range.mpr (by omega), rfl⟩
/-- what a packed word says of the token -/
theorem zk_is {tp : Nat → Nat} {n s i : Nat} (ht : ∀ j, tp j < 256) (hi : i < 28) (hl : (zz_sd.getD i []).length ≤ 6) : (zk_so tp n s = 2 ∧ zk_pk tp (zk_en tp n s - s) s 0 = zk_fd (zz_sd.getD i [])) = (zk_w tp n s = i) := by
  have key : s < n → zk_L (tp s) = true → (zk_pk tp (zk_en tp n s - s) s 0 = zk_fd (zz_sd.getD i [])) = (zk_w tp n s = i) := by
    intro h1 h2
    have hen := zk_en_in (tp := tp) h1
    have all : ∀ j, s ≤ j → j < s + (zk_en tp n s - s) → 1 ≤ tp j ∧ tp j < 256 := by
      intro j a b
      rw [zk_en_L h1 h2] at b hen
      exact zk_L_in (zk_rn_all zk_L tp n n s j a (by omega))
    rw [zk_pw all (fun c hc => zk_L_in ((zz_sd_L i hi).1 c hc)) hl, show s + (zk_en tp n s - s) = zk_en tp n s by omega, ← zk_wd_li ht (by omega)]
    unfold zk_w
    rw [if_neg (by omega), if_neg (by rw [zk_L_F h2]; decide)]
  refine propext ⟨fun h => ?_, fun h => ?_⟩
  · obtain ⟨a, b, c⟩ := zk_so_2 h.1
    rw [← key a c]; exact h.2
  · obtain ⟨a, b⟩ := zk_w_28 ht hi h
    exact ⟨zk_so_L a b, by rw [key a b]; exact h⟩
theorem c_w2 {E : zm_E} (hE : zm_ok E.2.2.1 E.2.2.2.2) (d : Nat) (a b : Nat) (ha : a < 256) (hb : b < 256) (M : zm_M) : zm_R E (d + 1) mX12_w2 [.int (nI a), .int (nI b)] M (fun r M' => r = some (.long (lN (zk_fd [a, b]))) ∧ M' = M) := by
  refine zX12_w2 hE rfl (fun G h0 => ?_)
  show G 0 [some (.int (nI a)), some (.int (nI b))] [] M
  have e0 : (nI a).toInt64 = lN a := nI_l (by omega)
  have e1 := zk_sh8 (a := a) (by omega) hb
  refine h0 _ _ _ ?_
  simp only [bX12_w2_0, zw_0, zw_1, zs_iloadn0, zs_i2l, zs_bipush, zs_lshl, zs_iloadn1, zs_lor, zs_lreturn, zn_int, zn_b0, zn_b1, zb_0, za_1, za_2, za_3, za_4, za_5, za_6, za_7, za_8, za_9, za_10, za_11, za_12, za_13, za_14, true_and, and_true, Nat.reduceAdd, e0, e1]
  rw [show zk_fd [a, b] = a * 256 + b by simp [zk_fd]]
theorem c_w3 {E : zm_E} (hE : zm_ok E.2.2.1 E.2.2.2.2) (d : Nat) (a b c : Nat) (ha : a < 256) (hb : b < 256) (hc : c < 256) (M : zm_M) : zm_R E (d + 2) mX12_w3 [.int (nI a), .int (nI b), .int (nI c)] M (fun r M' => r = some (.long (lN (zk_fd [a, b, c]))) ∧ M' = M) := by
  refine zX12_w3 hE rfl (fun G h0 => ?_)
  show G 0 [some (.int (nI a)), some (.int (nI b)), some (.int (nI c))] [] M
  have e2 : zk_fd [a, b] = a * 256 + b := by simp [zk_fd]
  have e3 : zk_fd [a, b, c] = zk_fd [a, b] * 256 + c := by simp [zk_fd]
  have e1 := zk_sh8 (a := zk_fd [a, b]) (c := c) (by omega) hc
  refine h0 _ _ _ ?_
  simp only [bX12_w3_0, zw_0, zw_1, zs_iloadn0, zs_iloadn1, zi_12_120, zs_bipush, zs_lshl, zs_iloadn2, zs_i2l, zs_lor, zs_lreturn, zh_0, zh_1, zh_2, zh_3, zh_4, zt_i, zt_l, zt_r, zt_n, zn_int, zn_b0, zn_b1, zb_0, za_1, za_2, za_3, za_4, za_5, za_6, za_7, za_8, za_9, za_10, za_11, za_12, za_13, za_14, true_and, and_true, Nat.reduceAdd]
  refine zm_R_eq (c_w2 hE d a b ha hb M) ?_
  simp only [bX12_w3_0, zw_0, zw_1, zs_iloadn0, zs_iloadn1, zi_12_120, zs_bipush, zs_lshl, zs_iloadn2, zs_i2l, zs_lor, zs_lreturn, zh_0, zh_1, zh_2, zh_3, zh_4, zt_i, zt_l, zt_r, zt_n, zn_int, zn_b0, zn_b1, zb_0, za_1, za_2, za_3, za_4, za_5, za_6, za_7, za_8, za_9, za_10, za_11, za_12, za_13, za_14, true_and, and_true, Nat.reduceAdd, e1]
  rw [e3]
