/-! ===== tokens: of the bytes, and of the reference ===== -/
def zk_F (c : Nat) : Bool := decide (48 ≤ c ∧ c ≤ 57)
def zk_L (c : Nat) : Bool := decide (97 ≤ c ∧ c ≤ 122) || decide (65 ≤ c ∧ c ≤ 90)
def zk_S (c : Nat) : Bool := decide (c = 32) || decide (c = 10)
def zk_sg (c : Nat) : Bool := decide (c = 35) || decide (40 ≤ c ∧ c ≤ 43) || decide (c = 45) || decide (c = 47) || decide (58 ≤ c ∧ c ≤ 62)
/-- a run of such bytes, from p on -/
def zk_rn (P : Nat → Bool) (tp : Nat → Nat) (n : Nat) : Nat → Nat → Nat
  | 0, p => p
  | f + 1, p => if p < n ∧ P (tp p) = true then zk_rn P tp n f (p + 1) else p
theorem zk_rn_in (P : Nat → Bool) (tp : Nat → Nat) (n : Nat) : ∀ (f p : Nat), p ≤ zk_rn P tp n f p ∧ (p ≤ n → zk_rn P tp n f p ≤ n) := by
  intro f
  induction f with
  | zero => intro p; exact ⟨Nat.le_refl _, fun h => h⟩
  | succ f ih =>
    intro p
    simp only [zk_rn]
    split
    · next h =>
      have := ih (p + 1)
      exact ⟨by omega, fun _ => this.2 (by omega)⟩
    · exact ⟨Nat.le_refl _, fun h => h⟩
theorem zk_rn_all (P : Nat → Bool) (tp : Nat → Nat) (n : Nat) : ∀ (f p : Nat), ∀ j, p ≤ j → j < zk_rn P tp n f p → P (tp j) = true := by
  intro f
  induction f with
  | zero => intro p j h1 h2; simp only [zk_rn] at h2; omega
  | succ f ih =>
    intro p j h1 h2
    simp only [zk_rn] at h2
    split at h2
    · next h =>
      by_cases c : j = p
      · rw [c]; exact h.2
      · exact ih (p + 1) j (by omega) h2
    · omega
theorem zk_rn_end (P : Nat → Bool) (tp : Nat → Nat) (n : Nat) : ∀ (f p : Nat), n ≤ p + f → ¬ (zk_rn P tp n f p < n ∧ P (tp (zk_rn P tp n f p)) = true) := by
  intro f
  induction f with
  | zero => intro p h z; simp only [zk_rn] at z; omega
  | succ f ih =>
    intro p h
    simp only [zk_rn]
    split
    · exact ih (p + 1) (by omega)
    · next h2 => exact h2
/-- where the next token begins -/
def zk_sk (tp : Nat → Nat) (n p : Nat) : Nat := zk_rn zk_S tp n n p
/-- where it ends -/
def zk_en (tp : Nat → Nat) (n s : Nat) : Nat :=
  if n ≤ s then s else if zk_F (tp s) then zk_rn zk_F tp n n s else if zk_L (tp s) then zk_rn zk_L tp n n s else if (tp s = 60 ∨ tp s = 62) ∧ s + 1 < n ∧ tp (s + 1) = 61 then s + 2 else s + 1
/-- its sort, as the reference has it -/
def zk_so (tp : Nat → Nat) (n s : Nat) : Nat :=
  if n ≤ s then 0 else if zk_F (tp s) then 1 else if zk_L (tp s) then 2 else if (tp s = 60 ∨ tp s = 62) ∧ s + 1 < n ∧ tp (s + 1) = 61 then (if tp s = 60 then 4 else 5) else if zk_sg (tp s) then tp s else 3
/-- the number of figures from s to e, as the reference has it -/
def zk_nr (tp : Nat → Nat) : Nat → Nat → Nat → Nat
  | 0, _, a => a
  | f + 1, p, a => zk_nr tp f (p + 1) (if 99999 < a then a else 10 * a + tp p - 48)
def zk_b (tp : Nat → Nat) (n p : Nat) : Int32 := if p < n then nI (tp p) else -1
/-- a text's bytes as they lie in the reference -/
def zk_tm (tp : Nat → Nat) (n : Nat) (M : zm_M) : Prop := n ≤ 300 ∧ M.1 0 4 = nI n ∧ (∀ i, i < n → M.1 4 i = nI (tp i)) ∧ ∀ i, tp i < 256
theorem c_byteAt {E : zm_E} (hE : zm_ok E.2.2.1 E.2.2.2.2) (d : Nat) {tp : Nat → Nat} {n p : Nat} (hp : p < 2 ^ 30) {M : zm_M} (hT : zk_tm tp n M) : zm_R E (d + 1) mX12_byteAt [.ref 0, .int (nI p)] M (fun r M' => r = some (.int (zk_b tp n p)) ∧ M' = M) := by
  refine zX12_byteAt hE rfl (fun G h0 h17 h18 => ?_)
  show G 0 [some (.ref 0), some (.int (nI p))] [] M
  obtain ⟨h1, h2, h3, h4⟩ := hT
  have ev : (nI n ≤ nI p) = (n ≤ p) := propext (nI_leI (by omega) (by omega))
  have v2 : (nI p).toNatClampNeg = p := nI_clamp (by omega)
  refine h0 _ _ _ ?_
  simp only [bX12_byteAt_0, zw_0, zw_1, zs_iloadn1, zs_aloadn0, zs_aloadNn0, zg_12_81, zs_icge, zg_12_19, zs_iaload, zs_goto, zb_0, za_1, za_2, za_3, za_4, za_5, za_6, za_7, za_8, za_9, za_10, za_11, za_12, za_13, za_14, zu_0, zu_1, zu_2, zu_3, zu_4, zu_5, zu_6, zu_7, zu_8, zu_9, zu_10, zu_11, zu_12, zu_13, zu_14, zu_15, zu_16, zu_17, zu_18, zu_19, zu_20, zu_21, zu_22, zu_23, zu_24, zu_25, zu_26, zu_27, zu_28, zu_29, zu_30, zu_90, zv_0_9, zv_1_9, zv_2_9, zv_3_9, zv_4_9, zv_5_9, zv_6_9, zv_7_9, zv_8_9, zv_0_330, zv_0_4544, zv_1_4544, zv_2_4544, zv_3_4544, zv_4_4544, zv_5_4544, zv_6_4544, zv_7_4544, zv_8_4544, zv_9_4544, zv_10_4544, zv_11_4544, zv_12_4544, zv_13_4544, zv_14_4544, zv_15_4544, zv_16_4544, zv_17_4544, zv_18_4544, zv_19_4544, zv_20_4544, zv_21_4544, zv_22_4544, zv_23_4544, zv_24_4544, zv_25_4544, zv_26_4544, zv_27_4544, zv_28_4544, zv_29_4544, zv_0_11, zv_1_11, zv_0_160, true_and, and_true, Nat.reduceAdd, h2, ev, v2]
  refine ⟨fun h => ?_, fun h => ?_⟩
  · refine h17 _ _ _ ?_
    simp only [bX12_byteAt_17, zw_0, zw_1, zs_iconst, zb_0, za_1, za_2, za_3, za_4, za_5, za_6, za_7, za_8, za_9, za_10, za_11, za_12, za_13, za_14, true_and, and_true, Nat.reduceAdd]
    refine h18 _ _ _ ?_
    simp only [bX12_byteAt_18, zw_0, zw_1, zs_ireturn, zn_int, zn_b0, zn_b1, zb_0, za_1, za_2, za_3, za_4, za_5, za_6, za_7, za_8, za_9, za_10, za_11, za_12, za_13, za_14, true_and, and_true, Nat.reduceAdd]
    unfold zk_b
    rw [if_neg (by omega)]
  · refine ⟨vp_in_nI (by omega) (by decide), ?_⟩
    refine h18 _ _ _ ?_
    simp only [bX12_byteAt_18, zw_0, zw_1, zs_ireturn, zn_int, zn_b0, zn_b1, zb_0, za_1, za_2, za_3, za_4, za_5, za_6, za_7, za_8, za_9, za_10, za_11, za_12, za_13, za_14, true_and, and_true, Nat.reduceAdd]
    unfold zk_b
    rw [if_pos (by omega), h3 p (by omega)]
/-- of a byte, or of none -/
def zk_bP (P : Nat → Bool) (tp : Nat → Nat) (n p : Nat) : Bool := decide (p < n) && P (tp p)
theorem zk_le {a c : Nat} (ha : a < 2 ^ 31) (hc : c < 2 ^ 31) : (nI a ≤ nI c) = (a ≤ c) := propext (nI_leI ha hc)
theorem c_isFigure {E : zm_E} (hE : zm_ok E.2.2.1 E.2.2.2.2) (d : Nat) {tp : Nat → Nat} {n p : Nat} (ht : ∀ i, tp i < 256) (M : zm_M) : zm_R E (d + 1) mX12_isFigure [.int (zk_b tp n p)] M (fun r M' => r = some (.int (zi_b (zk_bP zk_F tp n p))) ∧ M' = M) := by
  refine zX12_isFigure hE rfl (fun G h0 h16 h17 => ?_)
  show G 0 [some (.int (zk_b tp n p))] [] M
  have no : zk_bP zk_F tp n p = false → G 16 [some (.int (zk_b tp n p))] [] M := by
    intro h
    refine h16 _ _ _ ?_
    simp only [bX12_isFigure_16, zw_0, zw_1, zs_iconst, zb_0, za_1, za_2, za_3, za_4, za_5, za_6, za_7, za_8, za_9, za_10, za_11, za_12, za_13, za_14, true_and, and_true, Nat.reduceAdd]
    refine h17 _ _ _ ?_
    simp only [bX12_isFigure_17, zw_0, zw_1, zs_ireturn, zn_int, zn_b0, zn_b1, zb_0, za_1, za_2, za_3, za_4, za_5, za_6, za_7, za_8, za_9, za_10, za_11, za_12, za_13, za_14, true_and, and_true, Nat.reduceAdd]
    rw [h]; rfl
  refine h0 _ _ _ ?_
  unfold zk_b at no ⊢
  unfold zk_bP at no ⊢
  by_cases c : p < n
  · rw [if_pos c] at no ⊢
    have tl := ht p
    have e1 : (nI (tp p) < 48) = (tp p < 48) := propext (nI_ltI (b := 48) (by omega) (by decide))
    have e2 : ((57 : Int32) < nI (tp p)) = (57 < tp p) := propext (nI_ltI (a := 57) (by decide) (by omega))
    simp only [bX12_isFigure_0, zw_0, zw_1, zs_iloadn0, zs_bipush, zs_iclt, zs_icgt, zs_iconst, zs_goto, zb_0, za_1, za_2, za_3, za_4, za_5, za_6, za_7, za_8, za_9, za_10, za_11, za_12, za_13, za_14, true_and, and_true, Nat.reduceAdd, e1, e2]
    refine ⟨fun h => no ?_, fun h => ⟨fun h2 => no ?_, fun h2 => ?_⟩⟩
    · unfold zk_F; rw [decide_eq_false (p := 48 ≤ tp p ∧ tp p ≤ 57) (by omega), Bool.and_false]
    · unfold zk_F; rw [decide_eq_false (p := 48 ≤ tp p ∧ tp p ≤ 57) (by omega), Bool.and_false]
    · refine h17 _ _ _ ?_
      simp only [bX12_isFigure_17, zw_0, zw_1, zs_ireturn, zn_int, zn_b0, zn_b1, zb_0, za_1, za_2, za_3, za_4, za_5, za_6, za_7, za_8, za_9, za_10, za_11, za_12, za_13, za_14, true_and, and_true, Nat.reduceAdd]
      unfold zk_bP zk_F
      rw [decide_eq_true c, decide_eq_true (p := 48 ≤ tp p ∧ tp p ≤ 57) (by omega)]; rfl
  · rw [if_neg c] at no ⊢
    simp only [bX12_isFigure_0, zw_0, zw_1, zs_iloadn0, zs_bipush, zs_iclt, zs_icgt, zs_iconst, zs_goto, zb_0, za_1, za_2, za_3, za_4, za_5, za_6, za_7, za_8, za_9, za_10, za_11, za_12, za_13, za_14, true_and, and_true, Nat.reduceAdd]
    refine ⟨fun h => no (by rw [decide_eq_false c, Bool.false_and]), fun h => absurd (by decide) h⟩
theorem c_isLetterByte {E : zm_E} (hE : zm_ok E.2.2.1 E.2.2.2.2) (d : Nat) {tp : Nat → Nat} {n p : Nat} (ht : ∀ i, tp i < 256) (M : zm_M) : zm_R E (d + 1) mX12_isLetterByte [.int (zk_b tp n p)] M (fun r M' => r = some (.int (zi_b (zk_bP zk_L tp n p))) ∧ M' = M) := by
  refine zX12_isLetterByte hE rfl (fun G h0 h12 h24 h28 h29 => ?_)
  show G 0 [some (.int (zk_b tp n p))] [] M
  have no : zk_bP zk_L tp n p = false → G 28 [some (.int (zk_b tp n p))] [] M := by
    intro h
    refine h28 _ _ _ ?_
    simp only [bX12_isLetterByte_28, zw_0, zw_1, zs_iconst, zb_0, za_1, za_2, za_3, za_4, za_5, za_6, za_7, za_8, za_9, za_10, za_11, za_12, za_13, za_14, true_and, and_true, Nat.reduceAdd]
    refine h29 _ _ _ ?_
    simp only [bX12_isLetterByte_29, zw_0, zw_1, zs_ireturn, zn_int, zn_b0, zn_b1, zb_0, za_1, za_2, za_3, za_4, za_5, za_6, za_7, za_8, za_9, za_10, za_11, za_12, za_13, za_14, true_and, and_true, Nat.reduceAdd]
    rw [h]; rfl
  have yes : zk_bP zk_L tp n p = true → G 24 [some (.int (zk_b tp n p))] [] M := by
    intro h
    refine h24 _ _ _ ?_
    simp only [bX12_isLetterByte_24, zw_0, zw_1, zs_iconst, zs_goto, zb_0, za_1, za_2, za_3, za_4, za_5, za_6, za_7, za_8, za_9, za_10, za_11, za_12, za_13, za_14, true_and, and_true, Nat.reduceAdd]
    refine h29 _ _ _ ?_
    simp only [bX12_isLetterByte_29, zw_0, zw_1, zs_ireturn, zn_int, zn_b0, zn_b1, zb_0, za_1, za_2, za_3, za_4, za_5, za_6, za_7, za_8, za_9, za_10, za_11, za_12, za_13, za_14, true_and, and_true, Nat.reduceAdd]
    rw [h]; rfl
  refine h0 _ _ _ ?_
  unfold zk_b at no yes h12 ⊢
  unfold zk_bP at no yes ⊢
  by_cases c : p < n
  · rw [if_pos c] at no yes ⊢
    have tl := ht p
    have e1 : (nI (tp p) < 97) = (tp p < 97) := propext (nI_ltI (b := 97) (by omega) (by decide))
    have e2 : (nI (tp p) ≤ 122) = (tp p ≤ 122) := propext (nI_leI (b := 122) (by omega) (by decide))
    have e3 : (nI (tp p) < 65) = (tp p < 65) := propext (nI_ltI (b := 65) (by omega) (by decide))
    have e4 : ((90 : Int32) < nI (tp p)) = (90 < tp p) := propext (nI_ltI (a := 90) (by decide) (by omega))
    have up : ¬ (97 ≤ tp p ∧ tp p ≤ 122) → G 12 [some (.int (nI (tp p)))] [] M := by
      intro h
      refine h12 _ _ _ ?_
      simp only [bX12_isLetterByte_12, zw_0, zw_1, zs_iloadn0, zs_bipush, zs_iclt, zs_icgt, zb_0, za_1, za_2, za_3, za_4, za_5, za_6, za_7, za_8, za_9, za_10, za_11, za_12, za_13, za_14, true_and, and_true, Nat.reduceAdd, e3, e4]
      refine ⟨fun h2 => no ?_, fun h2 => ⟨fun h3 => no ?_, fun h3 => yes ?_⟩⟩
      · unfold zk_L; rw [decide_eq_false h, decide_eq_false (p := 65 ≤ tp p ∧ tp p ≤ 90) (by omega), Bool.or_false, Bool.and_false]
      · unfold zk_L; rw [decide_eq_false h, decide_eq_false (p := 65 ≤ tp p ∧ tp p ≤ 90) (by omega), Bool.or_false, Bool.and_false]
      · unfold zk_L; rw [decide_eq_true c, decide_eq_true (p := 65 ≤ tp p ∧ tp p ≤ 90) (by omega), Bool.or_true]; rfl
    simp only [bX12_isLetterByte_0, zw_0, zw_1, zs_iloadn0, zs_bipush, zs_iclt, zs_icle, zb_0, za_1, za_2, za_3, za_4, za_5, za_6, za_7, za_8, za_9, za_10, za_11, za_12, za_13, za_14, true_and, and_true, Nat.reduceAdd, e1, e2]
    refine ⟨fun h => up (by omega), fun h => ⟨fun h2 => yes ?_, fun h2 => up (by omega)⟩⟩
    unfold zk_L; rw [decide_eq_true c, decide_eq_true (p := 97 ≤ tp p ∧ tp p ≤ 122) (by omega), Bool.true_or]; rfl
  · rw [if_neg c] at no ⊢
    simp only [bX12_isLetterByte_0, zw_0, zw_1, zs_iloadn0, zs_bipush, zs_iclt, zs_icle, zb_0, za_1, za_2, za_3, za_4, za_5, za_6, za_7, za_8, za_9, za_10, za_11, za_12, za_13, za_14, true_and, and_true, Nat.reduceAdd]
    refine ⟨fun h => ?_, fun h => absurd (by decide) h⟩
    refine h12 _ _ _ ?_
    simp only [bX12_isLetterByte_12, zw_0, zw_1, zs_iloadn0, zs_bipush, zs_iclt, zs_icgt, zb_0, za_1, za_2, za_3, za_4, za_5, za_6, za_7, za_8, za_9, za_10, za_11, za_12, za_13, za_14, true_and, and_true, Nat.reduceAdd]
    exact ⟨fun h => no (by rw [decide_eq_false c, Bool.false_and]), fun h => absurd (by decide) h⟩
theorem c_isSign {E : zm_E} (hE : zm_ok E.2.2.1 E.2.2.2.2) (d : Nat) {c : Nat} (hc : c < 256) (M : zm_M) : zm_R E (d + 1) mX12_isSign [.int (nI c)] M (fun r M' => r = some (.int (zi_b (zk_sg c))) ∧ M' = M) := by
  refine zX12_isSign hE rfl (fun G h0 h128 h130 => ?_)
  show G 0 [some (.int (nI c))] [] M
  have ev : ∀ k : Nat, k < 256 → (nI c = nI k) = (c = k) := fun k hk => propext (nI_eq (by omega) (by omega))
  have yes : zk_sg c = true → G 128 [some (.int (nI c))] [] M := by
    intro h
    refine h128 _ _ _ ?_
    simp only [bX12_isSign_128, zw_0, zw_1, zs_iconst, zs_ireturn, zn_int, zn_b0, zn_b1, zb_0, za_1, za_2, za_3, za_4, za_5, za_6, za_7, za_8, za_9, za_10, za_11, za_12, za_13, za_14, true_and, and_true, Nat.reduceAdd]
    rw [h]; rfl
  have no : zk_sg c = false → G 130 [some (.int (nI c))] [] M := by
    intro h
    refine h130 _ _ _ ?_
    simp only [bX12_isSign_130, zw_0, zw_1, zs_iconst, zs_ireturn, zn_int, zn_b0, zn_b1, zb_0, za_1, za_2, za_3, za_4, za_5, za_6, za_7, za_8, za_9, za_10, za_11, za_12, za_13, za_14, true_and, and_true, Nat.reduceAdd]
    rw [h]; rfl
  refine h0 _ _ _ ?_
  simp only [bX12_isSign_0, zw_0, zw_1, zs_iloadn0, zs_tsw, zm_sw, zb_0, za_1, za_2, za_3, za_4, za_5, za_6, za_7, za_8, za_9, za_10, za_11, za_12, za_13, za_14, true_and, and_true, Nat.reduceAdd]
  have ne : ∀ k : Nat, k < 256 → ¬ nI c = nI k → c ≠ k := fun k hk h e => h (by rw [e])
  refine ⟨fun h => yes (by rw [(nI_eq (b := 35) (by omega) (by decide)).mp h]; decide), fun n35 => ?_⟩
  refine ⟨fun h => no (by rw [(nI_eq (b := 36) (by omega) (by decide)).mp h]; decide), fun n36 => ?_⟩
  refine ⟨fun h => no (by rw [(nI_eq (b := 37) (by omega) (by decide)).mp h]; decide), fun n37 => ?_⟩
  refine ⟨fun h => no (by rw [(nI_eq (b := 38) (by omega) (by decide)).mp h]; decide), fun n38 => ?_⟩
  refine ⟨fun h => no (by rw [(nI_eq (b := 39) (by omega) (by decide)).mp h]; decide), fun n39 => ?_⟩
  refine ⟨fun h => yes (by rw [(nI_eq (b := 40) (by omega) (by decide)).mp h]; decide), fun n40 => ?_⟩
  refine ⟨fun h => yes (by rw [(nI_eq (b := 41) (by omega) (by decide)).mp h]; decide), fun n41 => ?_⟩
  refine ⟨fun h => yes (by rw [(nI_eq (b := 42) (by omega) (by decide)).mp h]; decide), fun n42 => ?_⟩
  refine ⟨fun h => yes (by rw [(nI_eq (b := 43) (by omega) (by decide)).mp h]; decide), fun n43 => ?_⟩
  refine ⟨fun h => no (by rw [(nI_eq (b := 44) (by omega) (by decide)).mp h]; decide), fun n44 => ?_⟩
  refine ⟨fun h => yes (by rw [(nI_eq (b := 45) (by omega) (by decide)).mp h]; decide), fun n45 => ?_⟩
  refine ⟨fun h => no (by rw [(nI_eq (b := 46) (by omega) (by decide)).mp h]; decide), fun n46 => ?_⟩
  refine ⟨fun h => yes (by rw [(nI_eq (b := 47) (by omega) (by decide)).mp h]; decide), fun n47 => ?_⟩
  refine ⟨fun h => no (by rw [(nI_eq (b := 48) (by omega) (by decide)).mp h]; decide), fun n48 => ?_⟩
  refine ⟨fun h => no (by rw [(nI_eq (b := 49) (by omega) (by decide)).mp h]; decide), fun n49 => ?_⟩
  refine ⟨fun h => no (by rw [(nI_eq (b := 50) (by omega) (by decide)).mp h]; decide), fun n50 => ?_⟩
  refine ⟨fun h => no (by rw [(nI_eq (b := 51) (by omega) (by decide)).mp h]; decide), fun n51 => ?_⟩
  refine ⟨fun h => no (by rw [(nI_eq (b := 52) (by omega) (by decide)).mp h]; decide), fun n52 => ?_⟩
  refine ⟨fun h => no (by rw [(nI_eq (b := 53) (by omega) (by decide)).mp h]; decide), fun n53 => ?_⟩
  refine ⟨fun h => no (by rw [(nI_eq (b := 54) (by omega) (by decide)).mp h]; decide), fun n54 => ?_⟩
  refine ⟨fun h => no (by rw [(nI_eq (b := 55) (by omega) (by decide)).mp h]; decide), fun n55 => ?_⟩
  refine ⟨fun h => no (by rw [(nI_eq (b := 56) (by omega) (by decide)).mp h]; decide), fun n56 => ?_⟩
  refine ⟨fun h => no (by rw [(nI_eq (b := 57) (by omega) (by decide)).mp h]; decide), fun n57 => ?_⟩
  refine ⟨fun h => yes (by rw [(nI_eq (b := 58) (by omega) (by decide)).mp h]; decide), fun n58 => ?_⟩
  refine ⟨fun h => yes (by rw [(nI_eq (b := 59) (by omega) (by decide)).mp h]; decide), fun n59 => ?_⟩
  refine ⟨fun h => yes (by rw [(nI_eq (b := 60) (by omega) (by decide)).mp h]; decide), fun n60 => ?_⟩
  refine ⟨fun h => yes (by rw [(nI_eq (b := 61) (by omega) (by decide)).mp h]; decide), fun n61 => ?_⟩
  refine ⟨fun h => yes (by rw [(nI_eq (b := 62) (by omega) (by decide)).mp h]; decide), fun n62 => ?_⟩
  have m35 := ne 35 (by decide) n35
  have m40 := ne 40 (by decide) n40
  have m41 := ne 41 (by decide) n41
  have m42 := ne 42 (by decide) n42
  have m43 := ne 43 (by decide) n43
  have m45 := ne 45 (by decide) n45
  have m47 := ne 47 (by decide) n47
  have m58 := ne 58 (by decide) n58
  have m59 := ne 59 (by decide) n59
  have m60 := ne 60 (by decide) n60
  have m61 := ne 61 (by decide) n61
  have m62 := ne 62 (by decide) n62
  refine no ?_
  unfold zk_sg
  rw [decide_eq_false m35, decide_eq_false m45, decide_eq_false m47, decide_eq_false (p := 40 ≤ c ∧ c ≤ 43) (by omega), decide_eq_false (p := 58 ≤ c ∧ c ≤ 62) (by omega)]
  rfl
