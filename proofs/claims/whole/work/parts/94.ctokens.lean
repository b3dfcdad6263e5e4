/-! ===== the class's tokens: all of them ===== -/
/-- the bytes from s to e spell word i -/
def zk_sp (i : Nat) (tp : Nat → Nat) (s e : Nat) : Bool := decide (zz_ln.getD i 0 = e - s) && (List.range (e - s)).all (fun j => decide ((zz_sp.getD i []).getD j 0 = nI (tp (s + j))))
def zk_wf (tp : Nat → Nat) (s e : Nat) : Nat → Nat → Nat
  | 0, _ => 42
  | f + 1, i => if zk_sp i tp s e then i else zk_wf tp s e f (i + 1)
/-- which word they spell -/
def zk_wd (tp : Nat → Nat) (s e : Nat) : Nat := zk_wf tp s e 44 0
theorem zk_wf_in {tp : Nat → Nat} {s e : Nat} : ∀ (f i : Nat), i + f = 44 → zk_wf tp s e f i < 44 := by
  intro f
  induction f with
  | zero => intro i _; simp only [zk_wf]; omega
  | succ f ih =>
    intro i hi
    simp only [zk_wf]
    split
    · omega
    · exact ih (i + 1) (by omega)
theorem zk_wd_in (tp : Nat → Nat) (s e : Nat) : zk_wd tp s e < 44 := zk_wf_in 44 0 (by omega)
/-- the word of the token at s -/
def zk_w (tp : Nat → Nat) (n s : Nat) : Nat := if n ≤ s then 43 else if zk_F (tp s) then 41 else zk_wd tp s (zk_en tp n s)
theorem zk_w_in (tp : Nat → Nat) (n s : Nat) : zk_w tp n s < 44 := by
  unfold zk_w
  have := zk_wd_in tp s (zk_en tp n s)
  split
  · omega
  · split <;> omega
/-- where the tokens begin -/
def zk_st (tp : Nat → Nat) (n : Nat) : Nat → Nat
  | 0 => zk_sk tp n 0
  | k + 1 => zk_sk tp n (zk_en tp n (zk_st tp n k))
theorem zk_rn_ge {P : Nat → Bool} {tp : Nat → Nat} {n : Nat} : ∀ (f g x : Nat), n ≤ x + f → n ≤ x + g → zk_rn P tp n f x = zk_rn P tp n g x := by
  intro f
  induction f with
  | zero =>
    intro g x h1 h2
    cases g with
    | zero => rfl
    | succ g => simp only [zk_rn]; rw [if_neg (by omega)]
  | succ f ih =>
    intro g x h1 h2
    cases g with
    | zero => simp only [zk_rn]; rw [if_neg (by omega)]
    | succ g =>
      simp only [zk_rn]
      by_cases c : x < n ∧ P (tp x) = true
      · rw [if_pos c, if_pos c]; exact ih g (x + 1) (by omega) (by omega)
      · rw [if_neg c, if_neg c]
theorem zk_sk_s {tp : Nat → Nat} {n x : Nat} (hx : x < n) (h : zk_S (tp x) = true) : zk_sk tp n x = zk_sk tp n (x + 1) := by
  unfold zk_sk
  rw [zk_rn_ge n (n + 1) x (by omega) (by omega)]
  simp only [zk_rn]
  rw [if_pos ⟨hx, h⟩]
theorem zk_sk_o {tp : Nat → Nat} {n x : Nat} (h : ¬ (x < n ∧ zk_S (tp x) = true)) : zk_sk tp n x = x := by
  unfold zk_sk
  rw [zk_rn_ge n (n + 1) x (by omega) (by omega)]
  simp only [zk_rn]
  rw [if_neg h]
theorem zk_en_in {tp : Nat → Nat} {n s : Nat} (h : s < n) : s < zk_en tp n s ∧ zk_en tp n s ≤ n := by
  unfold zk_en
  rw [if_neg (by omega)]
  split
  · next hF =>
    obtain ⟨m, hm, em⟩ := zk_rn_1 (tp := tp) h hF
    have := zk_rn_in zk_F tp n m (s + 1)
    rw [em]
    exact ⟨by omega, this.2 (by omega)⟩
  · split
    · next hL =>
      obtain ⟨m, hm, em⟩ := zk_rn_1 (tp := tp) h hL
      have := zk_rn_in zk_L tp n m (s + 1)
      rw [em]
      exact ⟨by omega, this.2 (by omega)⟩
    · split <;> omega
/-- token k lies in the class -/
def zk_tk (tp : Nat → Nat) (n k : Nat) (M : zm_M) : Prop := M.2.2 762 k = some (1000 + zk_w tp n (zk_st tp n k)) ∧ M.1 763 k = nI (zk_st tp n k) ∧ (zk_st tp n k < n → zk_F (tp (zk_st tp n k)) = true → M.1 764 k = nI (zk_nc tp (zk_en tp n (zk_st tp n k) - zk_st tp n k) (zk_st tp n k) 0))
def zk_C (tp : Nat → Nat) (n m : Nat) (M : zm_M) : Prop := M.1 761 6 = nI m ∧ m ≤ 300 ∧ zk_st tp n m = n ∧ (∀ k, k < m → zk_st tp n k < n) ∧ ∀ k, k ≤ m → zk_tk tp n k M
/-- how words are found -/
def zk_W (E : zm_E) : Prop := ∀ (d : Nat) (tp : Nat → Nat) (n s e : Nat) (M : zm_M), zk_tc tp n M → s < e → e ≤ n → zm_R E (d + 6) mX5_wordFrom [.ref 765, .int (nI s), .int (nI e)] M (fun r M' => r = some (.ref (1000 + zk_wd tp s e)) ∧ M' = M)
theorem zm_wr_1 (M : zm_M) (p k : Nat) (v : Option Nat) : (zm_wr M p k v).1 = M.1 := rfl
theorem zm_wr_same (M : zm_M) (p k : Nat) (v : Option Nat) (j : Nat) : (zm_wr M p k v).2.2 p j = if j = k then v else M.2.2 p j := by
  simp only [zm_wr, if_true, va_up]
theorem zm_wr_other {M : zm_M} {p q k : Nat} {v : Option Nat} (h : q ≠ p) : (zm_wr M p k v).2.2 q = M.2.2 q := by
  simp only [zm_wr, if_neg h]
theorem zm_wi_22 (M : zm_M) (p k : Nat) (v : Int32) : (zm_wi M p k v).2.2 = M.2.2 := rfl
/-- a token k is written behind those ahead -/
theorem zk_tk_w {tp : Nat → Nat} {n k i : Nat} {M M' : zm_M} (h : zk_tk tp n i M) (hi : i < k) (e2 : ∀ j, j ≠ k → M'.2.2 762 j = M.2.2 762 j) (e3 : ∀ j, j ≠ k → M'.1 763 j = M.1 763 j) (e4 : ∀ j, j ≠ k → M'.1 764 j = M.1 764 j) : zk_tk tp n i M' := ⟨by rw [e2 i (by omega)]; exact h.1, by rw [e3 i (by omega)]; exact h.2.1, fun a b => by rw [e4 i (by omega)]; exact h.2.2 a b⟩
theorem c5_findTokens {E : zm_E} (hE : zm_ok E.2.2.1 E.2.2.2.2) (hW : zk_W E) (d : Nat) {tp : Nat → Nat} {n : Nat} {M : zm_M} (hT : zk_tc tp n M) {Q : Option Value → zm_M → Prop} (q : ∀ m M', zk_C tp n m M' → zf [761, 762, 763, 764] M M' → zg 761 [6] M M' → M'.2.2 761 = M.2.2 761 → Q none M') : zm_R E (d + 7) mX5_findTokens [.ref 761, .ref 765, .int (nI n)] M Q := by
  refine zX5_findTokens hE rfl (fun G h0 h10 h37 h77 h78 h98 h105 h127 h140 => ?_)
  show G 0 [some (.ref 761), some (.ref 765), some (.int (nI n)), none, none, none] [] M
  have n300 := hT.1
  have last : ∀ (k : Nat) (M1 : zm_M) (l3 l4 l5 : Option Value), k ≤ 300 → M1.1 761 6 = nI k → zk_st tp n k = n → (∀ i, i < k → zk_st tp n i < n ∧ zk_tk tp n i M1) → zf [761, 762, 763, 764] M M1 → zg 761 [6] M M1 → M1.2.2 761 = M.2.2 761 → G 140 [some (.ref 761), some (.ref 765), some (.int (nI n)), l3, l4, l5] [] M1 := by
    intro k M1 l3 l4 l5 hk m6 e hl f1 g1 r1
    have vk : vp_in (nI k) 301 := vp_in_nI (by omega) (by decide)
    have vk2 : (nI k).toNatClampNeg = k := nI_clamp (by omega)
    refine h140 _ _ _ ?_
    simp only [bX5_findTokens_140, zw_0, zw_1, zs_aloadn0, zs_aloadNn0, zg_5_24, zg_5_35, zgs_41, zs_aastore, za_762, zg_5_28, zs_iloadn2, zs_iastore, zs_return, zn_int, zn_b0, zn_b1, zb_15, zb_16, zb_17, za_18, za_19, za_20, za_21, za_22, zb_23, za_24, za_25, za_26, za_27, za_28, za_29, za_30, za_31, za_32, zb_35, za_36, za_37, za_38, za_39, za_40, zb_377, zb_378, za_379, za_380, za_381, za_382, za_383, zb_384, za_385, za_386, za_387, za_388, za_389, za_390, za_391, za_392, za_393, zb_396, za_397, za_398, za_399, za_400, za_401, zb_738, za_739, za_740, za_741, za_742, za_743, za_744, za_745, za_746, za_747, zb_748, za_749, za_750, zb_751, zb_752, za_753, za_754, za_755, za_756, zb_757, za_758, za_759, za_760, zb_761, za_763, za_764, za_765, zu_0, zu_1, zu_2, zu_3, zu_4, zu_5, zu_6, zu_7, zu_8, zu_9, zu_10, zu_11, zu_12, zu_13, zu_14, zu_15, zu_16, zu_17, zu_18, zu_19, zu_20, zu_21, zu_22, zu_23, zu_24, zu_25, zu_26, zu_27, zu_28, zu_29, zu_30, zu_90, zv_0_9, zv_1_9, zv_2_9, zv_3_9, zv_4_9, zv_5_9, zv_6_9, zv_7_9, zv_8_9, zv_0_330, zv_0_4544, zv_1_4544, zv_2_4544, zv_3_4544, zv_4_4544, zv_5_4544, zv_6_4544, zv_7_4544, zv_8_4544, zv_9_4544, zv_10_4544, zv_11_4544, zv_12_4544, zv_13_4544, zv_14_4544, zv_15_4544, zv_16_4544, zv_17_4544, zv_18_4544, zv_19_4544, zv_20_4544, zv_21_4544, zv_22_4544, zv_23_4544, zv_24_4544, zv_25_4544, zv_26_4544, zv_27_4544, zv_28_4544, zv_29_4544, zv_0_11, zv_1_11, zv_0_160, true_and, and_true, Nat.reduceAdd, m6, vk, vk2, zm_wr_1]
    refine ⟨by decide, ?_⟩
    generalize hM2 : zm_wi (zm_wr M1 762 k (some 1043)) 763 k (nI n) = M2
    have f2 : zf [761, 762, 763, 764] M M2 := by rw [← hM2]; exact zf_wi (zf_wr f1 (by decide)) (by decide)
    have e61 : M2.1 761 = M1.1 761 := by rw [← hM2, zm_wi_other (by decide), zm_wr_1]
    have e64 : M2.1 764 = M1.1 764 := by rw [← hM2, zm_wi_other (by decide), zm_wr_1]
    have e62 : ∀ j, M2.2.2 762 j = if j = k then some 1043 else M1.2.2 762 j := fun j => by rw [← hM2, zm_wi_22, zm_wr_same]
    have e63 : ∀ j, M2.1 763 j = if j = k then nI n else M1.1 763 j := fun j => by rw [← hM2, zm_wi_same, zm_wr_1]
    refine q k M2 ⟨by rw [e61]; exact m6, hk, e, fun i hi => (hl i hi).1, fun i hi => ?_⟩ f2 (fun j hj => by rw [e61]; exact g1 j hj) ?_
    · by_cases c : i = k
      · subst c
        refine ⟨?_, ?_, fun z => absurd z (by rw [e]; omega)⟩
        · rw [e62, if_pos rfl, e]
          unfold zk_w
          rw [if_pos (Nat.le_refl _)]
        · rw [e63, if_pos rfl, e]
      · exact zk_tk_w (hl i (by omega)).2 (k := k) (by omega) (fun j hj => by rw [e62, if_neg hj]) (fun j hj => by rw [e63, if_neg hj]) (fun j hj => by rw [e64])
    · rw [← hM2, zm_wi_22, zm_wr_other (by decide)]; exact r1
  have loop : ∀ (f x k y : Nat) (M1 : zm_M) (l5 : Option Value), n ≤ x + f → x ≤ n → y ≤ x → k ≤ x → M1.1 761 6 = nI k → zk_sk tp n x = zk_st tp n k → (∀ i, i < k → zk_st tp n i < n ∧ zk_tk tp n i M1) → zf [761, 762, 763, 764] M M1 → zg 761 [6] M M1 → M1.2.2 761 = M.2.2 761 → G 10 [some (.ref 761), some (.ref 765), some (.int (nI n)), some (.int (nI y)), some (.int (nI x)), l5] [] M1 := by
    intro f
    induction f with
    | zero =>
      intro x k y M1 l5 nx xn yx kx m6 e hl f1 g1 r1
      refine h10 _ _ _ ?_
      simp only [bX5_findTokens_10, zw_0, zw_1, zs_iload4, zs_iloadn2, zs_icge, zs_aloadn1, zs_aloadNn1, zs_caload, zs_bipush, zs_iceq, zs_icne, zs_goto, zb_15, zb_16, zb_17, za_18, za_19, za_20, za_21, za_22, zb_23, za_24, za_25, za_26, za_27, za_28, za_29, za_30, za_31, za_32, zb_35, za_36, za_37, za_38, za_39, za_40, zb_377, zb_378, za_379, za_380, za_381, za_382, za_383, zb_384, za_385, za_386, za_387, za_388, za_389, za_390, za_391, za_392, za_393, zb_396, za_397, za_398, za_399, za_400, za_401, zb_738, za_739, za_740, za_741, za_742, za_743, za_744, za_745, za_746, za_747, zb_748, za_749, za_750, zb_751, zb_752, za_753, za_754, za_755, za_756, zb_757, za_758, za_759, za_760, zb_761, za_763, za_764, za_765, zu_0, zu_1, zu_2, zu_3, zu_4, zu_5, zu_6, zu_7, zu_8, zu_9, zu_10, zu_11, zu_12, zu_13, zu_14, zu_15, zu_16, zu_17, zu_18, zu_19, zu_20, zu_21, zu_22, zu_23, zu_24, zu_25, zu_26, zu_27, zu_28, zu_29, zu_30, zu_90, zv_0_9, zv_1_9, zv_2_9, zv_3_9, zv_4_9, zv_5_9, zv_6_9, zv_7_9, zv_8_9, zv_0_330, zv_0_4544, zv_1_4544, zv_2_4544, zv_3_4544, zv_4_4544, zv_5_4544, zv_6_4544, zv_7_4544, zv_8_4544, zv_9_4544, zv_10_4544, zv_11_4544, zv_12_4544, zv_13_4544, zv_14_4544, zv_15_4544, zv_16_4544, zv_17_4544, zv_18_4544, zv_19_4544, zv_20_4544, zv_21_4544, zv_22_4544, zv_23_4544, zv_24_4544, zv_25_4544, zv_26_4544, zv_27_4544, zv_28_4544, zv_29_4544, zv_0_11, zv_1_11, zv_0_160, true_and, and_true, Nat.reduceAdd]
      refine ⟨fun _ => ?_, fun h => absurd (nI_le (by omega) (by omega)) h⟩
      refine last k M1 _ _ _ (by omega) m6 ?_ hl f1 g1 r1
      rw [← e, zk_sk_o (by omega)]
      omega
    | succ f ih =>
      intro x k y M1 l5 nx xn yx kx m6 e hl f1 g1 r1
      have ex : (nI n ≤ nI x) = (n ≤ x) := propext (nI_leI (by omega) (by omega))
      have vx2 : (nI x).toNatClampNeg = x := nI_clamp (by omega)
      have T1 : zk_tc tp n M1 := ⟨n300, fun i hi => by rw [(f1 765 (by decide)).1]; exact hT.2.1 i hi, hT.2.2⟩
      refine h10 _ _ _ ?_
      simp only [bX5_findTokens_10, zw_0, zw_1, zs_iload4, zs_iloadn2, zs_icge, zs_aloadn1, zs_aloadNn1, zs_caload, zs_bipush, zs_iceq, zs_icne, zs_goto, zb_15, zb_16, zb_17, za_18, za_19, za_20, za_21, za_22, zb_23, za_24, za_25, za_26, za_27, za_28, za_29, za_30, za_31, za_32, zb_35, za_36, za_37, za_38, za_39, za_40, zb_377, zb_378, za_379, za_380, za_381, za_382, za_383, zb_384, za_385, za_386, za_387, za_388, za_389, za_390, za_391, za_392, za_393, zb_396, za_397, za_398, za_399, za_400, za_401, zb_738, za_739, za_740, za_741, za_742, za_743, za_744, za_745, za_746, za_747, zb_748, za_749, za_750, zb_751, zb_752, za_753, za_754, za_755, za_756, zb_757, za_758, za_759, za_760, zb_761, za_763, za_764, za_765, zu_0, zu_1, zu_2, zu_3, zu_4, zu_5, zu_6, zu_7, zu_8, zu_9, zu_10, zu_11, zu_12, zu_13, zu_14, zu_15, zu_16, zu_17, zu_18, zu_19, zu_20, zu_21, zu_22, zu_23, zu_24, zu_25, zu_26, zu_27, zu_28, zu_29, zu_30, zu_90, zv_0_9, zv_1_9, zv_2_9, zv_3_9, zv_4_9, zv_5_9, zv_6_9, zv_7_9, zv_8_9, zv_0_330, zv_0_4544, zv_1_4544, zv_2_4544, zv_3_4544, zv_4_4544, zv_5_4544, zv_6_4544, zv_7_4544, zv_8_4544, zv_9_4544, zv_10_4544, zv_11_4544, zv_12_4544, zv_13_4544, zv_14_4544, zv_15_4544, zv_16_4544, zv_17_4544, zv_18_4544, zv_19_4544, zv_20_4544, zv_21_4544, zv_22_4544, zv_23_4544, zv_24_4544, zv_25_4544, zv_26_4544, zv_27_4544, zv_28_4544, zv_29_4544, zv_0_11, zv_1_11, zv_0_160, true_and, and_true, Nat.reduceAdd, ex, vx2, nI_1]
      refine ⟨fun h => ?_, fun h => ?_⟩
      · refine last k M1 _ _ _ (by omega) m6 ?_ hl f1 g1 r1
        rw [← e, zk_sk_o (by omega)]
        omega
      have hx : x < n := by omega
      have vx : vp_in (nI x) 300 := vp_in_nI (by omega) (by decide)
      have mx := T1.2.1 x hx
      have tl := hT.2.2 x
      have e32 : (nI (tp x) = 32) = (tp x = 32) := propext (nI_eq (b := 32) (by omega) (by decide))
      have e10 : (nI (tp x) = 10) = (tp x = 10) := propext (nI_eq (b := 10) (by omega) (by decide))
      have space : zk_S (tp x) = true → G 127 [some (.ref 761), some (.ref 765), some (.int (nI n)), some (.int (nI y)), some (.int (nI x)), l5] [] M1 := by
        intro hS
        have e7 : (nI y < nI (x + 1)) = True := eq_true (nI_lt (by omega) (by omega))
        refine h127 _ _ _ ?_
        simp only [bX5_findTokens_127, zw_0, zw_1, zs_iloadn3, zs_iload4, zs_iconst, zs_iadd, zi_5_92, zs_istore4, zs_goto, zc_none, zc_int, zc_ref, zc_null, zc_long, zh_0, zh_1, zh_2, zh_3, zh_4, zt_i, zt_l, zt_r, zt_n, zb_15, zb_16, zb_17, za_18, za_19, za_20, za_21, za_22, zb_23, za_24, za_25, za_26, za_27, za_28, za_29, za_30, za_31, za_32, zb_35, za_36, za_37, za_38, za_39, za_40, zb_377, zb_378, za_379, za_380, za_381, za_382, za_383, zb_384, za_385, za_386, za_387, za_388, za_389, za_390, za_391, za_392, za_393, zb_396, za_397, za_398, za_399, za_400, za_401, zb_738, za_739, za_740, za_741, za_742, za_743, za_744, za_745, za_746, za_747, zb_748, za_749, za_750, zb_751, zb_752, za_753, za_754, za_755, za_756, zb_757, za_758, za_759, za_760, zb_761, za_763, za_764, za_765, true_and, and_true, Nat.reduceAdd, nI_1, e7, if_true]
        exact ih (x + 1) k y M1 _ (by omega) (by omega) (by omega) (by omega) m6 (by rw [← e, zk_sk_s hx hS]) hl f1 g1 r1
      rw [mx, e32, e10]
      refine ⟨vx, fun h1 => space (by unfold zk_S; rw [decide_eq_true h1, Bool.true_or]), fun h1 => ⟨vx, fun h2 => ?_, fun h2 => space (by unfold zk_S; rw [decide_eq_true h2, Bool.or_true])⟩⟩
      have nS : ¬ (x < n ∧ zk_S (tp x) = true) := by
        intro z
        have z2 := z.2
        unfold zk_S at z2
        simp only [Bool.or_eq_true, decide_eq_true_eq] at z2
        exact z2.elim h1 h2
      have est : zk_st tp n k = x := by rw [← e, zk_sk_o nS]
      have hen := zk_en_in (tp := tp) hx
      have vk : vp_in (nI k) 301 := vp_in_nI (by omega) (by decide)
      have vk2 : (nI k).toNatClampNeg = k := nI_clamp (by omega)
      have fin : ∀ (M2 : zm_M) (w : Nat) (l5 : Option Value), w = zk_w tp n x → M2.1 761 = M1.1 761 → M2.2.2 = M1.2.2 → M2.1 763 = M1.1 763 → (∀ j, j ≠ k → M2.1 764 j = M1.1 764 j) → (zk_F (tp x) = true → M2.1 764 k = nI (zk_nc tp (zk_en tp n x - x) x 0)) → zf [761, 762, 763, 764] M M2 → G 105 [some (.ref 761), some (.ref 765), some (.int (nI n)), some (.int (nI (zk_en tp n x))), some (.int (nI x)), l5] [.ref (1000 + w), .int (nI k), .ref 762] M2 := by
        intro M2 w l5 hw a61 a22 a63 a64 a64k f2
        have w44 := zk_w_in tp n x
        have b6 : M2.1 761 6 = nI k := by rw [a61]; exact m6
        refine h105 _ _ _ ?_
        have b7 : (zm_wi (zm_wr M2 762 k (some (1000 + w))) 763 k (nI x)).1 761 6 = nI k := by rw [zm_wi_other (by decide), zm_wr_1]; exact b6
        simp only [bX5_findTokens_105, zw_0, zw_1, zs_aastore, za_762, zs_aloadn0, zs_aloadNn0, zg_5_28, zg_5_35, zs_iload4, zs_iastore, zs_dupi, zs_dupr, zs_dupn, zs_iconst, zs_iadd, zq_5_35, zb_15, zb_16, zb_17, za_18, za_19, za_20, za_21, za_22, zb_23, za_24, za_25, za_26, za_27, za_28, za_29, za_30, za_31, za_32, zb_35, za_36, za_37, za_38, za_39, za_40, zb_377, zb_378, za_379, za_380, za_381, za_382, za_383, zb_384, za_385, za_386, za_387, za_388, za_389, za_390, za_391, za_392, za_393, zb_396, za_397, za_398, za_399, za_400, za_401, zb_738, za_739, za_740, za_741, za_742, za_743, za_744, za_745, za_746, za_747, zb_748, za_749, za_750, zb_751, zb_752, za_753, za_754, za_755, za_756, zb_757, za_758, za_759, za_760, zb_761, za_763, za_764, za_765, zu_0, zu_1, zu_2, zu_3, zu_4, zu_5, zu_6, zu_7, zu_8, zu_9, zu_10, zu_11, zu_12, zu_13, zu_14, zu_15, zu_16, zu_17, zu_18, zu_19, zu_20, zu_21, zu_22, zu_23, zu_24, zu_25, zu_26, zu_27, zu_28, zu_29, zu_30, zu_90, zv_0_9, zv_1_9, zv_2_9, zv_3_9, zv_4_9, zv_5_9, zv_6_9, zv_7_9, zv_8_9, zv_0_330, zv_0_4544, zv_1_4544, zv_2_4544, zv_3_4544, zv_4_4544, zv_5_4544, zv_6_4544, zv_7_4544, zv_8_4544, zv_9_4544, zv_10_4544, zv_11_4544, zv_12_4544, zv_13_4544, zv_14_4544, zv_15_4544, zv_16_4544, zv_17_4544, zv_18_4544, zv_19_4544, zv_20_4544, zv_21_4544, zv_22_4544, zv_23_4544, zv_24_4544, zv_25_4544, zv_26_4544, zv_27_4544, zv_28_4544, zv_29_4544, zv_0_11, zv_1_11, zv_0_160, true_and, and_true, Nat.reduceAdd, vk, vk2, zm_wr_1, b6, b7, nI_1]
        refine ⟨by omega, ?_⟩
        generalize hM3 : zm_wi (zm_wi (zm_wr M2 762 k (some (1000 + w))) 763 k (nI x)) 761 6 (nI (k + 1)) = M3
        have f3 : zf [761, 762, 763, 764] M M3 := by rw [← hM3]; exact zf_wi (zf_wi (zf_wr f2 (by decide)) (by decide)) (by decide)
        have c61 : ∀ j, M3.1 761 j = if j = 6 then nI (k + 1) else M1.1 761 j := fun j => by rw [← hM3, zm_wi_same, zm_wi_other (by decide), zm_wr_1, a61]
        have c62 : ∀ j, M3.2.2 762 j = if j = k then some (1000 + w) else M1.2.2 762 j := fun j => by rw [← hM3, zm_wi_22, zm_wi_22, zm_wr_same, a22]
        have c63 : ∀ j, M3.1 763 j = if j = k then nI x else M1.1 763 j := fun j => by rw [← hM3, zm_wi_other (by decide), zm_wi_same, zm_wr_1, a63]
        have c64 : M3.1 764 = M2.1 764 := by rw [← hM3, zm_wi_other (by decide), zm_wi_other (by decide), zm_wr_1]
        have e7 : (nI (zk_en tp n x) < nI (x + 1)) = False := eq_false (fun z => by have := (nI_ltI (by omega) (by omega)).mp z; omega)
        refine h127 _ _ _ ?_
        simp only [bX5_findTokens_127, zw_0, zw_1, zs_iloadn3, zs_iload4, zs_iconst, zs_iadd, zi_5_92, zs_istore4, zs_goto, zc_none, zc_int, zc_ref, zc_null, zc_long, zh_0, zh_1, zh_2, zh_3, zh_4, zt_i, zt_l, zt_r, zt_n, zb_15, zb_16, zb_17, za_18, za_19, za_20, za_21, za_22, zb_23, za_24, za_25, za_26, za_27, za_28, za_29, za_30, za_31, za_32, zb_35, za_36, za_37, za_38, za_39, za_40, zb_377, zb_378, za_379, za_380, za_381, za_382, za_383, zb_384, za_385, za_386, za_387, za_388, za_389, za_390, za_391, za_392, za_393, zb_396, za_397, za_398, za_399, za_400, za_401, zb_738, za_739, za_740, za_741, za_742, za_743, za_744, za_745, za_746, za_747, zb_748, za_749, za_750, zb_751, zb_752, za_753, za_754, za_755, za_756, zb_757, za_758, za_759, za_760, zb_761, za_763, za_764, za_765, true_and, and_true, Nat.reduceAdd, nI_1, e7, if_false]
        refine ih (zk_en tp n x) (k + 1) (zk_en tp n x) M3 _ (by omega) hen.2 (Nat.le_refl _) (by omega) (by rw [c61, if_pos rfl]) ?_ (fun i hi => ?_) f3 (fun j hj => by rw [c61, if_neg (by simpa using hj)]; exact g1 j hj) ?_
        · show _ = zk_sk tp n (zk_en tp n (zk_st tp n k))
          rw [est]
        · by_cases c : i = k
          · subst c
            refine ⟨by rw [est]; exact hx, ?_, ?_, fun _ hF => ?_⟩
            · rw [c62, if_pos rfl, est, hw]
            · rw [c63, if_pos rfl, est]
            · rw [est] at hF ⊢
              rw [c64]; exact a64k hF
          · exact ⟨(hl i (by omega)).1, zk_tk_w (hl i (by omega)).2 (k := k) (by omega) (fun j hj => by rw [c62, if_neg hj]) (fun j hj => by rw [c63, if_neg hj]) (fun j hj => by rw [c64]; exact a64 j hj)⟩
        · rw [← hM3, zm_wi_22, zm_wi_22, zm_wr_other (by decide), a22]; exact r1
      have g78 : ∀ (v : Int32), (zk_F (tp x) = true → v = nI (zk_nc tp (zk_en tp n x - x) x 0)) → G 78 [some (.ref 761), some (.ref 765), some (.int (nI n)), some (.int (nI (zk_en tp n x))), some (.int (nI x)), some (.int (zi_b (zk_F (tp x))))] [.int v, .int (nI k), .ref 764] M1 := by
        intro v hv
        generalize hM2 : zm_wi M1 764 k v = M2
        have f2 : zf [761, 762, 763, 764] M M2 := by rw [← hM2]; exact zf_wi f1 (by decide)
        have a61 : M2.1 761 = M1.1 761 := by rw [← hM2, zm_wi_other (by decide)]
        have a63 : M2.1 763 = M1.1 763 := by rw [← hM2, zm_wi_other (by decide)]
        have a22 : M2.2.2 = M1.2.2 := by rw [← hM2, zm_wi_22]
        have b6 : M2.1 761 6 = nI k := by rw [a61]; exact m6
        have T2 : zk_tc tp n M2 := ⟨n300, fun i hi => by rw [(f2 765 (by decide)).1]; exact hT.2.1 i hi, hT.2.2⟩
        have go := fun w l5 hw => fin M2 w l5 hw a61 a22 a63 (fun j hj => by rw [← hM2, zm_wi_same, if_neg hj]) (fun hF => by rw [← hM2, zm_wi_same, if_pos rfl]; exact hv hF) f2
        refine h78 _ _ _ ?_
        simp only [bX5_findTokens_78, zw_0, zw_1, zs_iastore, zs_aloadn0, zs_aloadNn0, zg_5_24, zg_5_35, zs_iload5, zs_ifeq, zgs_85, zs_goto, zb_15, zb_16, zb_17, za_18, za_19, za_20, za_21, za_22, zb_23, za_24, za_25, za_26, za_27, za_28, za_29, za_30, za_31, za_32, zb_35, za_36, za_37, za_38, za_39, za_40, zb_377, zb_378, za_379, za_380, za_381, za_382, za_383, zb_384, za_385, za_386, za_387, za_388, za_389, za_390, za_391, za_392, za_393, zb_396, za_397, za_398, za_399, za_400, za_401, zb_738, za_739, za_740, za_741, za_742, za_743, za_744, za_745, za_746, za_747, zb_748, za_749, za_750, zb_751, zb_752, za_753, za_754, za_755, za_756, zb_757, za_758, za_759, za_760, zb_761, za_763, za_764, za_765, zu_0, zu_1, zu_2, zu_3, zu_4, zu_5, zu_6, zu_7, zu_8, zu_9, zu_10, zu_11, zu_12, zu_13, zu_14, zu_15, zu_16, zu_17, zu_18, zu_19, zu_20, zu_21, zu_22, zu_23, zu_24, zu_25, zu_26, zu_27, zu_28, zu_29, zu_30, zu_90, zv_0_9, zv_1_9, zv_2_9, zv_3_9, zv_4_9, zv_5_9, zv_6_9, zv_7_9, zv_8_9, zv_0_330, zv_0_4544, zv_1_4544, zv_2_4544, zv_3_4544, zv_4_4544, zv_5_4544, zv_6_4544, zv_7_4544, zv_8_4544, zv_9_4544, zv_10_4544, zv_11_4544, zv_12_4544, zv_13_4544, zv_14_4544, zv_15_4544, zv_16_4544, zv_17_4544, zv_18_4544, zv_19_4544, zv_20_4544, zv_21_4544, zv_22_4544, zv_23_4544, zv_24_4544, zv_25_4544, zv_26_4544, zv_27_4544, zv_28_4544, zv_29_4544, zv_0_11, zv_1_11, zv_0_160, true_and, and_true, Nat.reduceAdd, vk, vk2, hM2, b6, zi_b0]
        refine ⟨fun hF => ?_, fun hF => ?_⟩
        · refine h98 _ _ _ ?_
          simp only [bX5_findTokens_98, zw_0, zw_1, zs_aloadn1, zs_aloadNn1, zs_iload4, zs_iloadn3, zi_5_88, zh_0, zh_1, zh_2, zh_3, zh_4, zt_i, zt_l, zt_r, zt_n, zb_15, zb_16, zb_17, za_18, za_19, za_20, za_21, za_22, zb_23, za_24, za_25, za_26, za_27, za_28, za_29, za_30, za_31, za_32, zb_35, za_36, za_37, za_38, za_39, za_40, zb_377, zb_378, za_379, za_380, za_381, za_382, za_383, zb_384, za_385, za_386, za_387, za_388, za_389, za_390, za_391, za_392, za_393, zb_396, za_397, za_398, za_399, za_400, za_401, zb_738, za_739, za_740, za_741, za_742, za_743, za_744, za_745, za_746, za_747, zb_748, za_749, za_750, zb_751, zb_752, za_753, za_754, za_755, za_756, zb_757, za_758, za_759, za_760, zb_761, za_763, za_764, za_765, true_and, and_true, Nat.reduceAdd]
          refine zm_R_eq (hW d tp n x (zk_en tp n x) M2 T2 hen.1 hen.2) ?_
          simp only [bX5_findTokens_98, zw_0, zw_1, zs_aloadn1, zs_aloadNn1, zs_iload4, zs_iloadn3, zi_5_88, zh_0, zh_1, zh_2, zh_3, zh_4, zt_i, zt_l, zt_r, zt_n, zb_15, zb_16, zb_17, za_18, za_19, za_20, za_21, za_22, zb_23, za_24, za_25, za_26, za_27, za_28, za_29, za_30, za_31, za_32, zb_35, za_36, za_37, za_38, za_39, za_40, zb_377, zb_378, za_379, za_380, za_381, za_382, za_383, zb_384, za_385, za_386, za_387, za_388, za_389, za_390, za_391, za_392, za_393, zb_396, za_397, za_398, za_399, za_400, za_401, zb_738, za_739, za_740, za_741, za_742, za_743, za_744, za_745, za_746, za_747, zb_748, za_749, za_750, zb_751, zb_752, za_753, za_754, za_755, za_756, zb_757, za_758, za_759, za_760, zb_761, za_763, za_764, za_765, true_and, and_true, Nat.reduceAdd]
          exact go _ _ (by unfold zk_w; rw [if_neg (by omega), if_neg (by rw [hF]; decide)])
        · have hF : zk_F (tp x) = true := by simpa using hF
          exact go 41 _ (by unfold zk_w; rw [if_neg (by omega), if_pos hF])
      refine h37 _ _ _ ?_
      simp only [bX5_findTokens_37, zw_0, zw_1, zs_aloadn1, zs_aloadNn1, zs_iload4, zs_iloadn2, zi_5_74, zs_istoren3, zs_caload, zi_5_78, zs_istore5, zs_aloadn0, zs_aloadNn0, zg_5_32, zg_5_35, zs_iload5, zs_ifeq, zs_iloadn3, zi_5_82, zs_goto, zc_none, zc_int, zc_ref, zc_null, zc_long, zh_0, zh_1, zh_2, zh_3, zh_4, zt_i, zt_l, zt_r, zt_n, zb_15, zb_16, zb_17, za_18, za_19, za_20, za_21, za_22, zb_23, za_24, za_25, za_26, za_27, za_28, za_29, za_30, za_31, za_32, zb_35, za_36, za_37, za_38, za_39, za_40, zb_377, zb_378, za_379, za_380, za_381, za_382, za_383, zb_384, za_385, za_386, za_387, za_388, za_389, za_390, za_391, za_392, za_393, zb_396, za_397, za_398, za_399, za_400, za_401, zb_738, za_739, za_740, za_741, za_742, za_743, za_744, za_745, za_746, za_747, zb_748, za_749, za_750, zb_751, zb_752, za_753, za_754, za_755, za_756, zb_757, za_758, za_759, za_760, zb_761, za_763, za_764, za_765, zu_0, zu_1, zu_2, zu_3, zu_4, zu_5, zu_6, zu_7, zu_8, zu_9, zu_10, zu_11, zu_12, zu_13, zu_14, zu_15, zu_16, zu_17, zu_18, zu_19, zu_20, zu_21, zu_22, zu_23, zu_24, zu_25, zu_26, zu_27, zu_28, zu_29, zu_30, zu_90, zv_0_9, zv_1_9, zv_2_9, zv_3_9, zv_4_9, zv_5_9, zv_6_9, zv_7_9, zv_8_9, zv_0_330, zv_0_4544, zv_1_4544, zv_2_4544, zv_3_4544, zv_4_4544, zv_5_4544, zv_6_4544, zv_7_4544, zv_8_4544, zv_9_4544, zv_10_4544, zv_11_4544, zv_12_4544, zv_13_4544, zv_14_4544, zv_15_4544, zv_16_4544, zv_17_4544, zv_18_4544, zv_19_4544, zv_20_4544, zv_21_4544, zv_22_4544, zv_23_4544, zv_24_4544, zv_25_4544, zv_26_4544, zv_27_4544, zv_28_4544, zv_29_4544, zv_0_11, zv_1_11, zv_0_160, true_and, and_true, Nat.reduceAdd]
      refine zm_R_eq (c5_endOfToken hE (d + 4) T1 hx) ?_
      simp only [bX5_findTokens_37, zw_0, zw_1, zs_aloadn1, zs_aloadNn1, zs_iload4, zs_iloadn2, zi_5_74, zs_istoren3, zs_caload, zi_5_78, zs_istore5, zs_aloadn0, zs_aloadNn0, zg_5_32, zg_5_35, zs_iload5, zs_ifeq, zs_iloadn3, zi_5_82, zs_goto, zc_none, zc_int, zc_ref, zc_null, zc_long, zh_0, zh_1, zh_2, zh_3, zh_4, zt_i, zt_l, zt_r, zt_n, zb_15, zb_16, zb_17, za_18, za_19, za_20, za_21, za_22, zb_23, za_24, za_25, za_26, za_27, za_28, za_29, za_30, za_31, za_32, zb_35, za_36, za_37, za_38, za_39, za_40, zb_377, zb_378, za_379, za_380, za_381, za_382, za_383, zb_384, za_385, za_386, za_387, za_388, za_389, za_390, za_391, za_392, za_393, zb_396, za_397, za_398, za_399, za_400, za_401, zb_738, za_739, za_740, za_741, za_742, za_743, za_744, za_745, za_746, za_747, zb_748, za_749, za_750, zb_751, zb_752, za_753, za_754, za_755, za_756, zb_757, za_758, za_759, za_760, zb_761, za_763, za_764, za_765, zu_0, zu_1, zu_2, zu_3, zu_4, zu_5, zu_6, zu_7, zu_8, zu_9, zu_10, zu_11, zu_12, zu_13, zu_14, zu_15, zu_16, zu_17, zu_18, zu_19, zu_20, zu_21, zu_22, zu_23, zu_24, zu_25, zu_26, zu_27, zu_28, zu_29, zu_30, zu_90, zv_0_9, zv_1_9, zv_2_9, zv_3_9, zv_4_9, zv_5_9, zv_6_9, zv_7_9, zv_8_9, zv_0_330, zv_0_4544, zv_1_4544, zv_2_4544, zv_3_4544, zv_4_4544, zv_5_4544, zv_6_4544, zv_7_4544, zv_8_4544, zv_9_4544, zv_10_4544, zv_11_4544, zv_12_4544, zv_13_4544, zv_14_4544, zv_15_4544, zv_16_4544, zv_17_4544, zv_18_4544, zv_19_4544, zv_20_4544, zv_21_4544, zv_22_4544, zv_23_4544, zv_24_4544, zv_25_4544, zv_26_4544, zv_27_4544, zv_28_4544, zv_29_4544, zv_0_11, zv_1_11, zv_0_160, true_and, and_true, Nat.reduceAdd, vx, vx2, mx]
      refine zm_R_eq (c5_isDigit hE (d + 5) tl M1) ?_
      simp only [bX5_findTokens_37, zw_0, zw_1, zs_aloadn1, zs_aloadNn1, zs_iload4, zs_iloadn2, zi_5_74, zs_istoren3, zs_caload, zi_5_78, zs_istore5, zs_aloadn0, zs_aloadNn0, zg_5_32, zg_5_35, zs_iload5, zs_ifeq, zs_iloadn3, zi_5_82, zs_goto, zc_none, zc_int, zc_ref, zc_null, zc_long, zh_0, zh_1, zh_2, zh_3, zh_4, zt_i, zt_l, zt_r, zt_n, zb_15, zb_16, zb_17, za_18, za_19, za_20, za_21, za_22, zb_23, za_24, za_25, za_26, za_27, za_28, za_29, za_30, za_31, za_32, zb_35, za_36, za_37, za_38, za_39, za_40, zb_377, zb_378, za_379, za_380, za_381, za_382, za_383, zb_384, za_385, za_386, za_387, za_388, za_389, za_390, za_391, za_392, za_393, zb_396, za_397, za_398, za_399, za_400, za_401, zb_738, za_739, za_740, za_741, za_742, za_743, za_744, za_745, za_746, za_747, zb_748, za_749, za_750, zb_751, zb_752, za_753, za_754, za_755, za_756, zb_757, za_758, za_759, za_760, zb_761, za_763, za_764, za_765, zu_0, zu_1, zu_2, zu_3, zu_4, zu_5, zu_6, zu_7, zu_8, zu_9, zu_10, zu_11, zu_12, zu_13, zu_14, zu_15, zu_16, zu_17, zu_18, zu_19, zu_20, zu_21, zu_22, zu_23, zu_24, zu_25, zu_26, zu_27, zu_28, zu_29, zu_30, zu_90, zv_0_9, zv_1_9, zv_2_9, zv_3_9, zv_4_9, zv_5_9, zv_6_9, zv_7_9, zv_8_9, zv_0_330, zv_0_4544, zv_1_4544, zv_2_4544, zv_3_4544, zv_4_4544, zv_5_4544, zv_6_4544, zv_7_4544, zv_8_4544, zv_9_4544, zv_10_4544, zv_11_4544, zv_12_4544, zv_13_4544, zv_14_4544, zv_15_4544, zv_16_4544, zv_17_4544, zv_18_4544, zv_19_4544, zv_20_4544, zv_21_4544, zv_22_4544, zv_23_4544, zv_24_4544, zv_25_4544, zv_26_4544, zv_27_4544, zv_28_4544, zv_29_4544, zv_0_11, zv_1_11, zv_0_160, true_and, and_true, Nat.reduceAdd, zi_b0, m6]
      refine ⟨fun hF => ?_, fun hF => ?_⟩
      · refine h77 _ _ _ ?_
        simp only [bX5_findTokens_77, zw_0, zw_1, zs_iconst, zb_15, zb_16, zb_17, za_18, za_19, za_20, za_21, za_22, zb_23, za_24, za_25, za_26, za_27, za_28, za_29, za_30, za_31, za_32, zb_35, za_36, za_37, za_38, za_39, za_40, zb_377, zb_378, za_379, za_380, za_381, za_382, za_383, zb_384, za_385, za_386, za_387, za_388, za_389, za_390, za_391, za_392, za_393, zb_396, za_397, za_398, za_399, za_400, za_401, zb_738, za_739, za_740, za_741, za_742, za_743, za_744, za_745, za_746, za_747, zb_748, za_749, za_750, zb_751, zb_752, za_753, za_754, za_755, za_756, zb_757, za_758, za_759, za_760, zb_761, za_763, za_764, za_765, true_and, and_true, Nat.reduceAdd]
        exact g78 _ (fun z => by rw [hF] at z; exact absurd z (by decide))
      · have hF : zk_F (tp x) = true := by simpa using hF
        have een : zk_en tp n x = zk_rn zk_F tp n n x := by unfold zk_en; rw [if_neg (by omega), if_pos hF]
        refine zm_R_eq (c5_numberFrom hE (d + 5) T1 (by omega) hen.2 (fun j a b => zk_rn_all zk_F tp n n x j a (by rw [← een]; exact b))) ?_
        exact g78 _ (fun _ => rfl)
  refine h0 _ _ _ ?_
  simp only [bX5_findTokens_0, zw_0, zw_1, zs_aloadn0, zs_aloadNn0, zs_iconst, zq_5_35, zs_istoren3, zs_istore4, zc_none, zc_int, zc_ref, zc_null, zc_long, zb_15, zb_16, zb_17, za_18, za_19, za_20, za_21, za_22, zb_23, za_24, za_25, za_26, za_27, za_28, za_29, za_30, za_31, za_32, zb_35, za_36, za_37, za_38, za_39, za_40, zb_377, zb_378, za_379, za_380, za_381, za_382, za_383, zb_384, za_385, za_386, za_387, za_388, za_389, za_390, za_391, za_392, za_393, zb_396, za_397, za_398, za_399, za_400, za_401, zb_738, za_739, za_740, za_741, za_742, za_743, za_744, za_745, za_746, za_747, zb_748, za_749, za_750, zb_751, zb_752, za_753, za_754, za_755, za_756, zb_757, za_758, za_759, za_760, zb_761, za_763, za_764, za_765, true_and, and_true, Nat.reduceAdd]
  exact loop n 0 0 0 _ _ (by omega) (by omega) (by omega) (by omega) (by rw [zm_wi_same, if_pos rfl]; rfl) rfl (fun i hi => absurd hi (by omega)) (zf_wi zf_refl (by decide)) (zg_wi zg_refl (by decide)) rfl
