/-! ===== longest ===== -/
def zl_rm (f : Nat → Int32) (m : Int32) : Nat → Int32
  | 0 => m
  | k + 1 => if zl_rm f m k < f k then f k else zl_rm f m k
theorem zl_rm_0 {f : Nat → Int32} {m : Int32} : zl_rm f m 0 = m := rfl
theorem zl_rm_s1 {f : Nat → Int32} {m : Int32} {k : Nat} (h : zl_rm f m k < f k) : zl_rm f m (k + 1) = f k := by simp only [zl_rm]; rw [if_pos h]
theorem zl_rm_s0 {f : Nat → Int32} {m : Int32} {k : Nat} (h : ¬ zl_rm f m k < f k) : zl_rm f m (k + 1) = zl_rm f m k := by simp only [zl_rm]; rw [if_neg h]
theorem zl_rm_ge (f : Nat → Int32) (m : Int32) : ∀ k, m ≤ zl_rm f m k ∧ (∀ i, i < k → f i ≤ zl_rm f m k) ∧ (zl_rm f m k = m ∨ ∃ i, i < k ∧ zl_rm f m k = f i) := by
  intro k
  induction k with
  | zero => exact ⟨Int32.le_refl _, fun i hi => absurd hi (by omega), Or.inl rfl⟩
  | succ k ih =>
    obtain ⟨h1, h2, h3⟩ := ih
    simp only [zl_rm]
    split
    · next c =>
      refine ⟨Int32.le_trans h1 (Int32.le_of_lt c), fun i hi => ?_, Or.inr ⟨k, by omega, rfl⟩⟩
      by_cases e : i = k
      · subst e; exact Int32.le_refl _
      · exact Int32.le_trans (h2 i (by omega)) (Int32.le_of_lt c)
    · next c =>
      refine ⟨h1, fun i hi => ?_, ?_⟩
      · by_cases e : i = k
        · subst e; exact Int32.not_lt.mp c
        · exact h2 i (by omega)
      · rcases h3 with z | ⟨i, hi, z⟩
        · exact Or.inl z
        · exact Or.inr ⟨i, by omega, z⟩
theorem zl_rm_c {f g : Nat → Int32} {m : Int32} : ∀ k, (∀ i, i < k → f i = g i) → zl_rm f m k = zl_rm g m k := by
  intro k
  induction k with
  | zero => intro _; rfl
  | succ k ih => intro h; simp only [zl_rm]; rw [ih (fun i hi => h i (by omega)), h k (by omega)]
theorem zl_rm_max {f : Nat → Int32} {k : Nat} (h0 : ∃ j, j < k ∧ f j = 0) (m : Int32) : zl_rm f m k = if m < zl_rm f 0 k then zl_rm f 0 k else m := by
  obtain ⟨a1, a2, a3⟩ := zl_rm_ge f m k
  obtain ⟨b1, b2, b3⟩ := zl_rm_ge f 0 k
  obtain ⟨j, hj, ej⟩ := h0
  have up : zl_rm f 0 k ≤ zl_rm f m k := by
    rcases b3 with z | ⟨i, hi, z⟩
    · rw [z, ← ej]; exact a2 j hj
    · rw [z]; exact a2 i hi
  split
  · next c =>
    rcases a3 with z | ⟨i, hi, z⟩
    · exact absurd (z ▸ up) (Int32.not_le.mpr c)
    · exact Int32.le_antisymm (z ▸ b2 i hi) up
  · next c =>
    rcases a3 with z | ⟨i, hi, z⟩
    · exact z
    · exact Int32.le_antisymm (z ▸ Int32.le_trans (b2 i hi) (Int32.not_lt.mp c)) a1
def zt_far (b : Nat → Int32) (n p : Nat) : Int32 := zl_rm (zt_ds b p) 0 n
/-- the first of those that are greatest, and how great -/
def zl_fe (f : Nat → Int32) : Nat → Int32 × Int32
  | 0 => (-1, -1)
  | k + 1 => if (zl_fe f k).2 < f k then (nI k, f k) else zl_fe f k
theorem zl_fe_c {f g : Nat → Int32} : ∀ k, (∀ i, i < k → f i = g i) → zl_fe f k = zl_fe g k := by
  intro k
  induction k with
  | zero => intro _; rfl
  | succ k ih => intro h; simp only [zl_fe]; rw [ih (fun i hi => h i (by omega)), h k (by omega)]
theorem zl_fe_rm {f : Nat → Int32} : ∀ k, (∀ i, i < k → 0 ≤ f i) → (if (zl_fe f k).2 = -1 then 0 else (zl_fe f k).2) = zl_rm f 0 k ∧ (zl_fe f k).2 = (if k = 0 then -1 else zl_rm f 0 k) := by
  intro k
  induction k with
  | zero => intro _; exact ⟨rfl, rfl⟩
  | succ k ih =>
    intro h
    obtain ⟨a, b⟩ := ih (fun i hi => h i (by omega))
    have hf := h k (by omega)
    have g0 := (zl_rm_ge f 0 (k + 1)).1
    have e : (zl_fe f (k + 1)).2 = zl_rm f 0 (k + 1) := by
      simp only [zl_fe, zl_rm]
      by_cases hk : k = 0
      · subst hk
        have b : (zl_fe f 0).2 = -1 := rfl
        rw [b, if_pos (Int32.lt_of_lt_of_le (by decide) hf)]
        show f 0 = if (0 : Int32) < f 0 then f 0 else 0
        split
        · rfl
        · next c => exact Int32.le_antisymm (Int32.not_lt.mp c) hf
      · rw [if_neg hk] at b
        rw [b]
        split
        · rfl
        · exact b
    refine ⟨?_, by rw [e, if_neg (by omega)]⟩
    rw [e, if_neg]
    intro z
    rw [z] at g0
    exact absurd g0 (by decide)
theorem zt_ds_self {n : Nat} {b : Nat → Int32} (_ : zt_wf n b) {p : Nat} (_ : p < n) : zt_ds b p p = 0 := by
  have e : zt_mt b p p = p := by
    unfold zt_mt zt_mtf
    rw [if_pos (by simp [zt_ae])]
  unfold zt_ds
  rw [e, nI_add, show (2 : Int32) = nI 2 from rfl, pk_mul, show zt_rk b p + zt_rk b p = 2 * zt_rk b p by omega, pk_sub (Nat.le_refl _), Nat.sub_self]
  rfl
theorem c_longest {E : zm_E} (hE : zm_ok E.2.2.1 E.2.2.2.2) (d : Nat) {n : Nat} (l : Int32) {M : zm_M} (hw : zt_wf n (fun i => M.1 1 (90 + i))) (hc : M.1 1 0 = nI n) : zm_R E (d + 5) mX12_longest [.ref 0, .int l] M (fun r M' => r = some (.int (if l = 0 then (if (zl_fe (zt_far (fun i => M.1 1 (90 + i)) n) n).2 = -1 then 0 else (zl_fe (zt_far (fun i => M.1 1 (90 + i)) n) n).2) else (zl_fe (zt_far (fun i => M.1 1 (90 + i)) n) n).1)) ∧ M' = M) := by
  refine zX12_longest hE rfl (fun G h0 h7 h21 h47 h59 h65 h71 h79 h88 h89 => ?_)
  show G 0 [some (.ref 0), some (.int l), none, none, none, none] [] M
  have hn := hw.1
  obtain ⟨b, hb⟩ : ∃ b, b = (fun i => M.1 1 (90 + i)) := ⟨_, rfl⟩
  have hwb : zt_wf n b := hb ▸ hw
  have fin : ∀ v l', v = (if l = 0 then (if (zl_fe (zt_far b n) n).2 = -1 then 0 else (zl_fe (zt_far b n) n).2) else (zl_fe (zt_far b n) n).1) → G 89 l' [.int v] M := by
    intro v l' hv
    refine h89 _ _ _ ?_
    simp only [bX12_longest_89, zw_0, zw_1, zs_ireturn, zn_int, zn_b0, zn_b1, zb_0, za_1, za_2, za_3, za_4, za_5, za_6, za_7, za_8, za_9, za_10, za_11, za_12, za_13, za_14, true_and, and_true, Nat.reduceAdd]
    rw [hv, hb]
  have loop : ∀ (f k : Nat) (l5 : Option Value), k + f = n → G 7 [some (.ref 0), some (.int l), some (.int (zl_fe (zt_far b n) k).1), some (.int (zl_fe (zt_far b n) k).2), some (.int (nI k)), l5] [] M := by
    intro f
    induction f with
    | zero =>
      intro k l5 hk
      have hk : k = n := by omega
      subst hk
      refine h7 _ _ _ ?_
      simp only [bX12_longest_7, zw_0, zw_1, zs_iload4, zs_aloadn0, zs_aloadNn0, zg_12_7, zs_iconst, zs_iaload, zs_icge, zs_istore5, zc_none, zc_int, zc_ref, zc_null, zc_long, zb_0, za_1, za_2, za_3, za_4, za_5, za_6, za_7, za_8, za_9, za_10, za_11, za_12, za_13, za_14, zu_0, zu_1, zu_2, zu_3, zu_4, zu_5, zu_6, zu_7, zu_8, zu_9, zu_10, zu_11, zu_12, zu_13, zu_14, zu_15, zu_16, zu_17, zu_18, zu_19, zu_20, zu_21, zu_22, zu_23, zu_24, zu_25, zu_26, zu_27, zu_28, zu_29, zu_30, zu_90, zv_0_9, zv_1_9, zv_2_9, zv_3_9, zv_4_9, zv_5_9, zv_6_9, zv_7_9, zv_8_9, zv_0_330, zv_0_4544, zv_1_4544, zv_2_4544, zv_3_4544, zv_4_4544, zv_5_4544, zv_6_4544, zv_7_4544, zv_8_4544, zv_9_4544, zv_10_4544, zv_11_4544, zv_12_4544, zv_13_4544, zv_14_4544, zv_15_4544, zv_16_4544, zv_17_4544, zv_18_4544, zv_19_4544, zv_20_4544, zv_21_4544, zv_22_4544, zv_23_4544, zv_24_4544, zv_25_4544, zv_26_4544, zv_27_4544, zv_28_4544, zv_29_4544, zv_0_11, zv_1_11, zv_0_160, true_and, and_true, Nat.reduceAdd, hc]
      refine ⟨fun _ => ?_, fun h => absurd (nI_le (Nat.le_refl _) (by omega)) h⟩
      refine h71 _ _ _ ?_
      simp only [bX12_longest_71, zw_0, zw_1, zs_iloadn1, zs_ifeq, zs_iloadn2, zs_goto, zb_0, za_1, za_2, za_3, za_4, za_5, za_6, za_7, za_8, za_9, za_10, za_11, za_12, za_13, za_14, true_and, and_true, Nat.reduceAdd]
      refine ⟨fun hl => ?_, fun hl => fin _ _ (by rw [if_neg hl])⟩
      refine h79 _ _ _ ?_
      simp only [bX12_longest_79, zw_0, zw_1, zs_iloadn3, zs_iconst, zs_icne, zs_goto, zb_0, za_1, za_2, za_3, za_4, za_5, za_6, za_7, za_8, za_9, za_10, za_11, za_12, za_13, za_14, true_and, and_true, Nat.reduceAdd]
      refine ⟨fun h => ?_, fun h => fin _ _ (by rw [if_pos hl, if_pos h])⟩
      refine h88 _ _ _ ?_
      simp only [bX12_longest_88, zw_0, zw_1, zs_iloadn3, zb_0, za_1, za_2, za_3, za_4, za_5, za_6, za_7, za_8, za_9, za_10, za_11, za_12, za_13, za_14, true_and, and_true, Nat.reduceAdd]
      exact fin _ _ (by rw [if_pos hl, if_neg h])
    | succ f ih =>
      intro k l5 hk
      have hk0 : k < n := by omega
      have hmx := zl_rm_max (f := zt_ds b k) (k := n) ⟨k, hk0, zt_ds_self hwb hk0⟩ (zl_fe (zt_far b n) k).2
      have inner : ∀ (g e : Nat), e + g = n → G 21 [some (.ref 0), some (.int l), some (.int (if (zl_fe (zt_far b n) k).2 < zl_rm (zt_ds b k) (zl_fe (zt_far b n) k).2 e then nI k else (zl_fe (zt_far b n) k).1)), some (.int (zl_rm (zt_ds b k) (zl_fe (zt_far b n) k).2 e)), some (.int (nI k)), some (.int (nI e))] [] M := by
        intro g
        induction g with
        | zero =>
          intro e he
          have he : e = n := by omega
          subst he
          refine h21 _ _ _ ?_
          simp only [bX12_longest_21, zw_0, zw_1, zs_iload5, zs_aloadn0, zs_aloadNn0, zg_12_7, zs_iconst, zs_iaload, zs_icge, zs_iload4, zi_12_414, zs_iloadn3, zs_icgt, zs_goto, zh_0, zh_1, zh_2, zh_3, zh_4, zt_i, zt_l, zt_r, zt_n, zb_0, za_1, za_2, za_3, za_4, za_5, za_6, za_7, za_8, za_9, za_10, za_11, za_12, za_13, za_14, zu_0, zu_1, zu_2, zu_3, zu_4, zu_5, zu_6, zu_7, zu_8, zu_9, zu_10, zu_11, zu_12, zu_13, zu_14, zu_15, zu_16, zu_17, zu_18, zu_19, zu_20, zu_21, zu_22, zu_23, zu_24, zu_25, zu_26, zu_27, zu_28, zu_29, zu_30, zu_90, zv_0_9, zv_1_9, zv_2_9, zv_3_9, zv_4_9, zv_5_9, zv_6_9, zv_7_9, zv_8_9, zv_0_330, zv_0_4544, zv_1_4544, zv_2_4544, zv_3_4544, zv_4_4544, zv_5_4544, zv_6_4544, zv_7_4544, zv_8_4544, zv_9_4544, zv_10_4544, zv_11_4544, zv_12_4544, zv_13_4544, zv_14_4544, zv_15_4544, zv_16_4544, zv_17_4544, zv_18_4544, zv_19_4544, zv_20_4544, zv_21_4544, zv_22_4544, zv_23_4544, zv_24_4544, zv_25_4544, zv_26_4544, zv_27_4544, zv_28_4544, zv_29_4544, zv_0_11, zv_1_11, zv_0_160, true_and, and_true, Nat.reduceAdd, hc]
          refine ⟨fun _ => ?_, fun h => absurd (nI_le (Nat.le_refl _) (by omega)) h⟩
          refine h65 _ _ _ ?_
          simp only [bX12_longest_65, zw_0, zw_1, zs_iinc4, zs_goto, zc_none, zc_int, zc_ref, zc_null, zc_long, zb_0, za_1, za_2, za_3, za_4, za_5, za_6, za_7, za_8, za_9, za_10, za_11, za_12, za_13, za_14, true_and, and_true, Nat.reduceAdd]
          rw [nI_1]
          have := ih (k + 1) (some (.int (nI e))) (by omega)
          simp only [zl_fe] at this
          rw [hmx]
          by_cases c : (zl_fe (zt_far b e) k).2 < zt_far b e k
          · rw [if_pos c] at this
            have c' : (zl_fe (zt_far b e) k).2 < zl_rm (zt_ds b k) 0 e := c
            rw [if_pos c', if_pos c']
            exact this
          · rw [if_neg c] at this
            have c' : ¬ (zl_fe (zt_far b e) k).2 < zl_rm (zt_ds b k) 0 e := c
            rw [if_neg c', if_neg (Int32.lt_irrefl)]
            exact this
        | succ g ihg =>
          intro e he
          have nx : ∀ v w, v = (if (zl_fe (zt_far b n) k).2 < zl_rm (zt_ds b k) (zl_fe (zt_far b n) k).2 (e + 1) then nI k else (zl_fe (zt_far b n) k).1) → w = zl_rm (zt_ds b k) (zl_fe (zt_far b n) k).2 (e + 1) → G 59 [some (.ref 0), some (.int l), some (.int v), some (.int w), some (.int (nI k)), some (.int (nI e))] [] M := by
            intro v w hv hw
            refine h59 _ _ _ ?_
            simp only [bX12_longest_59, zw_0, zw_1, zs_iinc5, zs_goto, zc_none, zc_int, zc_ref, zc_null, zc_long, zb_0, za_1, za_2, za_3, za_4, za_5, za_6, za_7, za_8, za_9, za_10, za_11, za_12, za_13, za_14, true_and, and_true, Nat.reduceAdd]
            rw [hv, hw, nI_1]
            exact ihg (e + 1) (by omega)
          refine h21 _ _ _ ?_
          simp only [bX12_longest_21, zw_0, zw_1, zs_iload5, zs_aloadn0, zs_aloadNn0, zg_12_7, zs_iconst, zs_iaload, zs_icge, zs_iload4, zi_12_414, zs_iloadn3, zs_icgt, zs_goto, zh_0, zh_1, zh_2, zh_3, zh_4, zt_i, zt_l, zt_r, zt_n, zb_0, za_1, za_2, za_3, za_4, za_5, za_6, za_7, za_8, za_9, za_10, za_11, za_12, za_13, za_14, zu_0, zu_1, zu_2, zu_3, zu_4, zu_5, zu_6, zu_7, zu_8, zu_9, zu_10, zu_11, zu_12, zu_13, zu_14, zu_15, zu_16, zu_17, zu_18, zu_19, zu_20, zu_21, zu_22, zu_23, zu_24, zu_25, zu_26, zu_27, zu_28, zu_29, zu_30, zu_90, zv_0_9, zv_1_9, zv_2_9, zv_3_9, zv_4_9, zv_5_9, zv_6_9, zv_7_9, zv_8_9, zv_0_330, zv_0_4544, zv_1_4544, zv_2_4544, zv_3_4544, zv_4_4544, zv_5_4544, zv_6_4544, zv_7_4544, zv_8_4544, zv_9_4544, zv_10_4544, zv_11_4544, zv_12_4544, zv_13_4544, zv_14_4544, zv_15_4544, zv_16_4544, zv_17_4544, zv_18_4544, zv_19_4544, zv_20_4544, zv_21_4544, zv_22_4544, zv_23_4544, zv_24_4544, zv_25_4544, zv_26_4544, zv_27_4544, zv_28_4544, zv_29_4544, zv_0_11, zv_1_11, zv_0_160, true_and, and_true, Nat.reduceAdd, hc]
          refine ⟨fun h => absurd h (nI_ge (by omega) (by omega)), fun _ => ?_⟩
          refine zm_R_eq (c_stepsOf hE d hw hc hk0 (show e < n by omega)) ?_
          rw [← hb]
          simp only [bX12_longest_21, zw_0, zw_1, zs_iload5, zs_aloadn0, zs_aloadNn0, zg_12_7, zs_iconst, zs_iaload, zs_icge, zs_iload4, zi_12_414, zs_iloadn3, zs_icgt, zs_goto, zh_0, zh_1, zh_2, zh_3, zh_4, zt_i, zt_l, zt_r, zt_n, zb_0, za_1, za_2, za_3, za_4, za_5, za_6, za_7, za_8, za_9, za_10, za_11, za_12, za_13, za_14, zu_0, zu_1, zu_2, zu_3, zu_4, zu_5, zu_6, zu_7, zu_8, zu_9, zu_10, zu_11, zu_12, zu_13, zu_14, zu_15, zu_16, zu_17, zu_18, zu_19, zu_20, zu_21, zu_22, zu_23, zu_24, zu_25, zu_26, zu_27, zu_28, zu_29, zu_30, zu_90, zv_0_9, zv_1_9, zv_2_9, zv_3_9, zv_4_9, zv_5_9, zv_6_9, zv_7_9, zv_8_9, zv_0_330, zv_0_4544, zv_1_4544, zv_2_4544, zv_3_4544, zv_4_4544, zv_5_4544, zv_6_4544, zv_7_4544, zv_8_4544, zv_9_4544, zv_10_4544, zv_11_4544, zv_12_4544, zv_13_4544, zv_14_4544, zv_15_4544, zv_16_4544, zv_17_4544, zv_18_4544, zv_19_4544, zv_20_4544, zv_21_4544, zv_22_4544, zv_23_4544, zv_24_4544, zv_25_4544, zv_26_4544, zv_27_4544, zv_28_4544, zv_29_4544, zv_0_11, zv_1_11, zv_0_160, true_and, and_true, Nat.reduceAdd]
          have hge := (zl_rm_ge (zt_ds b k) (zl_fe (zt_far b n) k).2 e).1
          refine ⟨fun h => ?_, fun h => nx _ _ (by rw [zl_rm_s0 h]) (by rw [zl_rm_s0 h])⟩
          refine h47 _ _ _ ?_
          simp only [bX12_longest_47, zw_0, zw_1, zs_aloadn0, zs_aloadNn0, zs_iload4, zs_iload5, zi_12_414, zs_istoren3, zs_istoren2, zc_none, zc_int, zc_ref, zc_null, zc_long, zh_0, zh_1, zh_2, zh_3, zh_4, zt_i, zt_l, zt_r, zt_n, zb_0, za_1, za_2, za_3, za_4, za_5, za_6, za_7, za_8, za_9, za_10, za_11, za_12, za_13, za_14, true_and, and_true, Nat.reduceAdd]
          refine zm_R_eq (c_stepsOf hE d hw hc hk0 (show e < n by omega)) ?_
          rw [← hb]
          simp only [bX12_longest_47, zw_0, zw_1, zs_aloadn0, zs_aloadNn0, zs_iload4, zs_iload5, zi_12_414, zs_istoren3, zs_istoren2, zc_none, zc_int, zc_ref, zc_null, zc_long, zh_0, zh_1, zh_2, zh_3, zh_4, zt_i, zt_l, zt_r, zt_n, zb_0, za_1, za_2, za_3, za_4, za_5, za_6, za_7, za_8, za_9, za_10, za_11, za_12, za_13, za_14, true_and, and_true, Nat.reduceAdd]
          refine nx _ _ ?_ (by rw [zl_rm_s1 h])
          rw [zl_rm_s1 h, if_pos (Int32.lt_of_le_of_lt hge h)]
      refine h7 _ _ _ ?_
      simp only [bX12_longest_7, zw_0, zw_1, zs_iload4, zs_aloadn0, zs_aloadNn0, zg_12_7, zs_iconst, zs_iaload, zs_icge, zs_istore5, zc_none, zc_int, zc_ref, zc_null, zc_long, zb_0, za_1, za_2, za_3, za_4, za_5, za_6, za_7, za_8, za_9, za_10, za_11, za_12, za_13, za_14, zu_0, zu_1, zu_2, zu_3, zu_4, zu_5, zu_6, zu_7, zu_8, zu_9, zu_10, zu_11, zu_12, zu_13, zu_14, zu_15, zu_16, zu_17, zu_18, zu_19, zu_20, zu_21, zu_22, zu_23, zu_24, zu_25, zu_26, zu_27, zu_28, zu_29, zu_30, zu_90, zv_0_9, zv_1_9, zv_2_9, zv_3_9, zv_4_9, zv_5_9, zv_6_9, zv_7_9, zv_8_9, zv_0_330, zv_0_4544, zv_1_4544, zv_2_4544, zv_3_4544, zv_4_4544, zv_5_4544, zv_6_4544, zv_7_4544, zv_8_4544, zv_9_4544, zv_10_4544, zv_11_4544, zv_12_4544, zv_13_4544, zv_14_4544, zv_15_4544, zv_16_4544, zv_17_4544, zv_18_4544, zv_19_4544, zv_20_4544, zv_21_4544, zv_22_4544, zv_23_4544, zv_24_4544, zv_25_4544, zv_26_4544, zv_27_4544, zv_28_4544, zv_29_4544, zv_0_11, zv_1_11, zv_0_160, true_and, and_true, Nat.reduceAdd, hc]
      refine ⟨fun h => absurd h (nI_ge (by omega) (by omega)), fun _ => ?_⟩
      have := inner n 0 (by omega)
      rw [zl_rm_0, if_neg (Int32.lt_irrefl)] at this
      exact this
  refine h0 _ _ _ ?_
  simp only [bX12_longest_0, zw_0, zw_1, zs_iconst, zs_istoren2, zs_istoren3, zs_istore4, zc_none, zc_int, zc_ref, zc_null, zc_long, zb_0, za_1, za_2, za_3, za_4, za_5, za_6, za_7, za_8, za_9, za_10, za_11, za_12, za_13, za_14, true_and, and_true, Nat.reduceAdd]
  exact loop n 0 none (by omega)
theorem c8_farthestFrom {E : zm_E} (hE : zm_ok E.2.2.1 E.2.2.2.2) (d : Nat) {n p : Nat} {M : zm_M} (hw : zs_rk n M) (hc : M.1 17 0 = nI n) (hp : p < n) : zm_R E (d + 4) mX8_farthestFrom [.ref 752, .int (nI p)] M (fun r M' => r = some (.int (zt_far (M.1 18) n p)) ∧ M' = M) := by
  refine zX8_farthestFrom hE rfl (fun G h0 h4 h35 => ?_)
  show G 0 [some (.ref 752), some (.int (nI p)), none, none] [] M
  have hn := hw.1.1
  have loop : ∀ (f k : Nat), k + f = n → G 4 [some (.ref 752), some (.int (nI p)), some (.int (zl_rm (zt_ds (M.1 18) p) 0 k)), some (.int (nI k))] [] M := by
    intro f
    induction f with
    | zero =>
      intro k hk
      have hk : k = n := by omega
      subst hk
      refine h4 _ _ _ ?_
      simp only [bX8_farthestFrom_4, zw_0, zw_1, zs_iloadn3, zs_aloadn0, zs_aloadNn0, zg_8_24, zg_8_34, zs_icge, zs_iloadn2, zs_iloadn1, zi_8_66, zi_8_56, zs_istoren2, zs_iinc3, zs_goto, zc_none, zc_int, zc_ref, zc_null, zc_long, zh_0, zh_1, zh_2, zh_3, zh_4, zt_i, zt_l, zt_r, zt_n, zb_15, zb_16, zb_17, za_18, za_19, za_20, za_21, za_22, zb_23, za_24, za_25, za_26, za_27, za_28, za_29, za_30, za_31, za_32, zb_35, za_36, za_37, za_38, za_39, za_40, zb_377, zb_378, za_379, za_380, za_381, za_382, za_383, zb_384, za_385, za_386, za_387, za_388, za_389, za_390, za_391, za_392, za_393, zb_396, za_397, za_398, za_399, za_400, za_401, zb_738, za_739, za_740, za_741, za_742, za_743, za_744, za_745, za_746, za_747, zb_748, za_749, za_750, zb_751, zb_752, za_753, za_754, za_755, za_756, zb_757, za_758, za_759, za_760, zb_761, za_763, za_764, za_765, true_and, and_true, Nat.reduceAdd, hc]
      refine ⟨fun _ => ?_, fun h => absurd (nI_le (Nat.le_refl _) (by omega)) h⟩
      refine h35 _ _ _ ?_
      simp only [bX8_farthestFrom_35, zw_0, zw_1, zs_iloadn2, zs_ireturn, zn_int, zn_b0, zn_b1, zb_15, zb_16, zb_17, za_18, za_19, za_20, za_21, za_22, zb_23, za_24, za_25, za_26, za_27, za_28, za_29, za_30, za_31, za_32, zb_35, za_36, za_37, za_38, za_39, za_40, zb_377, zb_378, za_379, za_380, za_381, za_382, za_383, zb_384, za_385, za_386, za_387, za_388, za_389, za_390, za_391, za_392, za_393, zb_396, za_397, za_398, za_399, za_400, za_401, zb_738, za_739, za_740, za_741, za_742, za_743, za_744, za_745, za_746, za_747, zb_748, za_749, za_750, zb_751, zb_752, za_753, za_754, za_755, za_756, zb_757, za_758, za_759, za_760, zb_761, za_763, za_764, za_765, true_and, and_true, Nat.reduceAdd]
      rfl
    | succ f ih =>
      intro k hk
      refine h4 _ _ _ ?_
      simp only [bX8_farthestFrom_4, zw_0, zw_1, zs_iloadn3, zs_aloadn0, zs_aloadNn0, zg_8_24, zg_8_34, zs_icge, zs_iloadn2, zs_iloadn1, zi_8_66, zi_8_56, zs_istoren2, zs_iinc3, zs_goto, zc_none, zc_int, zc_ref, zc_null, zc_long, zh_0, zh_1, zh_2, zh_3, zh_4, zt_i, zt_l, zt_r, zt_n, zb_15, zb_16, zb_17, za_18, za_19, za_20, za_21, za_22, zb_23, za_24, za_25, za_26, za_27, za_28, za_29, za_30, za_31, za_32, zb_35, za_36, za_37, za_38, za_39, za_40, zb_377, zb_378, za_379, za_380, za_381, za_382, za_383, zb_384, za_385, za_386, za_387, za_388, za_389, za_390, za_391, za_392, za_393, zb_396, za_397, za_398, za_399, za_400, za_401, zb_738, za_739, za_740, za_741, za_742, za_743, za_744, za_745, za_746, za_747, zb_748, za_749, za_750, zb_751, zb_752, za_753, za_754, za_755, za_756, zb_757, za_758, za_759, za_760, zb_761, za_763, za_764, za_765, true_and, and_true, Nat.reduceAdd, hc]
      refine ⟨fun h => absurd h (nI_ge (by omega) (by omega)), fun _ => ?_⟩
      refine zm_R_eq (c7_distance hE d hw hp (show k < n by omega)) ?_
      simp only [bX8_farthestFrom_4, zw_0, zw_1, zs_iloadn3, zs_aloadn0, zs_aloadNn0, zg_8_24, zg_8_34, zs_icge, zs_iloadn2, zs_iloadn1, zi_8_66, zi_8_56, zs_istoren2, zs_iinc3, zs_goto, zc_none, zc_int, zc_ref, zc_null, zc_long, zh_0, zh_1, zh_2, zh_3, zh_4, zt_i, zt_l, zt_r, zt_n, zb_15, zb_16, zb_17, za_18, za_19, za_20, za_21, za_22, zb_23, za_24, za_25, za_26, za_27, za_28, za_29, za_30, za_31, za_32, zb_35, za_36, za_37, za_38, za_39, za_40, zb_377, zb_378, za_379, za_380, za_381, za_382, za_383, zb_384, za_385, za_386, za_387, za_388, za_389, za_390, za_391, za_392, za_393, zb_396, za_397, za_398, za_399, za_400, za_401, zb_738, za_739, za_740, za_741, za_742, za_743, za_744, za_745, za_746, za_747, zb_748, za_749, za_750, zb_751, zb_752, za_753, za_754, za_755, za_756, zb_757, za_758, za_759, za_760, zb_761, za_763, za_764, za_765, true_and, and_true, Nat.reduceAdd]
      rw [nI_1]
      exact ih (k + 1) (by omega)
  refine h0 _ _ _ ?_
  simp only [bX8_farthestFrom_0, zw_0, zw_1, zs_iconst, zs_istoren2, zs_istoren3, zc_none, zc_int, zc_ref, zc_null, zc_long, zb_15, zb_16, zb_17, za_18, za_19, za_20, za_21, za_22, zb_23, za_24, za_25, za_26, za_27, za_28, za_29, za_30, za_31, za_32, zb_35, za_36, za_37, za_38, za_39, za_40, zb_377, zb_378, za_379, za_380, za_381, za_382, za_383, zb_384, za_385, za_386, za_387, za_388, za_389, za_390, za_391, za_392, za_393, zb_396, za_397, za_398, za_399, za_400, za_401, zb_738, za_739, za_740, za_741, za_742, za_743, za_744, za_745, za_746, za_747, zb_748, za_749, za_750, zb_751, zb_752, za_753, za_754, za_755, za_756, zb_757, za_758, za_759, za_760, zb_761, za_763, za_764, za_765, true_and, and_true, Nat.reduceAdd]
  exact loop n 0 (by omega)
theorem c8_diameter {E : zm_E} (hE : zm_ok E.2.2.1 E.2.2.2.2) (d : Nat) {n : Nat} {M : zm_M} (hw : zs_rk n M) (hc : M.1 17 0 = nI n) : zm_R E (d + 5) mX8_diameter [.ref 752] M (fun r M' => r = some (.int (zl_rm (zt_far (M.1 18) n) 0 n)) ∧ M' = M) := by
  refine zX8_diameter hE rfl (fun G h0 h4 h31 => ?_)
  show G 0 [some (.ref 752), none, none] [] M
  have hn := hw.1.1
  have loop : ∀ (f k : Nat), k + f = n → G 4 [some (.ref 752), some (.int (zl_rm (zt_far (M.1 18) n) 0 k)), some (.int (nI k))] [] M := by
    intro f
    induction f with
    | zero =>
      intro k hk
      have hk : k = n := by omega
      subst hk
      refine h4 _ _ _ ?_
      simp only [bX8_diameter_4, zw_0, zw_1, zs_iloadn2, zs_aloadn0, zs_aloadNn0, zg_8_24, zg_8_34, zs_icge, zs_iloadn1, zi_8_69, zi_8_56, zs_istoren1, zs_iinc2, zs_goto, zc_none, zc_int, zc_ref, zc_null, zc_long, zh_0, zh_1, zh_2, zh_3, zh_4, zt_i, zt_l, zt_r, zt_n, zb_15, zb_16, zb_17, za_18, za_19, za_20, za_21, za_22, zb_23, za_24, za_25, za_26, za_27, za_28, za_29, za_30, za_31, za_32, zb_35, za_36, za_37, za_38, za_39, za_40, zb_377, zb_378, za_379, za_380, za_381, za_382, za_383, zb_384, za_385, za_386, za_387, za_388, za_389, za_390, za_391, za_392, za_393, zb_396, za_397, za_398, za_399, za_400, za_401, zb_738, za_739, za_740, za_741, za_742, za_743, za_744, za_745, za_746, za_747, zb_748, za_749, za_750, zb_751, zb_752, za_753, za_754, za_755, za_756, zb_757, za_758, za_759, za_760, zb_761, za_763, za_764, za_765, true_and, and_true, Nat.reduceAdd, hc]
      refine ⟨fun _ => ?_, fun h => absurd (nI_le (Nat.le_refl _) (by omega)) h⟩
      refine h31 _ _ _ ?_
      simp only [bX8_diameter_31, zw_0, zw_1, zs_iloadn1, zs_ireturn, zn_int, zn_b0, zn_b1, zb_15, zb_16, zb_17, za_18, za_19, za_20, za_21, za_22, zb_23, za_24, za_25, za_26, za_27, za_28, za_29, za_30, za_31, za_32, zb_35, za_36, za_37, za_38, za_39, za_40, zb_377, zb_378, za_379, za_380, za_381, za_382, za_383, zb_384, za_385, za_386, za_387, za_388, za_389, za_390, za_391, za_392, za_393, zb_396, za_397, za_398, za_399, za_400, za_401, zb_738, za_739, za_740, za_741, za_742, za_743, za_744, za_745, za_746, za_747, zb_748, za_749, za_750, zb_751, zb_752, za_753, za_754, za_755, za_756, zb_757, za_758, za_759, za_760, zb_761, za_763, za_764, za_765, true_and, and_true, Nat.reduceAdd]
    | succ f ih =>
      intro k hk
      refine h4 _ _ _ ?_
      simp only [bX8_diameter_4, zw_0, zw_1, zs_iloadn2, zs_aloadn0, zs_aloadNn0, zg_8_24, zg_8_34, zs_icge, zs_iloadn1, zi_8_69, zi_8_56, zs_istoren1, zs_iinc2, zs_goto, zc_none, zc_int, zc_ref, zc_null, zc_long, zh_0, zh_1, zh_2, zh_3, zh_4, zt_i, zt_l, zt_r, zt_n, zb_15, zb_16, zb_17, za_18, za_19, za_20, za_21, za_22, zb_23, za_24, za_25, za_26, za_27, za_28, za_29, za_30, za_31, za_32, zb_35, za_36, za_37, za_38, za_39, za_40, zb_377, zb_378, za_379, za_380, za_381, za_382, za_383, zb_384, za_385, za_386, za_387, za_388, za_389, za_390, za_391, za_392, za_393, zb_396, za_397, za_398, za_399, za_400, za_401, zb_738, za_739, za_740, za_741, za_742, za_743, za_744, za_745, za_746, za_747, zb_748, za_749, za_750, zb_751, zb_752, za_753, za_754, za_755, za_756, zb_757, za_758, za_759, za_760, zb_761, za_763, za_764, za_765, true_and, and_true, Nat.reduceAdd, hc]
      refine ⟨fun h => absurd h (nI_ge (by omega) (by omega)), fun _ => ?_⟩
      refine zm_R_eq (c8_farthestFrom hE d hw hc (show k < n by omega)) ?_
      simp only [bX8_diameter_4, zw_0, zw_1, zs_iloadn2, zs_aloadn0, zs_aloadNn0, zg_8_24, zg_8_34, zs_icge, zs_iloadn1, zi_8_69, zi_8_56, zs_istoren1, zs_iinc2, zs_goto, zc_none, zc_int, zc_ref, zc_null, zc_long, zh_0, zh_1, zh_2, zh_3, zh_4, zt_i, zt_l, zt_r, zt_n, zb_15, zb_16, zb_17, za_18, za_19, za_20, za_21, za_22, zb_23, za_24, za_25, za_26, za_27, za_28, za_29, za_30, za_31, za_32, zb_35, za_36, za_37, za_38, za_39, za_40, zb_377, zb_378, za_379, za_380, za_381, za_382, za_383, zb_384, za_385, za_386, za_387, za_388, za_389, za_390, za_391, za_392, za_393, zb_396, za_397, za_398, za_399, za_400, za_401, zb_738, za_739, za_740, za_741, za_742, za_743, za_744, za_745, za_746, za_747, zb_748, za_749, za_750, zb_751, zb_752, za_753, za_754, za_755, za_756, zb_757, za_758, za_759, za_760, zb_761, za_763, za_764, za_765, true_and, and_true, Nat.reduceAdd]
      rw [nI_1]
      exact ih (k + 1) (by omega)
  refine h0 _ _ _ ?_
  simp only [bX8_diameter_0, zw_0, zw_1, zs_iconst, zs_istoren1, zs_istoren2, zc_none, zc_int, zc_ref, zc_null, zc_long, zb_15, zb_16, zb_17, za_18, za_19, za_20, za_21, za_22, zb_23, za_24, za_25, za_26, za_27, za_28, za_29, za_30, za_31, za_32, zb_35, za_36, za_37, za_38, za_39, za_40, zb_377, zb_378, za_379, za_380, za_381, za_382, za_383, zb_384, za_385, za_386, za_387, za_388, za_389, za_390, za_391, za_392, za_393, zb_396, za_397, za_398, za_399, za_400, za_401, zb_738, za_739, za_740, za_741, za_742, za_743, za_744, za_745, za_746, za_747, zb_748, za_749, za_750, zb_751, zb_752, za_753, za_754, za_755, za_756, zb_757, za_758, za_759, za_760, zb_761, za_763, za_764, za_765, true_and, and_true, Nat.reduceAdd]
  exact loop n 0 (by omega)
theorem c8_farEnd {E : zm_E} (hE : zm_ok E.2.2.1 E.2.2.2.2) (d : Nat) {n : Nat} {M : zm_M} (hw : zs_rk n M) (hc : M.1 17 0 = nI n) : zm_R E (d + 5) mX8_farEnd [.ref 752] M (fun r M' => r = some (.int (zl_fe (zt_far (M.1 18) n) n).1) ∧ M' = M) := by
  refine zX8_farEnd hE rfl (fun G h0 h6 h35 h41 => ?_)
  show G 0 [some (.ref 752), none, none, none, none] [] M
  have hn := hw.1.1
  have loop : ∀ (f k : Nat) (l4 : Option Value), k + f = n → G 6 [some (.ref 752), some (.int (zl_fe (zt_far (M.1 18) n) k).1), some (.int (zl_fe (zt_far (M.1 18) n) k).2), some (.int (nI k)), l4] [] M := by
    intro f
    induction f with
    | zero =>
      intro k l4 hk
      have hk : k = n := by omega
      subst hk
      refine h6 _ _ _ ?_
      simp only [bX8_farEnd_6, zw_0, zw_1, zs_iloadn3, zs_aloadn0, zs_aloadNn0, zg_8_24, zg_8_34, zs_icge, zi_8_69, zs_istore4, zs_iload4, zs_iloadn2, zs_icle, zs_istoren2, zs_istoren1, zc_none, zc_int, zc_ref, zc_null, zc_long, zh_0, zh_1, zh_2, zh_3, zh_4, zt_i, zt_l, zt_r, zt_n, zb_15, zb_16, zb_17, za_18, za_19, za_20, za_21, za_22, zb_23, za_24, za_25, za_26, za_27, za_28, za_29, za_30, za_31, za_32, zb_35, za_36, za_37, za_38, za_39, za_40, zb_377, zb_378, za_379, za_380, za_381, za_382, za_383, zb_384, za_385, za_386, za_387, za_388, za_389, za_390, za_391, za_392, za_393, zb_396, za_397, za_398, za_399, za_400, za_401, zb_738, za_739, za_740, za_741, za_742, za_743, za_744, za_745, za_746, za_747, zb_748, za_749, za_750, zb_751, zb_752, za_753, za_754, za_755, za_756, zb_757, za_758, za_759, za_760, zb_761, za_763, za_764, za_765, true_and, and_true, Nat.reduceAdd, hc]
      refine ⟨fun _ => ?_, fun h => absurd (nI_le (Nat.le_refl _) (by omega)) h⟩
      refine h41 _ _ _ ?_
      simp only [bX8_farEnd_41, zw_0, zw_1, zs_iloadn1, zs_ireturn, zn_int, zn_b0, zn_b1, zb_15, zb_16, zb_17, za_18, za_19, za_20, za_21, za_22, zb_23, za_24, za_25, za_26, za_27, za_28, za_29, za_30, za_31, za_32, zb_35, za_36, za_37, za_38, za_39, za_40, zb_377, zb_378, za_379, za_380, za_381, za_382, za_383, zb_384, za_385, za_386, za_387, za_388, za_389, za_390, za_391, za_392, za_393, zb_396, za_397, za_398, za_399, za_400, za_401, zb_738, za_739, za_740, za_741, za_742, za_743, za_744, za_745, za_746, za_747, zb_748, za_749, za_750, zb_751, zb_752, za_753, za_754, za_755, za_756, zb_757, za_758, za_759, za_760, zb_761, za_763, za_764, za_765, true_and, and_true, Nat.reduceAdd]
    | succ f ih =>
      intro k l4 hk
      have next : ∀ s l4, s = zl_fe (zt_far (M.1 18) n) (k + 1) → G 35 [some (.ref 752), some (.int s.1), some (.int s.2), some (.int (nI k)), l4] [] M := by
        intro s l4 hs
        refine h35 _ _ _ ?_
        simp only [bX8_farEnd_35, zw_0, zw_1, zs_iinc3, zs_goto, zc_none, zc_int, zc_ref, zc_null, zc_long, zb_15, zb_16, zb_17, za_18, za_19, za_20, za_21, za_22, zb_23, za_24, za_25, za_26, za_27, za_28, za_29, za_30, za_31, za_32, zb_35, za_36, za_37, za_38, za_39, za_40, zb_377, zb_378, za_379, za_380, za_381, za_382, za_383, zb_384, za_385, za_386, za_387, za_388, za_389, za_390, za_391, za_392, za_393, zb_396, za_397, za_398, za_399, za_400, za_401, zb_738, za_739, za_740, za_741, za_742, za_743, za_744, za_745, za_746, za_747, zb_748, za_749, za_750, zb_751, zb_752, za_753, za_754, za_755, za_756, zb_757, za_758, za_759, za_760, zb_761, za_763, za_764, za_765, true_and, and_true, Nat.reduceAdd]
        rw [hs, nI_1]
        exact ih (k + 1) l4 (by omega)
      refine h6 _ _ _ ?_
      simp only [bX8_farEnd_6, zw_0, zw_1, zs_iloadn3, zs_aloadn0, zs_aloadNn0, zg_8_24, zg_8_34, zs_icge, zi_8_69, zs_istore4, zs_iload4, zs_iloadn2, zs_icle, zs_istoren2, zs_istoren1, zc_none, zc_int, zc_ref, zc_null, zc_long, zh_0, zh_1, zh_2, zh_3, zh_4, zt_i, zt_l, zt_r, zt_n, zb_15, zb_16, zb_17, za_18, za_19, za_20, za_21, za_22, zb_23, za_24, za_25, za_26, za_27, za_28, za_29, za_30, za_31, za_32, zb_35, za_36, za_37, za_38, za_39, za_40, zb_377, zb_378, za_379, za_380, za_381, za_382, za_383, zb_384, za_385, za_386, za_387, za_388, za_389, za_390, za_391, za_392, za_393, zb_396, za_397, za_398, za_399, za_400, za_401, zb_738, za_739, za_740, za_741, za_742, za_743, za_744, za_745, za_746, za_747, zb_748, za_749, za_750, zb_751, zb_752, za_753, za_754, za_755, za_756, zb_757, za_758, za_759, za_760, zb_761, za_763, za_764, za_765, true_and, and_true, Nat.reduceAdd, hc]
      refine ⟨fun h => absurd h (nI_ge (by omega) (by omega)), fun _ => ?_⟩
      refine zm_R_eq (c8_farthestFrom hE d hw hc (show k < n by omega)) ?_
      simp only [bX8_farEnd_6, zw_0, zw_1, zs_iloadn3, zs_aloadn0, zs_aloadNn0, zg_8_24, zg_8_34, zs_icge, zi_8_69, zs_istore4, zs_iload4, zs_iloadn2, zs_icle, zs_istoren2, zs_istoren1, zc_none, zc_int, zc_ref, zc_null, zc_long, zh_0, zh_1, zh_2, zh_3, zh_4, zt_i, zt_l, zt_r, zt_n, zb_15, zb_16, zb_17, za_18, za_19, za_20, za_21, za_22, zb_23, za_24, za_25, za_26, za_27, za_28, za_29, za_30, za_31, za_32, zb_35, za_36, za_37, za_38, za_39, za_40, zb_377, zb_378, za_379, za_380, za_381, za_382, za_383, zb_384, za_385, za_386, za_387, za_388, za_389, za_390, za_391, za_392, za_393, zb_396, za_397, za_398, za_399, za_400, za_401, zb_738, za_739, za_740, za_741, za_742, za_743, za_744, za_745, za_746, za_747, zb_748, za_749, za_750, zb_751, zb_752, za_753, za_754, za_755, za_756, zb_757, za_758, za_759, za_760, zb_761, za_763, za_764, za_765, true_and, and_true, Nat.reduceAdd]
      exact ⟨fun h => next _ _ (by simp only [zl_fe]; rw [if_neg (Int32.not_lt.mpr h)]), fun h => next (nI k, zt_far (M.1 18) n k) _ (by simp only [zl_fe]; rw [if_pos (Int32.not_le.mp h)])⟩
  refine h0 _ _ _ ?_
  simp only [bX8_farEnd_0, zw_0, zw_1, zs_iconst, zs_istoren1, zs_istoren2, zs_istoren3, zc_none, zc_int, zc_ref, zc_null, zc_long, zb_15, zb_16, zb_17, za_18, za_19, za_20, za_21, za_22, zb_23, za_24, za_25, za_26, za_27, za_28, za_29, za_30, za_31, za_32, zb_35, za_36, za_37, za_38, za_39, za_40, zb_377, zb_378, za_379, za_380, za_381, za_382, za_383, zb_384, za_385, za_386, za_387, za_388, za_389, za_390, za_391, za_392, za_393, zb_396, za_397, za_398, za_399, za_400, za_401, zb_738, za_739, za_740, za_741, za_742, za_743, za_744, za_745, za_746, za_747, zb_748, za_749, za_750, zb_751, zb_752, za_753, za_754, za_755, za_756, zb_757, za_758, za_759, za_760, zb_761, za_763, za_764, za_765, true_and, and_true, Nat.reduceAdd]
  exact loop n 0 none (by omega)
theorem zt_far_c {n : Nat} {b c : Nat → Int32} (h : zt_wf n b) (e : zt_eq n b c) {p : Nat} (hp : p < n) : zt_far b n p = zt_far c n p := zl_rm_c n (fun i hi => zt_ds_c h e hp hi)
theorem zt_sum_c {n : Nat} {b c : Nat → Int32} (h : zt_wf n b) (e : zt_eq n b c) {p : Nat} (hp : p < n) : zt_sum b n p = zt_sum c n p := zc_s_c n (fun i hi => zt_ds_c h e hp hi)
theorem c11_longest {E : zm_E} (hE : zm_ok E.2.2.1 E.2.2.2.2) (d : Nat) {n : Nat} (l : Int32) {M : zm_M} (hw : zs_rk n M) (hc : M.1 17 0 = nI n) : zm_R E (d + 6) mX11_longest [.ref 15, .int l] M (fun r M' => r = some (.int (if l = 0 then (if (zl_fe (zt_far (M.1 18) n) n).2 = -1 then 0 else (zl_fe (zt_far (M.1 18) n) n).2) else (zl_fe (zt_far (M.1 18) n) n).1)) ∧ M' = M) := by
  refine zX11_longest hE rfl (fun G h0 h14 h21 => ?_)
  show G 0 [some (.ref 15), some (.int l)] [] M
  refine h0 _ _ _ ?_
  simp only [bX11_longest_0, zw_0, zw_1, zs_iloadn1, zs_ifeq, zs_aloadn0, zs_aloadNn0, zg_11_51, zi_11_346, zs_goto, zh_0, zh_1, zh_2, zh_3, zh_4, zt_i, zt_l, zt_r, zt_n, zb_15, zb_16, zb_17, za_18, za_19, za_20, za_21, za_22, zb_23, za_24, za_25, za_26, za_27, za_28, za_29, za_30, za_31, za_32, zb_35, za_36, za_37, za_38, za_39, za_40, zb_377, zb_378, za_379, za_380, za_381, za_382, za_383, zb_384, za_385, za_386, za_387, za_388, za_389, za_390, za_391, za_392, za_393, zb_396, za_397, za_398, za_399, za_400, za_401, zb_738, za_739, za_740, za_741, za_742, za_743, za_744, za_745, za_746, za_747, zb_748, za_749, za_750, zb_751, zb_752, za_753, za_754, za_755, za_756, zb_757, za_758, za_759, za_760, zb_761, za_763, za_764, za_765, true_and, and_true, Nat.reduceAdd]
  refine ⟨fun hl => ?_, fun hl => ?_⟩
  · refine h14 _ _ _ ?_
    simp only [bX11_longest_14, zw_0, zw_1, zs_aloadn0, zs_aloadNn0, zg_11_51, zi_11_349, zh_0, zh_1, zh_2, zh_3, zh_4, zt_i, zt_l, zt_r, zt_n, zb_15, zb_16, zb_17, za_18, za_19, za_20, za_21, za_22, zb_23, za_24, za_25, za_26, za_27, za_28, za_29, za_30, za_31, za_32, zb_35, za_36, za_37, za_38, za_39, za_40, zb_377, zb_378, za_379, za_380, za_381, za_382, za_383, zb_384, za_385, za_386, za_387, za_388, za_389, za_390, za_391, za_392, za_393, zb_396, za_397, za_398, za_399, za_400, za_401, zb_738, za_739, za_740, za_741, za_742, za_743, za_744, za_745, za_746, za_747, zb_748, za_749, za_750, zb_751, zb_752, za_753, za_754, za_755, za_756, zb_757, za_758, za_759, za_760, zb_761, za_763, za_764, za_765, true_and, and_true, Nat.reduceAdd]
    refine zm_R_eq (c8_diameter hE d hw hc) ?_
    simp only [bX11_longest_14, zw_0, zw_1, zs_aloadn0, zs_aloadNn0, zg_11_51, zi_11_349, zh_0, zh_1, zh_2, zh_3, zh_4, zt_i, zt_l, zt_r, zt_n, zb_15, zb_16, zb_17, za_18, za_19, za_20, za_21, za_22, zb_23, za_24, za_25, za_26, za_27, za_28, za_29, za_30, za_31, za_32, zb_35, za_36, za_37, za_38, za_39, za_40, zb_377, zb_378, za_379, za_380, za_381, za_382, za_383, zb_384, za_385, za_386, za_387, za_388, za_389, za_390, za_391, za_392, za_393, zb_396, za_397, za_398, za_399, za_400, za_401, zb_738, za_739, za_740, za_741, za_742, za_743, za_744, za_745, za_746, za_747, zb_748, za_749, za_750, zb_751, zb_752, za_753, za_754, za_755, za_756, zb_757, za_758, za_759, za_760, zb_761, za_763, za_764, za_765, true_and, and_true, Nat.reduceAdd]
    refine h21 _ _ _ ?_
    simp only [bX11_longest_21, zw_0, zw_1, zs_ireturn, zn_int, zn_b0, zn_b1, zb_15, zb_16, zb_17, za_18, za_19, za_20, za_21, za_22, zb_23, za_24, za_25, za_26, za_27, za_28, za_29, za_30, za_31, za_32, zb_35, za_36, za_37, za_38, za_39, za_40, zb_377, zb_378, za_379, za_380, za_381, za_382, za_383, zb_384, za_385, za_386, za_387, za_388, za_389, za_390, za_391, za_392, za_393, zb_396, za_397, za_398, za_399, za_400, za_401, zb_738, za_739, za_740, za_741, za_742, za_743, za_744, za_745, za_746, za_747, zb_748, za_749, za_750, zb_751, zb_752, za_753, za_754, za_755, za_756, zb_757, za_758, za_759, za_760, zb_761, za_763, za_764, za_765, true_and, and_true, Nat.reduceAdd]
    rw [if_pos hl, (zl_fe_rm (f := zt_far (M.1 18) n) n (fun i hi => (zl_rm_ge (zt_ds (M.1 18) i) 0 n).1)).1]
  · refine zm_R_eq (c8_farEnd hE d hw hc) ?_
    simp only [bX11_longest_0, zw_0, zw_1, zs_iloadn1, zs_ifeq, zs_aloadn0, zs_aloadNn0, zg_11_51, zi_11_346, zs_goto, zh_0, zh_1, zh_2, zh_3, zh_4, zt_i, zt_l, zt_r, zt_n, zb_15, zb_16, zb_17, za_18, za_19, za_20, za_21, za_22, zb_23, za_24, za_25, za_26, za_27, za_28, za_29, za_30, za_31, za_32, zb_35, za_36, za_37, za_38, za_39, za_40, zb_377, zb_378, za_379, za_380, za_381, za_382, za_383, zb_384, za_385, za_386, za_387, za_388, za_389, za_390, za_391, za_392, za_393, zb_396, za_397, za_398, za_399, za_400, za_401, zb_738, za_739, za_740, za_741, za_742, za_743, za_744, za_745, za_746, za_747, zb_748, za_749, za_750, zb_751, zb_752, za_753, za_754, za_755, za_756, zb_757, za_758, za_759, za_760, zb_761, za_763, za_764, za_765, true_and, and_true, Nat.reduceAdd]
    refine h21 _ _ _ ?_
    simp only [bX11_longest_21, zw_0, zw_1, zs_ireturn, zn_int, zn_b0, zn_b1, zb_15, zb_16, zb_17, za_18, za_19, za_20, za_21, za_22, zb_23, za_24, za_25, za_26, za_27, za_28, za_29, za_30, za_31, za_32, zb_35, za_36, za_37, za_38, za_39, za_40, zb_377, zb_378, za_379, za_380, za_381, za_382, za_383, zb_384, za_385, za_386, za_387, za_388, za_389, za_390, za_391, za_392, za_393, zb_396, za_397, za_398, za_399, za_400, za_401, zb_738, za_739, za_740, za_741, za_742, za_743, za_744, za_745, za_746, za_747, zb_748, za_749, za_750, zb_751, zb_752, za_753, za_754, za_755, za_756, zb_757, za_758, za_759, za_760, zb_761, za_763, za_764, za_765, true_and, and_true, Nat.reduceAdd]
    rw [if_neg hl]
