/-! ===== deputies of both ===== -/
def zv_sf (b : Nat → Int32) (S : Nat) : Nat → Nat
  | 0 => S
  | k + 1 => if k = 0 then zv_sf b S k else zv_sf b S k ||| (if S.testBit k = true then 2 ^ zd_q b k else 0) ||| (if S.testBit (zd_q b k) = true then 2 ^ k else 0)
theorem zv_tb2 (c : Bool) (j e : Nat) : (if c = true then 2 ^ j else 0).testBit e = (c && decide (e = j)) := by
  cases c with
  | false => simp
  | true =>
    rw [if_pos rfl]
    by_cases h : e = j
    · subst h; rw [Nat.testBit_two_pow_self]; simp
    · rw [Nat.testBit_two_pow_of_ne (fun z => h z.symm)]; simp [h]
theorem zv_sf_tb {b : Nat → Int32} {S e : Nat} : ∀ k, (zv_sf b S k).testBit e = true ↔ (S.testBit e = true ∨ (∃ c, 0 < c ∧ c < k ∧ zd_q b c = e ∧ S.testBit c = true) ∨ (0 < e ∧ e < k ∧ S.testBit (zd_q b e) = true)) := by
  intro k
  induction k with
  | zero =>
    refine ⟨fun h => Or.inl h, fun h => ?_⟩
    rcases h with h | ⟨c, h1, h2, -⟩ | ⟨h1, h2, -⟩
    · exact h
    · omega
    · omega
  | succ k ih =>
    simp only [zv_sf]
    by_cases hk : k = 0
    · rw [if_pos hk, ih]
      subst hk
      refine ⟨fun h => ?_, fun h => ?_⟩
      · rcases h with h | ⟨c, h1, h2, -⟩ | ⟨h1, h2, -⟩
        · exact Or.inl h
        · omega
        · omega
      · rcases h with h | ⟨c, h1, h2, -⟩ | ⟨h1, h2, -⟩
        · exact Or.inl h
        · omega
        · omega
    · rw [if_neg hk, Nat.testBit_or, Nat.testBit_or, zv_tb2, zv_tb2, Bool.or_eq_true, Bool.or_eq_true, ih, Bool.and_eq_true, Bool.and_eq_true, decide_eq_true_eq, decide_eq_true_eq]
      refine ⟨fun h => ?_, fun h => ?_⟩
      · rcases h with ((h | ⟨c, h1, h2, h3, h4⟩ | ⟨h1, h2, h3⟩) | ⟨h1, h2⟩) | ⟨h1, h2⟩
        · exact Or.inl h
        · exact Or.inr (Or.inl ⟨c, h1, by omega, h3, h4⟩)
        · exact Or.inr (Or.inr ⟨h1, by omega, h3⟩)
        · exact Or.inr (Or.inl ⟨k, by omega, by omega, h2.symm, h1⟩)
        · subst h2; exact Or.inr (Or.inr ⟨by omega, by omega, h1⟩)
      · rcases h with h | ⟨c, h1, h2, h3, h4⟩ | ⟨h1, h2, h3⟩
        · exact Or.inl (Or.inl (Or.inl h))
        · by_cases e2 : c = k
          · subst e2; exact Or.inl (Or.inr ⟨h4, h3.symm⟩)
          · exact Or.inl (Or.inl (Or.inr (Or.inl ⟨c, h1, by omega, h3, h4⟩)))
        · by_cases e2 : e = k
          · subst e2; exact Or.inr ⟨h3, rfl⟩
          · exact Or.inl (Or.inl (Or.inr (Or.inr ⟨h1, by omega, h3⟩)))
theorem zv_sf_lt {n : Nat} {b : Nat → Int32} (hw : zt_wf n b) {S : Nat} (hS : S < 2 ^ n) : ∀ k, k ≤ n → zv_sf b S k < 2 ^ n := by
  intro k
  induction k with
  | zero => intro _; exact hS
  | succ k ih =>
    intro hk
    simp only [zv_sf]
    have h1 := ih (by omega)
    split
    · exact h1
    · next h0 =>
      have hq : zd_q b k < k := zd_q_lt hw (by omega) (by omega)
      refine Nat.or_lt_two_pow (Nat.or_lt_two_pow h1 ?_) ?_
      · split
        · exact Nat.pow_lt_pow_right (by decide) (by omega)
        · exact Nat.two_pow_pos n
      · split
        · exact Nat.pow_lt_pow_right (by decide) (by omega)
        · exact Nat.two_pow_pos n
def zv_P (b : Nat → Int32) (n S : Nat) : Bool := decide (zv_sf b S n = 2 ^ n - 1)
theorem zv_P_iff {n : Nat} {b : Nat → Int32} (hw : zt_wf n b) {S : Nat} (hS : S < 2 ^ n) : zv_P b n S = true ↔ ∀ e, e < n → zv_dm b n S e := by
  unfold zv_P
  rw [decide_eq_true_eq]
  have key : zv_sf b S n = 2 ^ n - 1 ↔ ∀ e, e < n → (zv_sf b S n).testBit e = true := by
    refine ⟨fun h e he => by rw [h, Nat.testBit_two_pow_sub_one]; simp [he], fun h => ?_⟩
    apply Nat.eq_of_testBit_eq
    intro i
    rw [Nat.testBit_two_pow_sub_one]
    by_cases hi : i < n
    · rw [h i hi]; simp [hi]
    · rw [zd_tb_lt (zv_sf_lt hw hS n (Nat.le_refl _)) (by omega)]; simp [hi]
  rw [key]
  refine ⟨fun h e he => ?_, fun h e he => ?_⟩
  · rcases (zv_sf_tb n).mp (h e he) with z | ⟨c, h1, h2, h3, h4⟩ | ⟨h1, h2, h3⟩
    · exact Or.inl z
    · have := zd_q_lt hw h1 h2
      exact Or.inr (Or.inr ⟨c, by omega, h2, h3, h4⟩)
    · exact Or.inr (Or.inl ⟨h1, h3⟩)
  · rcases h e he with z | ⟨h1, h3⟩ | ⟨c, h1, h2, h3, h4⟩
    · exact (zv_sf_tb n).mpr (Or.inl z)
    · exact (zv_sf_tb n).mpr (Or.inr (Or.inr ⟨h1, he, h3⟩))
    · exact (zv_sf_tb n).mpr (Or.inr (Or.inl ⟨c, by omega, h2, h3, h4⟩))
/-- the lowest of the fewest, looked for from above -/
def zv_bb (B : Nat → Nat) (P : Nat → Bool) (T : Nat) : Nat → Nat
  | 0 => T - 1
  | k + 1 => if B (T - 1 - k) ≤ B (zv_bb B P T k) ∧ P (T - 1 - k) = true then T - 1 - k else zv_bb B P T k
theorem zv_bb_is {B : Nat → Nat} {P : Nat → Bool} {T : Nat} (hT : 0 < T) (hP : P (T - 1) = true) : ∀ k, k ≤ T → zv_bb B P T k < T ∧ P (zv_bb B P T k) = true ∧ ∀ S, T ≤ S + k → S < T → P S = true → B (zv_bb B P T k) < B S ∨ (B (zv_bb B P T k) = B S ∧ zv_bb B P T k ≤ S) := by
  intro k
  induction k with
  | zero => intro _; exact ⟨by simp only [zv_bb]; omega, hP, fun S h1 h2 => by omega⟩
  | succ k ih =>
    intro hk
    obtain ⟨h1, h2, h3⟩ := ih (by omega)
    have key : ∀ S, T ≤ S + k → S < T → T - 1 - k ≤ S := fun S a b => by omega
    simp only [zv_bb]
    by_cases c : B (T - 1 - k) ≤ B (zv_bb B P T k) ∧ P (T - 1 - k) = true
    · rw [if_pos c]
      refine ⟨by omega, c.2, fun S a b p => ?_⟩
      by_cases e : S = T - 1 - k
      · subst e; exact Or.inr ⟨rfl, Nat.le_refl _⟩
      · rcases h3 S (by omega) b p with z | ⟨z, -⟩
        · exact Or.inl (by omega)
        · rcases Nat.lt_or_ge (B (T - 1 - k)) (B S) with y | y
          · exact Or.inl y
          · exact Or.inr ⟨by omega, key S (by omega) b⟩
    · rw [if_neg c]
      refine ⟨h1, h2, fun S a b p => ?_⟩
      by_cases e : S = T - 1 - k
      · subst e
        have : ¬ B (T - 1 - k) ≤ B (zv_bb B P T k) := fun z => c ⟨z, p⟩
        exact Or.inl (by omega)
      · exact h3 S (by omega) b p
def zv_best (b : Nat → Int32) (n k : Nat) : Nat := zv_bb (fun S => zc_n S.testBit 10) (zv_P b n) (2 ^ n) k
theorem zv_Pall {n : Nat} {b : Nat → Int32} (hw : zt_wf n b) : zv_P b n (2 ^ n - 1) = true := by
  have := Nat.two_pow_pos n
  refine (zv_P_iff hw (by omega)).mpr (fun e he => Or.inl ?_)
  rw [Nat.testBit_two_pow_sub_one]; simp [he]
theorem zv_best_lt {n : Nat} {b : Nat → Int32} (hw : zt_wf n b) {k : Nat} (hk : k ≤ 2 ^ n) : zv_best b n k < 2 ^ n := (zv_bb_is (Nat.two_pow_pos n) (zv_Pall hw) k hk).1
theorem zv_pc {n S : Nat} (hn : n ≤ 10) (hS : S < 2 ^ n) : zc_n S.testBit 10 = zc_n S.testBit n := zc_n_ext 10 hn (fun _ _ => rfl) (fun i h1 _ => zd_tb_lt hS h1)
theorem zv_main {n : Nat} {b : Nat → Int32} (hw : zt_wf n b) (h0 : 0 < n) : min ((zv_st b n (n - 1)).1 0) ((zv_st b n (n - 1)).2.1 0 + (zv_st b n (n - 1)).2.2 0) = 1024 * (zc_n (zv_best b n (2 ^ n)).testBit n : Int) + (zv_best b n (2 ^ n) : Int) := by
  obtain ⟨b1, b2, b3⟩ := zv_bb_is (B := fun S => zc_n S.testBit 10) (P := zv_P b n) (Nat.two_pow_pos n) (zv_Pall hw) (2 ^ n) (Nat.le_refl _)
  have b1 : zv_best b n (2 ^ n) < 2 ^ n := b1
  have b2 : zv_P b n (zv_best b n (2 ^ n)) = true := b2
  have b3 : ∀ S, S < 2 ^ n → zv_P b n S = true → zc_n (zv_best b n (2 ^ n)).testBit 10 < zc_n S.testBit 10 ∨ (zc_n (zv_best b n (2 ^ n)).testBit 10 = zc_n S.testBit 10 ∧ zv_best b n (2 ^ n) ≤ S) := fun S h p => b3 S (by omega) h p
  generalize zv_best b n (2 ^ n) = Z at b1 b2 b3
  have hn10 : 2 ^ n ≤ 1024 := Nat.pow_le_pow_right (n := 2) (by decide) hw.1
  have e1 : n - (n - 1) = 1 := by omega
  have hT : ∀ S D, zv_S (zv_t (zv_st b n (n - 1)) S D) 1 = zv_t (zv_st b n (n - 1)) S D 0 := by intro S D; simp only [zv_S]; omega
  have hcs : ∀ S, S < 2 ^ n → zv_cs n S = 1024 * (zc_n S.testBit n : Int) + (S : Int) := by
    intro S hS
    unfold zv_cs
    rw [zd_bits, Nat.mod_eq_of_lt hS]
  obtain ⟨c1, c2, c3, c4, c5, c6⟩ := zv_st_bd (b := b) hw.1 (n - 1) (by omega) 0 h0
  have hpk : 2 ^ (n - 1) ≤ 2 ^ 9 := Nat.pow_le_pow_right (by decide) (by have := hw.1; omega)
  -- all that serve are at least that
  have lb : ∀ S, S < 2 ^ n → zv_P b n S = true → min ((zv_st b n (n - 1)).1 0) ((zv_st b n (n - 1)).2.1 0 + (zv_st b n (n - 1)).2.2 0) ≤ zv_cs n S := by
    intro S hS hp
    have hd := (zv_P_iff hw hS).mp hp
    have := zv_lb hw S (n - 1) (by omega) (fun _ => true) (fun i h1 h2 => hd i h2) (fun p hp hS _ => by
      have : p = 0 := by omega
      subst this
      rcases hd 0 h0 with z | ⟨z, -⟩ | ⟨c, z1, z2, z3, z4⟩
      · exact absurd z hS
      · omega
      · exact ⟨c, by omega, z2, z3, z4⟩)
    rw [e1, hT] at this
    unfold zv_t at this
    simp only [if_true] at this
    split at this <;> omega
  have at_ : ∃ S, S < 2 ^ n ∧ zv_P b n S = true ∧ zv_cs n S = min ((zv_st b n (n - 1)).1 0) ((zv_st b n (n - 1)).2.1 0 + (zv_st b n (n - 1)).2.2 0) := by
    have go : ∀ S0 (D : Nat → Bool), S0 < 2 → (S0.testBit 0 = true ∨ D 0 = true) → (¬ S0.testBit 0 = true → D 0 = true → (zv_st b n (n - 1)).2.2 0 < 1048576) → zv_t (zv_st b n (n - 1)) S0 D 0 = min ((zv_st b n (n - 1)).1 0) ((zv_st b n (n - 1)).2.1 0 + (zv_st b n (n - 1)).2.2 0) → ∃ S, S < 2 ^ n ∧ zv_P b n S = true ∧ zv_cs n S = min ((zv_st b n (n - 1)).1 0) ((zv_st b n (n - 1)).2.1 0 + (zv_st b n (n - 1)).2.2 0) := by
      intro S0 D hS0 hor hf hv
      obtain ⟨S, s1, s2, s3, s4, s5⟩ := zv_at hw (n - 1) (by omega) S0 D (by rw [e1]; exact hS0) (fun p hp h1 h2 => by
        have : p = 0 := by omega
        subst this
        exact hf h1 h2)
      rw [e1] at s2 s3 s4 s5
      refine ⟨S, s1, (zv_P_iff hw s1).mpr (fun e he => ?_), by rw [s5, hT, hv]⟩
      by_cases e0 : e = 0
      · subst e0
        by_cases hs : S.testBit 0 = true
        · exact Or.inl hs
        · rcases hor with z | z
          · rw [← s2 0 (by omega)] at z; exact absurd z hs
          · obtain ⟨c, z1, z2, z3, z4⟩ := s4 0 (by omega) hs z
            exact Or.inr (Or.inr ⟨c, by omega, z2, z3, z4⟩)
      · exact s3 e (by omega) he
    by_cases c : (zv_st b n (n - 1)).1 0 ≤ (zv_st b n (n - 1)).2.1 0 + (zv_st b n (n - 1)).2.2 0
    · exact go 1 (fun _ => false) (by omega) (Or.inl (by decide)) (fun h => absurd (by decide) h) (by unfold zv_t; rw [if_pos (by decide)]; omega)
    · exact go 0 (fun _ => true) (by omega) (Or.inr rfl) (fun _ _ => by omega) (by unfold zv_t; rw [if_neg (by decide), if_pos rfl]; omega)
  obtain ⟨S, s1, s2, s3⟩ := at_
  have u := lb Z b1 b2
  rw [hcs S s1] at s3
  rw [hcs Z b1] at u
  have z := b3 S s1 s2
  rw [zv_pc hw.1 b1, zv_pc hw.1 s1] at z
  omega
theorem c_standFor {E : zm_E} (hE : zm_ok E.2.2.1 E.2.2.2.2) (d : Nat) {n S : Nat} (hS : S < 2 ^ n) {M : zm_M} (hw : zt_wf n (fun i => M.1 1 (90 + i))) (hc : M.1 1 0 = nI n) : zm_R E (d + 2) mX12_standFor [.ref 0, .int (nI S)] M (fun r M' => r = some (.int (nI (zv_sf (fun i => M.1 1 (90 + i)) S n))) ∧ M' = M) := by
  refine zX12_standFor hE rfl (fun G h0 h4 h36 h58 h64 => ?_)
  show G 0 [some (.ref 0), some (.int (nI S)), none, none] [] M
  have hn := hw.1
  have hS2 := zb_10 hn hS
  obtain ⟨b, hb⟩ : ∃ b, b = (fun i => M.1 1 (90 + i)) := ⟨_, rfl⟩
  have hwb : zt_wf n b := hb ▸ hw
  have hbv : ∀ k, M.1 1 (90 + k) = b k := fun k => by rw [hb]
  have loop : ∀ (f k : Nat), (k + f = n ∨ (n = 0 ∧ k = 1 ∧ f = 0)) → 1 ≤ k → G 4 [some (.ref 0), some (.int (nI S)), some (.int (nI (zv_sf b S k))), some (.int (nI k))] [] M := by
    intro f
    induction f with
    | zero =>
      intro k hk h1
      have hnk : n ≤ k := by omega
      refine h4 _ _ _ ?_
      simp only [bX12_standFor_4, zw_0, zw_1, zs_iloadn3, zs_aloadn0, zs_aloadNn0, zg_12_7, zs_iconst, zs_iaload, zs_icge, zs_iloadn1, zi_12_77, zs_ifeq, zs_iloadn2, zs_bipush, zs_iadd, zs_ishl, zs_ior, zs_istoren2, zc_none, zc_int, zc_ref, zc_null, zc_long, zh_0, zh_1, zh_2, zh_3, zh_4, zt_i, zt_l, zt_r, zt_n, zb_0, za_1, za_2, za_3, za_4, za_5, za_6, za_7, za_8, za_9, za_10, za_11, za_12, za_13, za_14, zu_0, zu_1, zu_2, zu_3, zu_4, zu_5, zu_6, zu_7, zu_8, zu_9, zu_10, zu_11, zu_12, zu_13, zu_14, zu_15, zu_16, zu_17, zu_18, zu_19, zu_20, zu_21, zu_22, zu_23, zu_24, zu_25, zu_26, zu_27, zu_28, zu_29, zu_30, zu_90, zv_0_9, zv_1_9, zv_2_9, zv_3_9, zv_4_9, zv_5_9, zv_6_9, zv_7_9, zv_8_9, zv_0_330, zv_0_4544, zv_1_4544, zv_2_4544, zv_3_4544, zv_4_4544, zv_5_4544, zv_6_4544, zv_7_4544, zv_8_4544, zv_9_4544, zv_10_4544, zv_11_4544, zv_12_4544, zv_13_4544, zv_14_4544, zv_15_4544, zv_16_4544, zv_17_4544, zv_18_4544, zv_19_4544, zv_20_4544, zv_21_4544, zv_22_4544, zv_23_4544, zv_24_4544, zv_25_4544, zv_26_4544, zv_27_4544, zv_28_4544, zv_29_4544, zv_0_11, zv_1_11, zv_0_160, true_and, and_true, Nat.reduceAdd, hc]
      refine ⟨fun _ => ?_, fun h => absurd (nI_le hnk (by omega)) h⟩
      refine h64 _ _ _ ?_
      simp only [bX12_standFor_64, zw_0, zw_1, zs_iloadn2, zs_ireturn, zn_int, zn_b0, zn_b1, zb_0, za_1, za_2, za_3, za_4, za_5, za_6, za_7, za_8, za_9, za_10, za_11, za_12, za_13, za_14, true_and, and_true, Nat.reduceAdd]
      rw [← hb]
      rcases hk with hk | ⟨z0, z1, -⟩
      · rw [show k = n by omega]
      · subst z0 z1
        simp only [zv_sf, if_true]
    | succ f ih =>
      intro k hk h1
      have hk : k + (f + 1) = n := by omega
      obtain ⟨i1, i2⟩ := zx_ck (k := 90) (p := k) (N := 4544) (by omega) (by decide)
      obtain ⟨j, hj, ej⟩ := hwb.2.2 k (by omega) (by omega)
      have eq : zd_q b k = j := by unfold zd_q; rw [ej, nI_clamp (by omega)]
      have k0 : ¬ k = 0 := by omega
      have next : ∀ v, v = zv_sf b S (k + 1) → G 58 [some (.ref 0), some (.int (nI S)), some (.int (nI v)), some (.int (nI k))] [] M := by
        intro v hv
        refine h58 _ _ _ ?_
        simp only [bX12_standFor_58, zw_0, zw_1, zs_iinc3, zs_goto, zc_none, zc_int, zc_ref, zc_null, zc_long, zb_0, za_1, za_2, za_3, za_4, za_5, za_6, za_7, za_8, za_9, za_10, za_11, za_12, za_13, za_14, true_and, and_true, Nat.reduceAdd]
        rw [nI_1, hv]
        exact ih (k + 1) (by omega) (by omega)
      have mid : ∀ v, v = zv_sf b S k ||| (if S.testBit k = true then 2 ^ j else 0) → G 36 [some (.ref 0), some (.int (nI S)), some (.int (nI v)), some (.int (nI k))] [] M := by
        intro v hv
        refine h36 _ _ _ ?_
        simp only [bX12_standFor_36, zw_0, zw_1, zs_iloadn1, zs_aloadn0, zs_aloadNn0, zg_12_7, zs_bipush, zs_iloadn3, zs_iadd, zs_iaload, zi_12_77, zs_ifeq, zs_iloadn2, zs_iconst, zs_ishl, zs_ior, zs_istoren2, zc_none, zc_int, zc_ref, zc_null, zc_long, zh_0, zh_1, zh_2, zh_3, zh_4, zt_i, zt_l, zt_r, zt_n, zb_0, za_1, za_2, za_3, za_4, za_5, za_6, za_7, za_8, za_9, za_10, za_11, za_12, za_13, za_14, zu_0, zu_1, zu_2, zu_3, zu_4, zu_5, zu_6, zu_7, zu_8, zu_9, zu_10, zu_11, zu_12, zu_13, zu_14, zu_15, zu_16, zu_17, zu_18, zu_19, zu_20, zu_21, zu_22, zu_23, zu_24, zu_25, zu_26, zu_27, zu_28, zu_29, zu_30, zu_90, zv_0_9, zv_1_9, zv_2_9, zv_3_9, zv_4_9, zv_5_9, zv_6_9, zv_7_9, zv_8_9, zv_0_330, zv_0_4544, zv_1_4544, zv_2_4544, zv_3_4544, zv_4_4544, zv_5_4544, zv_6_4544, zv_7_4544, zv_8_4544, zv_9_4544, zv_10_4544, zv_11_4544, zv_12_4544, zv_13_4544, zv_14_4544, zv_15_4544, zv_16_4544, zv_17_4544, zv_18_4544, zv_19_4544, zv_20_4544, zv_21_4544, zv_22_4544, zv_23_4544, zv_24_4544, zv_25_4544, zv_26_4544, zv_27_4544, zv_28_4544, zv_29_4544, zv_0_11, zv_1_11, zv_0_160, true_and, and_true, Nat.reduceAdd, zx_boss, i1, i2, hbv, ej]
        refine zm_R_eq (c_has hE d (nI S) (nI j) M) ?_
        rw [zx_has (by omega) (by omega)]
        simp only [bX12_standFor_36, zw_0, zw_1, zs_iloadn1, zs_aloadn0, zs_aloadNn0, zg_12_7, zs_bipush, zs_iloadn3, zs_iadd, zs_iaload, zi_12_77, zs_ifeq, zs_iloadn2, zs_iconst, zs_ishl, zs_ior, zs_istoren2, zc_none, zc_int, zc_ref, zc_null, zc_long, zh_0, zh_1, zh_2, zh_3, zh_4, zt_i, zt_l, zt_r, zt_n, zb_0, za_1, za_2, za_3, za_4, za_5, za_6, za_7, za_8, za_9, za_10, za_11, za_12, za_13, za_14, zu_0, zu_1, zu_2, zu_3, zu_4, zu_5, zu_6, zu_7, zu_8, zu_9, zu_10, zu_11, zu_12, zu_13, zu_14, zu_15, zu_16, zu_17, zu_18, zu_19, zu_20, zu_21, zu_22, zu_23, zu_24, zu_25, zu_26, zu_27, zu_28, zu_29, zu_30, zu_90, zv_0_9, zv_1_9, zv_2_9, zv_3_9, zv_4_9, zv_5_9, zv_6_9, zv_7_9, zv_8_9, zv_0_330, zv_0_4544, zv_1_4544, zv_2_4544, zv_3_4544, zv_4_4544, zv_5_4544, zv_6_4544, zv_7_4544, zv_8_4544, zv_9_4544, zv_10_4544, zv_11_4544, zv_12_4544, zv_13_4544, zv_14_4544, zv_15_4544, zv_16_4544, zv_17_4544, zv_18_4544, zv_19_4544, zv_20_4544, zv_21_4544, zv_22_4544, zv_23_4544, zv_24_4544, zv_25_4544, zv_26_4544, zv_27_4544, zv_28_4544, zv_29_4544, zv_0_11, zv_1_11, zv_0_160, true_and, and_true, Nat.reduceAdd, zi_b0]
        refine ⟨fun h => next _ ?_, fun h => ?_⟩
        · simp only [zv_sf]
          rw [if_neg k0, eq, h, hv]
          simp
        · rw [zx_1s k (by omega), nx_or]
          refine next _ ?_
          simp only [zv_sf]
          rw [if_neg k0, eq, hv, if_pos (show S.testBit j = true by simpa using h)]
      refine h4 _ _ _ ?_
      simp only [bX12_standFor_4, zw_0, zw_1, zs_iloadn3, zs_aloadn0, zs_aloadNn0, zg_12_7, zs_iconst, zs_iaload, zs_icge, zs_iloadn1, zi_12_77, zs_ifeq, zs_iloadn2, zs_bipush, zs_iadd, zs_ishl, zs_ior, zs_istoren2, zc_none, zc_int, zc_ref, zc_null, zc_long, zh_0, zh_1, zh_2, zh_3, zh_4, zt_i, zt_l, zt_r, zt_n, zb_0, za_1, za_2, za_3, za_4, za_5, za_6, za_7, za_8, za_9, za_10, za_11, za_12, za_13, za_14, zu_0, zu_1, zu_2, zu_3, zu_4, zu_5, zu_6, zu_7, zu_8, zu_9, zu_10, zu_11, zu_12, zu_13, zu_14, zu_15, zu_16, zu_17, zu_18, zu_19, zu_20, zu_21, zu_22, zu_23, zu_24, zu_25, zu_26, zu_27, zu_28, zu_29, zu_30, zu_90, zv_0_9, zv_1_9, zv_2_9, zv_3_9, zv_4_9, zv_5_9, zv_6_9, zv_7_9, zv_8_9, zv_0_330, zv_0_4544, zv_1_4544, zv_2_4544, zv_3_4544, zv_4_4544, zv_5_4544, zv_6_4544, zv_7_4544, zv_8_4544, zv_9_4544, zv_10_4544, zv_11_4544, zv_12_4544, zv_13_4544, zv_14_4544, zv_15_4544, zv_16_4544, zv_17_4544, zv_18_4544, zv_19_4544, zv_20_4544, zv_21_4544, zv_22_4544, zv_23_4544, zv_24_4544, zv_25_4544, zv_26_4544, zv_27_4544, zv_28_4544, zv_29_4544, zv_0_11, zv_1_11, zv_0_160, true_and, and_true, Nat.reduceAdd, hc]
      refine ⟨fun h => absurd h (nI_ge (by omega) (by omega)), fun _ => ?_⟩
      refine zm_R_eq (c_has hE d (nI S) (nI k) M) ?_
      rw [zx_has (by omega) (by omega)]
      simp only [bX12_standFor_4, zw_0, zw_1, zs_iloadn3, zs_aloadn0, zs_aloadNn0, zg_12_7, zs_iconst, zs_iaload, zs_icge, zs_iloadn1, zi_12_77, zs_ifeq, zs_iloadn2, zs_bipush, zs_iadd, zs_ishl, zs_ior, zs_istoren2, zc_none, zc_int, zc_ref, zc_null, zc_long, zh_0, zh_1, zh_2, zh_3, zh_4, zt_i, zt_l, zt_r, zt_n, zb_0, za_1, za_2, za_3, za_4, za_5, za_6, za_7, za_8, za_9, za_10, za_11, za_12, za_13, za_14, zu_0, zu_1, zu_2, zu_3, zu_4, zu_5, zu_6, zu_7, zu_8, zu_9, zu_10, zu_11, zu_12, zu_13, zu_14, zu_15, zu_16, zu_17, zu_18, zu_19, zu_20, zu_21, zu_22, zu_23, zu_24, zu_25, zu_26, zu_27, zu_28, zu_29, zu_30, zu_90, zv_0_9, zv_1_9, zv_2_9, zv_3_9, zv_4_9, zv_5_9, zv_6_9, zv_7_9, zv_8_9, zv_0_330, zv_0_4544, zv_1_4544, zv_2_4544, zv_3_4544, zv_4_4544, zv_5_4544, zv_6_4544, zv_7_4544, zv_8_4544, zv_9_4544, zv_10_4544, zv_11_4544, zv_12_4544, zv_13_4544, zv_14_4544, zv_15_4544, zv_16_4544, zv_17_4544, zv_18_4544, zv_19_4544, zv_20_4544, zv_21_4544, zv_22_4544, zv_23_4544, zv_24_4544, zv_25_4544, zv_26_4544, zv_27_4544, zv_28_4544, zv_29_4544, zv_0_11, zv_1_11, zv_0_160, true_and, and_true, Nat.reduceAdd, zx_boss, i1, i2, zi_b0, hbv, ej]
      refine ⟨fun h => mid _ (by rw [h]; simp), fun h => ?_⟩
      rw [zx_1s j (by omega), nx_or]
      exact mid _ (by rw [if_pos (show S.testBit k = true by simpa using h)])
  refine h0 _ _ _ ?_
  simp only [bX12_standFor_0, zw_0, zw_1, zs_iloadn1, zs_istoren2, zs_iconst, zs_istoren3, zc_none, zc_int, zc_ref, zc_null, zc_long, zb_0, za_1, za_2, za_3, za_4, za_5, za_6, za_7, za_8, za_9, za_10, za_11, za_12, za_13, za_14, true_and, and_true, Nat.reduceAdd]
  have z1 : zv_sf b S 1 = S := by simp only [zv_sf, if_true]
  have := loop (n - 1) 1 (by omega) (Nat.le_refl _)
  rw [z1] at this
  exact this
theorem c_deputies {E : zm_E} (hE : zm_ok E.2.2.1 E.2.2.2.2) (d : Nat) {n : Nat} {M : zm_M} (hw : zt_wf n (fun i => M.1 1 (90 + i))) (hc : M.1 1 0 = nI n) : zm_R E (d + 3) mX12_deputies [.ref 0] M (fun r M' => r = some (.int (nI (zv_best (fun i => M.1 1 (90 + i)) n (2 ^ n)))) ∧ M' = M) := by
  refine zX12_deputies hE rfl (fun G h0 h15 h41 h47 => ?_)
  show G 0 [some (.ref 0), none, none, none] [] M
  have hn := hw.1
  have hN : 2 ^ n ≤ 1024 := Nat.pow_le_pow_right (n := 2) (by decide) hn
  have hN1 : 1 ≤ 2 ^ n := Nat.two_pow_pos n
  have e1 : (1 : Int32) <<< (nI n &&& 31) = nI (2 ^ n) := zx_1s n (by omega)
  have e2 : nI (2 ^ n) - 1 = nI (2 ^ n - 1) := pk_sub (a := 2 ^ n) (b := 1) (by omega)
  obtain ⟨b, hb⟩ : ∃ b, b = (fun i => M.1 1 (90 + i)) := ⟨_, rfl⟩
  have hwb : zt_wf n b := hb ▸ hw
  have loop : ∀ (f k : Nat), k + f = 2 ^ n → G 15 [some (.ref 0), some (.int (nI (2 ^ n - 1))), some (.int (nI (zv_best b n k))), some (.int (if f = 0 then -1 else nI (f - 1)))] [] M := by
    intro f
    induction f with
    | zero =>
      intro k hk
      have hk : k = 2 ^ n := by omega
      subst hk
      refine h15 _ _ _ ?_
      simp only [bX12_deputies_15, zw_0, zw_1, zs_iloadn3, zs_iflt, zi_12_449, zs_iloadn2, zs_icgt, zs_aloadn0, zs_aloadNn0, zi_12_458, zs_iloadn1, zs_icne, zs_istoren2, zc_none, zc_int, zc_ref, zc_null, zc_long, zh_0, zh_1, zh_2, zh_3, zh_4, zt_i, zt_l, zt_r, zt_n, zb_0, za_1, za_2, za_3, za_4, za_5, za_6, za_7, za_8, za_9, za_10, za_11, za_12, za_13, za_14, true_and, and_true, Nat.reduceAdd]
      refine ⟨fun _ => ?_, fun h => absurd (by decide) h⟩
      refine h47 _ _ _ ?_
      simp only [bX12_deputies_47, zw_0, zw_1, zs_iloadn2, zs_ireturn, zn_int, zn_b0, zn_b1, zb_0, za_1, za_2, za_3, za_4, za_5, za_6, za_7, za_8, za_9, za_10, za_11, za_12, za_13, za_14, true_and, and_true, Nat.reduceAdd]
      rw [hb]
    | succ f ih =>
      intro k hk
      rw [if_neg (by omega), Nat.add_sub_cancel]
      have hbl := zv_best_lt hwb (k := k) (by omega)
      have ek : 2 ^ n - 1 - k = f := by omega
      have next : ∀ v, v = zv_best b n (k + 1) → G 41 [some (.ref 0), some (.int (nI (2 ^ n - 1))), some (.int (nI v)), some (.int (nI f))] [] M := by
        intro v hv
        refine h41 _ _ _ ?_
        simp only [bX12_deputies_41, zw_0, zw_1, zs_iinc3, zs_goto, zc_none, zc_int, zc_ref, zc_null, zc_long, zb_0, za_1, za_2, za_3, za_4, za_5, za_6, za_7, za_8, za_9, za_10, za_11, za_12, za_13, za_14, true_and, and_true, Nat.reduceAdd]
        rw [hv]
        have := ih (k + 1) (by omega)
        by_cases c : f = 0
        · subst c; rw [if_pos rfl] at this; exact this
        · rw [if_neg c] at this
          rw [zx_dn (by omega)]
          exact this
      refine h15 _ _ _ ?_
      simp only [bX12_deputies_15, zw_0, zw_1, zs_iloadn3, zs_iflt, zi_12_449, zs_iloadn2, zs_icgt, zs_aloadn0, zs_aloadNn0, zi_12_458, zs_iloadn1, zs_icne, zs_istoren2, zc_none, zc_int, zc_ref, zc_null, zc_long, zh_0, zh_1, zh_2, zh_3, zh_4, zt_i, zt_l, zt_r, zt_n, zb_0, za_1, za_2, za_3, za_4, za_5, za_6, za_7, za_8, za_9, za_10, za_11, za_12, za_13, za_14, true_and, and_true, Nat.reduceAdd]
      refine ⟨fun h => absurd h (nI_pos (by omega)), fun _ => ?_⟩
      refine zm_R_eq (c_bits hE (d + 1) (S := f) (by omega) M) ?_
      simp only [bX12_deputies_15, zw_0, zw_1, zs_iloadn3, zs_iflt, zi_12_449, zs_iloadn2, zs_icgt, zs_aloadn0, zs_aloadNn0, zi_12_458, zs_iloadn1, zs_icne, zs_istoren2, zc_none, zc_int, zc_ref, zc_null, zc_long, zh_0, zh_1, zh_2, zh_3, zh_4, zt_i, zt_l, zt_r, zt_n, zb_0, za_1, za_2, za_3, za_4, za_5, za_6, za_7, za_8, za_9, za_10, za_11, za_12, za_13, za_14, true_and, and_true, Nat.reduceAdd]
      refine zm_R_eq (c_bits hE (d + 1) (S := zv_best b n k) (by omega) M) ?_
      have p1 := zc_n_le f.testBit 10
      have p2 := zc_n_le (zv_best b n k).testBit 10
      have lt : (nI (zc_n (zv_best b n k).testBit 10) < nI (zc_n f.testBit 10)) = ¬ (zc_n f.testBit 10 ≤ zc_n (zv_best b n k).testBit 10) := propext ((nI_ltI (by omega) (by omega)).trans Nat.not_le.symm)
      simp only [bX12_deputies_15, zw_0, zw_1, zs_iloadn3, zs_iflt, zi_12_449, zs_iloadn2, zs_icgt, zs_aloadn0, zs_aloadNn0, zi_12_458, zs_iloadn1, zs_icne, zs_istoren2, zc_none, zc_int, zc_ref, zc_null, zc_long, zh_0, zh_1, zh_2, zh_3, zh_4, zt_i, zt_l, zt_r, zt_n, zb_0, za_1, za_2, za_3, za_4, za_5, za_6, za_7, za_8, za_9, za_10, za_11, za_12, za_13, za_14, true_and, and_true, Nat.reduceAdd, lt]
      refine ⟨fun h => next _ ?_, fun h => ?_⟩
      · unfold zv_best; simp only [zv_bb, ek]; rw [if_neg (fun z => h z.1)]
      · refine zm_R_eq (c_standFor hE d (S := f) (by omega) hw hc) ?_
        rw [← hb]
        have sl := zv_sf_lt hwb (S := f) (by omega) n (Nat.le_refl _)
        have eqs : (nI (zv_sf b f n) = nI (2 ^ n - 1)) = (zv_P b n f = true) := by
          unfold zv_P
          rw [decide_eq_true_eq]
          exact propext (nI_eq (by omega) (by omega))
        simp only [bX12_deputies_15, zw_0, zw_1, zs_iloadn3, zs_iflt, zi_12_449, zs_iloadn2, zs_icgt, zs_aloadn0, zs_aloadNn0, zi_12_458, zs_iloadn1, zs_icne, zs_istoren2, zc_none, zc_int, zc_ref, zc_null, zc_long, zh_0, zh_1, zh_2, zh_3, zh_4, zt_i, zt_l, zt_r, zt_n, zb_0, za_1, za_2, za_3, za_4, za_5, za_6, za_7, za_8, za_9, za_10, za_11, za_12, za_13, za_14, true_and, and_true, Nat.reduceAdd, eqs]
        refine ⟨fun h2 => next _ ?_, fun h2 => next _ ?_⟩
        · unfold zv_best; simp only [zv_bb, ek]; rw [if_neg (fun z => h2 z.2)]
        · have h3 : zc_n f.testBit 10 ≤ zc_n (zv_best b n k).testBit 10 := by omega
          unfold zv_best at h3 ⊢; simp only [zv_bb, ek]; rw [if_pos ⟨h3, h2⟩]
  refine h0 _ _ _ ?_
  simp only [bX12_deputies_0, zw_0, zw_1, zs_iconst, zs_aloadn0, zs_aloadNn0, zg_12_7, zs_iaload, zs_ishl, zs_isub, zs_istoren1, zs_iloadn1, zs_istoren2, zs_istoren3, zc_none, zc_int, zc_ref, zc_null, zc_long, zb_0, za_1, za_2, za_3, za_4, za_5, za_6, za_7, za_8, za_9, za_10, za_11, za_12, za_13, za_14, zu_0, zu_1, zu_2, zu_3, zu_4, zu_5, zu_6, zu_7, zu_8, zu_9, zu_10, zu_11, zu_12, zu_13, zu_14, zu_15, zu_16, zu_17, zu_18, zu_19, zu_20, zu_21, zu_22, zu_23, zu_24, zu_25, zu_26, zu_27, zu_28, zu_29, zu_30, zu_90, zv_0_9, zv_1_9, zv_2_9, zv_3_9, zv_4_9, zv_5_9, zv_6_9, zv_7_9, zv_8_9, zv_0_330, zv_0_4544, zv_1_4544, zv_2_4544, zv_3_4544, zv_4_4544, zv_5_4544, zv_6_4544, zv_7_4544, zv_8_4544, zv_9_4544, zv_10_4544, zv_11_4544, zv_12_4544, zv_13_4544, zv_14_4544, zv_15_4544, zv_16_4544, zv_17_4544, zv_18_4544, zv_19_4544, zv_20_4544, zv_21_4544, zv_22_4544, zv_23_4544, zv_24_4544, zv_25_4544, zv_26_4544, zv_27_4544, zv_28_4544, zv_29_4544, zv_0_11, zv_1_11, zv_0_160, true_and, and_true, Nat.reduceAdd, hc, e1, e2]
  have := loop (2 ^ n) 0 (by omega)
  rw [if_neg (by omega)] at this
  exact this
theorem c8_fewestDeputies {E : zm_E} (hE : zm_ok E.2.2.1 E.2.2.2.2) (d : Nat) {n : Nat} {M : zm_M} (hw : zt_wf n (M.1 18)) (hc : M.1 17 0 = nI n) : zm_R E (d + 1) mX8_fewestDeputies [.ref 752] M (fun r M' => r = some (.int (nI (zv_best (M.1 18) n (2 ^ n)))) ∧ zf [754, 755, 756] M M') := by
  refine zX8_fewestDeputies hE rfl (fun G h0 h12 h14 h59 h69 h169 => ?_)
  show G 0 [some (.ref 752), none, none, none] [] M
  have hn := hw.1
  have hN : 2 ^ n ≤ 1024 := Nat.pow_le_pow_right (n := 2) (by decide) hn
  have hbl := zv_best_lt hw (k := 2 ^ n) (Nat.le_refl _)
  refine h0 _ _ _ ?_
  simp only [bX8_fewestDeputies_0, zw_0, zw_1, zs_aloadn0, zs_aloadNn0, zg_8_24, zg_8_34, zs_ifne, zs_iconst, zs_ireturn, zn_int, zn_b0, zn_b1, zb_15, zb_16, zb_17, za_18, za_19, za_20, za_21, za_22, zb_23, za_24, za_25, za_26, za_27, za_28, za_29, za_30, za_31, za_32, zb_35, za_36, za_37, za_38, za_39, za_40, zb_377, zb_378, za_379, za_380, za_381, za_382, za_383, zb_384, za_385, za_386, za_387, za_388, za_389, za_390, za_391, za_392, za_393, zb_396, za_397, za_398, za_399, za_400, za_401, zb_738, za_739, za_740, za_741, za_742, za_743, za_744, za_745, za_746, za_747, zb_748, za_749, za_750, zb_751, zb_752, za_753, za_754, za_755, za_756, zb_757, za_758, za_759, za_760, zb_761, za_763, za_764, za_765, true_and, and_true, Nat.reduceAdd, hc]
  refine And.comm.mp ⟨fun hz => ?_, fun hnz => ?_⟩
  · have hz : n = 0 := (nI_eq (b := 0) (by omega) (by decide)).mp hz
    subst hz
    have : zv_best (M.1 18) 0 (2 ^ 0) = 0 := by omega
    exact ⟨by rw [this]; rfl, zf_refl⟩
  have hn0 : 0 < n := by
    rcases Nat.eq_zero_or_pos n with z | z
    · rw [z] at hnz; exact absurd rfl hnz
    · exact z
  have fin : ∀ (M' : zm_M) (l1 l2 l3 : Option Value), zf [754, 755, 756] M M' → (M'.1 754 0).toInt = (zv_st (M.1 18) n (n - 1)).1 0 → (M'.1 755 0).toInt = (zv_st (M.1 18) n (n - 1)).2.1 0 → (M'.1 756 0).toInt = (zv_st (M.1 18) n (n - 1)).2.2 0 → G 169 [some (.ref 752), l1, l2, l3] [] M' := by
    intro M' l1 l2 l3 f1 f2 f3 f4
    have v0 : vp_in 0 10 := vp_in_nI (n := 0) (by omega) (by decide)
    obtain ⟨c1, c2, c3, c4, c5, c6⟩ := zv_st_bd (b := M.1 18) hn (n - 1) (by omega) 0 hn0
    have hpk : 2 ^ (n - 1) ≤ 2 ^ 9 := Nat.pow_le_pow_right (by decide) (by omega)
    refine h169 _ _ _ ?_
    simp only [bX8_fewestDeputies_169, zw_0, zw_1, zs_aloadn0, zs_aloadNn0, zg_8_15, zs_iconst, zs_iaload, zg_8_18, zg_8_21, zs_iadd, zi_8_63, zs_sipush, zs_iand, zs_ireturn, zh_0, zh_1, zh_2, zh_3, zh_4, zt_i, zt_l, zt_r, zt_n, zn_int, zn_b0, zn_b1, zb_15, zb_16, zb_17, za_18, za_19, za_20, za_21, za_22, zb_23, za_24, za_25, za_26, za_27, za_28, za_29, za_30, za_31, za_32, zb_35, za_36, za_37, za_38, za_39, za_40, zb_377, zb_378, za_379, za_380, za_381, za_382, za_383, zb_384, za_385, za_386, za_387, za_388, za_389, za_390, za_391, za_392, za_393, zb_396, za_397, za_398, za_399, za_400, za_401, zb_738, za_739, za_740, za_741, za_742, za_743, za_744, za_745, za_746, za_747, zb_748, za_749, za_750, zb_751, zb_752, za_753, za_754, za_755, za_756, zb_757, za_758, za_759, za_760, zb_761, za_763, za_764, za_765, zu_0, zu_1, zu_2, zu_3, zu_4, zu_5, zu_6, zu_7, zu_8, zu_9, zu_10, zu_11, zu_12, zu_13, zu_14, zu_15, zu_16, zu_17, zu_18, zu_19, zu_20, zu_21, zu_22, zu_23, zu_24, zu_25, zu_26, zu_27, zu_28, zu_29, zu_30, zu_90, zv_0_9, zv_1_9, zv_2_9, zv_3_9, zv_4_9, zv_5_9, zv_6_9, zv_7_9, zv_8_9, zv_0_330, zv_0_4544, zv_1_4544, zv_2_4544, zv_3_4544, zv_4_4544, zv_5_4544, zv_6_4544, zv_7_4544, zv_8_4544, zv_9_4544, zv_10_4544, zv_11_4544, zv_12_4544, zv_13_4544, zv_14_4544, zv_15_4544, zv_16_4544, zv_17_4544, zv_18_4544, zv_19_4544, zv_20_4544, zv_21_4544, zv_22_4544, zv_23_4544, zv_24_4544, zv_25_4544, zv_26_4544, zv_27_4544, zv_28_4544, zv_29_4544, zv_0_11, zv_1_11, zv_0_160, true_and, and_true, Nat.reduceAdd, v0]
    refine ⟨?_, f1⟩
    have ha := zx_addI f3 f4 (by omega) (by omega)
    have hm := zx_minI f2 ha
    rw [zv_main hw hn0] at hm
    congr 2
    refine zx_mod10 (S := zv_best (M.1 18) n (2 ^ n)) (K := (zc_n (zv_best (M.1 18) n (2 ^ n)).testBit n : Int)) (by omega) ?_
    rw [hm]
    omega
  have loop2 : ∀ (k : Nat) (M' : zm_M) (l2 l3 : Option Value), k < n → zf [754, 755, 756] M M' → (∀ p, p < n → (M'.1 754 p).toInt = (zv_st (M.1 18) n (n - 1 - k)).1 p ∧ (M'.1 755 p).toInt = (zv_st (M.1 18) n (n - 1 - k)).2.1 p ∧ (M'.1 756 p).toInt = (zv_st (M.1 18) n (n - 1 - k)).2.2 p) → G 69 [some (.ref 752), some (.int (nI k)), l2, l3] [] M' := by
    intro k
    induction k with
    | zero =>
      intro M' l2 l3 hk f1 f2
      refine h69 _ _ _ ?_
      simp only [bX8_fewestDeputies_69, zw_0, zw_1, zs_iloadn1, zs_ifle, zs_aloadn0, zs_aloadNn0, zg_8_24, zg_8_40, zs_iaload, zs_istoren2, zg_8_15, zg_8_18, zg_8_21, zs_iadd, zi_8_63, zs_istoren3, zs_iloadn2, zs_iloadn3, zs_isub, zs_iastore, zs_dup2, zs_iinc1, zs_goto, zc_none, zc_int, zc_ref, zc_null, zc_long, zh_0, zh_1, zh_2, zh_3, zh_4, zt_i, zt_l, zt_r, zt_n, zb_15, zb_16, zb_17, za_18, za_19, za_20, za_21, za_22, zb_23, za_24, za_25, za_26, za_27, za_28, za_29, za_30, za_31, za_32, zb_35, za_36, za_37, za_38, za_39, za_40, zb_377, zb_378, za_379, za_380, za_381, za_382, za_383, zb_384, za_385, za_386, za_387, za_388, za_389, za_390, za_391, za_392, za_393, zb_396, za_397, za_398, za_399, za_400, za_401, zb_738, za_739, za_740, za_741, za_742, za_743, za_744, za_745, za_746, za_747, zb_748, za_749, za_750, zb_751, zb_752, za_753, za_754, za_755, za_756, zb_757, za_758, za_759, za_760, zb_761, za_763, za_764, za_765, zu_0, zu_1, zu_2, zu_3, zu_4, zu_5, zu_6, zu_7, zu_8, zu_9, zu_10, zu_11, zu_12, zu_13, zu_14, zu_15, zu_16, zu_17, zu_18, zu_19, zu_20, zu_21, zu_22, zu_23, zu_24, zu_25, zu_26, zu_27, zu_28, zu_29, zu_30, zu_90, zv_0_9, zv_1_9, zv_2_9, zv_3_9, zv_4_9, zv_5_9, zv_6_9, zv_7_9, zv_8_9, zv_0_330, zv_0_4544, zv_1_4544, zv_2_4544, zv_3_4544, zv_4_4544, zv_5_4544, zv_6_4544, zv_7_4544, zv_8_4544, zv_9_4544, zv_10_4544, zv_11_4544, zv_12_4544, zv_13_4544, zv_14_4544, zv_15_4544, zv_16_4544, zv_17_4544, zv_18_4544, zv_19_4544, zv_20_4544, zv_21_4544, zv_22_4544, zv_23_4544, zv_24_4544, zv_25_4544, zv_26_4544, zv_27_4544, zv_28_4544, zv_29_4544, zv_0_11, zv_1_11, zv_0_160, true_and, and_true, Nat.reduceAdd]
      exact ⟨fun _ => fin M' _ _ _ f1 (f2 0 hn0).1 (f2 0 hn0).2.1 (f2 0 hn0).2.2, fun h => absurd (by decide) h⟩
    | succ k ih =>
      intro M' l2 l3 hk f1 f2
      have e18 : M'.1 18 = M.1 18 := (f1 18 (by decide)).1
      obtain ⟨q, hq, eq⟩ := hw.2.2 (k + 1) (by omega) hk
      have eq' : M'.1 18 (k + 1) = nI q := by rw [e18]; exact eq
      have i1 : vp_in (nI (k + 1)) 10 := vp_in_nI (by omega) (by decide)
      have i2 : (nI (k + 1)).toNatClampNeg = k + 1 := nI_clamp (by omega)
      have i3 : vp_in (nI q) 10 := vp_in_nI (by omega) (by decide)
      have i4 : (nI q).toNatClampNeg = q := nI_clamp (by omega)
      have neq : ¬ k + 1 = q := by omega
      have es : n - 1 - k = (n - 1 - (k + 1)) + 1 := by omega
      have eJ : n - 1 - (n - 1 - (k + 1)) = k + 1 := by omega
      have zq : zd_q (M.1 18) (k + 1) = q := by unfold zd_q; rw [eq, nI_clamp (by omega)]
      have hbd := zv_st_bd (b := M.1 18) hn (n - 1 - (k + 1)) (by omega)
      have hpw : 2 ^ (n - 1 - (k + 1)) ≤ 2 ^ 9 := Nat.pow_le_pow_right (by decide) (by omega)
      obtain ⟨a1, a2, a3, a4, a5, a6⟩ := hbd q (by omega)
      obtain ⟨c1, c2, c3, c4, c5, c6⟩ := hbd (k + 1) hk
      obtain ⟨w1, w2, w3⟩ := f2 q (by omega)
      obtain ⟨w4, w5, w6⟩ := f2 (k + 1) hk
      refine h69 _ _ _ ?_
      simp only [bX8_fewestDeputies_69, zw_0, zw_1, zs_iloadn1, zs_ifle, zs_aloadn0, zs_aloadNn0, zg_8_24, zg_8_40, zs_iaload, zs_istoren2, zg_8_15, zg_8_18, zg_8_21, zs_iadd, zi_8_63, zs_istoren3, zs_iloadn2, zs_iloadn3, zs_isub, zs_iastore, zs_dup2, zs_iinc1, zs_goto, zc_none, zc_int, zc_ref, zc_null, zc_long, zh_0, zh_1, zh_2, zh_3, zh_4, zt_i, zt_l, zt_r, zt_n, zb_15, zb_16, zb_17, za_18, za_19, za_20, za_21, za_22, zb_23, za_24, za_25, za_26, za_27, za_28, za_29, za_30, za_31, za_32, zb_35, za_36, za_37, za_38, za_39, za_40, zb_377, zb_378, za_379, za_380, za_381, za_382, za_383, zb_384, za_385, za_386, za_387, za_388, za_389, za_390, za_391, za_392, za_393, zb_396, za_397, za_398, za_399, za_400, za_401, zb_738, za_739, za_740, za_741, za_742, za_743, za_744, za_745, za_746, za_747, zb_748, za_749, za_750, zb_751, zb_752, za_753, za_754, za_755, za_756, zb_757, za_758, za_759, za_760, zb_761, za_763, za_764, za_765, zu_0, zu_1, zu_2, zu_3, zu_4, zu_5, zu_6, zu_7, zu_8, zu_9, zu_10, zu_11, zu_12, zu_13, zu_14, zu_15, zu_16, zu_17, zu_18, zu_19, zu_20, zu_21, zu_22, zu_23, zu_24, zu_25, zu_26, zu_27, zu_28, zu_29, zu_30, zu_90, zv_0_9, zv_1_9, zv_2_9, zv_3_9, zv_4_9, zv_5_9, zv_6_9, zv_7_9, zv_8_9, zv_0_330, zv_0_4544, zv_1_4544, zv_2_4544, zv_3_4544, zv_4_4544, zv_5_4544, zv_6_4544, zv_7_4544, zv_8_4544, zv_9_4544, zv_10_4544, zv_11_4544, zv_12_4544, zv_13_4544, zv_14_4544, zv_15_4544, zv_16_4544, zv_17_4544, zv_18_4544, zv_19_4544, zv_20_4544, zv_21_4544, zv_22_4544, zv_23_4544, zv_24_4544, zv_25_4544, zv_26_4544, zv_27_4544, zv_28_4544, zv_29_4544, zv_0_11, zv_1_11, zv_0_160, true_and, and_true, Nat.reduceAdd, i1, i2, eq', i3, i4]
      refine ⟨fun h => absurd h (nI_nle (by omega) (by omega)), fun _ => ?_⟩
      rw [pk_m1]
      have o1 : ∀ {M : zm_M} {k : Nat} {v : Int32}, (zm_wi M 756 k v).1 754 = M.1 754 := zm_wi_other (by decide)
      have o2 : ∀ {M : zm_M} {k : Nat} {v : Int32}, (zm_wi M 756 k v).1 755 = M.1 755 := zm_wi_other (by decide)
      have o3 : ∀ {M : zm_M} {k : Nat} {v : Int32}, (zm_wi M 754 k v).1 755 = M.1 755 := zm_wi_other (by decide)
      have o4 : ∀ {M : zm_M} {k : Nat} {v : Int32}, (zm_wi M 754 k v).1 756 = M.1 756 := zm_wi_other (by decide)
      have o5 : ∀ {M : zm_M} {k : Nat} {v : Int32}, (zm_wi M 755 k v).1 756 = M.1 756 := zm_wi_other (by decide)
      have o6 : ∀ {M : zm_M} {k : Nat} {v : Int32}, (zm_wi M 755 k v).1 754 = M.1 754 := zm_wi_other (by decide)
      simp only [o1, o2, o3, o4, o5, o6]
      refine ih _ _ _ (by omega) (zf_wi (zf_wi (zf_wi f1 (by decide)) (by decide)) (by decide)) (fun p hp => ?_)
      obtain ⟨u1, u2, u3⟩ := f2 p hp
      rw [es]
      simp only [zv_st, eJ, zq, zv_nx, zv_sv]
      generalize zv_st (M.1 18) n (n - 1 - (k + 1)) = st at *
      generalize 2 ^ (n - 1 - (k + 1)) = X at *
      have add := zx_addI w5 w6 (by omega) (by omega)
      have sv := zx_minI w4 add
      refine ⟨?_, ?_, ?_⟩
      · rw [o6, zm_wi_same]
        by_cases c : p = q
        · subst c
          rw [if_pos rfl, if_pos rfl]
          exact zx_addI w1 (zx_minI w4 w5) (by omega) (by omega)
        · rw [if_neg c, if_neg c, o1]; exact u1
      · rw [zm_wi_same]
        by_cases c : p = q
        · subst c
          rw [if_pos rfl, if_pos rfl]
          exact zx_addI w2 sv (by omega) (by omega)
        · rw [if_neg c, if_neg c, o3, o2]; exact u2
      · rw [o5, o4, zm_wi_same]
        by_cases c : p = q
        · subst c
          rw [if_pos rfl, if_pos rfl]
          exact zx_minI w3 (zx_subI w4 sv (by omega) (by omega))
        · rw [if_neg c, if_neg c]; exact u3
  have loop : ∀ (f k : Nat) (M' : zm_M), k + f = n → zf [754, 755, 756] M M' → (∀ p, p < k → (M'.1 754 p).toInt = (zv_st (M.1 18) n 0).1 p ∧ (M'.1 755 p).toInt = 0 ∧ (M'.1 756 p).toInt = 1048576) → G 14 [some (.ref 752), some (.int (nI k)), none, none] [] M' := by
    intro f
    induction f with
    | zero =>
      intro k M' hk f1 f2
      have hk : k = n := by omega
      subst hk
      have hc' : M'.1 17 0 = nI k := by rw [(f1 17 (by decide)).1]; exact hc
      refine h14 _ _ _ ?_
      simp only [bX8_fewestDeputies_14, zw_0, zw_1, zs_iloadn1, zs_aloadn0, zs_aloadNn0, zg_8_24, zg_8_34, zs_icge, zg_8_15, zs_sipush, zs_iconst, zs_ishl, zs_iadd, zs_iastore, zg_8_18, zg_8_21, zd_8_62, zs_iinc1, zs_goto, zc_none, zc_int, zc_ref, zc_null, zc_long, zb_15, zb_16, zb_17, za_18, za_19, za_20, za_21, za_22, zb_23, za_24, za_25, za_26, za_27, za_28, za_29, za_30, za_31, za_32, zb_35, za_36, za_37, za_38, za_39, za_40, zb_377, zb_378, za_379, za_380, za_381, za_382, za_383, zb_384, za_385, za_386, za_387, za_388, za_389, za_390, za_391, za_392, za_393, zb_396, za_397, za_398, za_399, za_400, za_401, zb_738, za_739, za_740, za_741, za_742, za_743, za_744, za_745, za_746, za_747, zb_748, za_749, za_750, zb_751, zb_752, za_753, za_754, za_755, za_756, zb_757, za_758, za_759, za_760, zb_761, za_763, za_764, za_765, zu_0, zu_1, zu_2, zu_3, zu_4, zu_5, zu_6, zu_7, zu_8, zu_9, zu_10, zu_11, zu_12, zu_13, zu_14, zu_15, zu_16, zu_17, zu_18, zu_19, zu_20, zu_21, zu_22, zu_23, zu_24, zu_25, zu_26, zu_27, zu_28, zu_29, zu_30, zu_90, zv_0_9, zv_1_9, zv_2_9, zv_3_9, zv_4_9, zv_5_9, zv_6_9, zv_7_9, zv_8_9, zv_0_330, zv_0_4544, zv_1_4544, zv_2_4544, zv_3_4544, zv_4_4544, zv_5_4544, zv_6_4544, zv_7_4544, zv_8_4544, zv_9_4544, zv_10_4544, zv_11_4544, zv_12_4544, zv_13_4544, zv_14_4544, zv_15_4544, zv_16_4544, zv_17_4544, zv_18_4544, zv_19_4544, zv_20_4544, zv_21_4544, zv_22_4544, zv_23_4544, zv_24_4544, zv_25_4544, zv_26_4544, zv_27_4544, zv_28_4544, zv_29_4544, zv_0_11, zv_1_11, zv_0_160, true_and, and_true, Nat.reduceAdd, hc']
      refine ⟨fun _ => ?_, fun h => absurd (nI_le (Nat.le_refl _) (by omega)) h⟩
      refine h59 _ _ _ ?_
      simp only [bX8_fewestDeputies_59, zw_0, zw_1, zs_aloadn0, zs_aloadNn0, zg_8_24, zg_8_34, zs_iconst, zs_isub, zs_istoren1, zc_none, zc_int, zc_ref, zc_null, zc_long, zb_15, zb_16, zb_17, za_18, za_19, za_20, za_21, za_22, zb_23, za_24, za_25, za_26, za_27, za_28, za_29, za_30, za_31, za_32, zb_35, za_36, za_37, za_38, za_39, za_40, zb_377, zb_378, za_379, za_380, za_381, za_382, za_383, zb_384, za_385, za_386, za_387, za_388, za_389, za_390, za_391, za_392, za_393, zb_396, za_397, za_398, za_399, za_400, za_401, zb_738, za_739, za_740, za_741, za_742, za_743, za_744, za_745, za_746, za_747, zb_748, za_749, za_750, zb_751, zb_752, za_753, za_754, za_755, za_756, zb_757, za_758, za_759, za_760, zb_761, za_763, za_764, za_765, true_and, and_true, Nat.reduceAdd, hc']
      rw [show nI k - 1 = nI (k - 1) from pk_sub (a := k) (b := 1) (by omega)]
      refine loop2 (k - 1) M' _ _ (by omega) f1 (fun p hp => ?_)
      rw [Nat.sub_self]
      exact f2 p hp
    | succ f ih =>
      intro k M' hk f1 f2
      have hc' : M'.1 17 0 = nI n := by rw [(f1 17 (by decide)).1]; exact hc
      have i1 : vp_in (nI k) 10 := vp_in_nI (by omega) (by decide)
      have i2 : (nI k).toNatClampNeg = k := nI_clamp (by omega)
      have hp2 : 2 ^ k ≤ 2 ^ 9 := Nat.pow_le_pow_right (by decide) (by omega)
      refine h14 _ _ _ ?_
      simp only [bX8_fewestDeputies_14, zw_0, zw_1, zs_iloadn1, zs_aloadn0, zs_aloadNn0, zg_8_24, zg_8_34, zs_icge, zg_8_15, zs_sipush, zs_iconst, zs_ishl, zs_iadd, zs_iastore, zg_8_18, zg_8_21, zd_8_62, zs_iinc1, zs_goto, zc_none, zc_int, zc_ref, zc_null, zc_long, zb_15, zb_16, zb_17, za_18, za_19, za_20, za_21, za_22, zb_23, za_24, za_25, za_26, za_27, za_28, za_29, za_30, za_31, za_32, zb_35, za_36, za_37, za_38, za_39, za_40, zb_377, zb_378, za_379, za_380, za_381, za_382, za_383, zb_384, za_385, za_386, za_387, za_388, za_389, za_390, za_391, za_392, za_393, zb_396, za_397, za_398, za_399, za_400, za_401, zb_738, za_739, za_740, za_741, za_742, za_743, za_744, za_745, za_746, za_747, zb_748, za_749, za_750, zb_751, zb_752, za_753, za_754, za_755, za_756, zb_757, za_758, za_759, za_760, zb_761, za_763, za_764, za_765, zu_0, zu_1, zu_2, zu_3, zu_4, zu_5, zu_6, zu_7, zu_8, zu_9, zu_10, zu_11, zu_12, zu_13, zu_14, zu_15, zu_16, zu_17, zu_18, zu_19, zu_20, zu_21, zu_22, zu_23, zu_24, zu_25, zu_26, zu_27, zu_28, zu_29, zu_30, zu_90, zv_0_9, zv_1_9, zv_2_9, zv_3_9, zv_4_9, zv_5_9, zv_6_9, zv_7_9, zv_8_9, zv_0_330, zv_0_4544, zv_1_4544, zv_2_4544, zv_3_4544, zv_4_4544, zv_5_4544, zv_6_4544, zv_7_4544, zv_8_4544, zv_9_4544, zv_10_4544, zv_11_4544, zv_12_4544, zv_13_4544, zv_14_4544, zv_15_4544, zv_16_4544, zv_17_4544, zv_18_4544, zv_19_4544, zv_20_4544, zv_21_4544, zv_22_4544, zv_23_4544, zv_24_4544, zv_25_4544, zv_26_4544, zv_27_4544, zv_28_4544, zv_29_4544, zv_0_11, zv_1_11, zv_0_160, true_and, and_true, Nat.reduceAdd, hc', i1, i2]
      refine ⟨fun h => absurd h (nI_ge (by omega) (by omega)), fun _ => ?_⟩
      rw [nI_1]
      refine ih (k + 1) _ (by omega) (zf_wi (zf_wi (zf_wi f1 (by decide)) (by decide)) (by decide)) (fun p hp => ?_)
      refine ⟨?_, ?_, ?_⟩
      · rw [zm_wi_other (by decide), zm_wi_other (by decide), zm_wi_same]
        split
        · next c =>
          subst c
          rw [zx_1s p (by omega), show (1024 : Int32) = nI 1024 from rfl, nI_add, nI_toInt (by omega)]
          simp only [zv_st]
          omega
        · next c => exact (f2 p (by omega)).1
      · rw [zm_wi_other (by decide), zm_wi_same]
        split
        · rfl
        · next c => rw [zm_wi_other (by decide)]; exact (f2 p (by omega)).2.1
      · rw [zm_wi_same]
        split
        · rfl
        · next c => rw [zm_wi_other (by decide), zm_wi_other (by decide)]; exact (f2 p (by omega)).2.2
  refine h12 _ _ _ ?_
  simp only [bX8_fewestDeputies_12, zw_0, zw_1, zs_iconst, zs_istoren1, zc_none, zc_int, zc_ref, zc_null, zc_long, zb_15, zb_16, zb_17, za_18, za_19, za_20, za_21, za_22, zb_23, za_24, za_25, za_26, za_27, za_28, za_29, za_30, za_31, za_32, zb_35, za_36, za_37, za_38, za_39, za_40, zb_377, zb_378, za_379, za_380, za_381, za_382, za_383, zb_384, za_385, za_386, za_387, za_388, za_389, za_390, za_391, za_392, za_393, zb_396, za_397, za_398, za_399, za_400, za_401, zb_738, za_739, za_740, za_741, za_742, za_743, za_744, za_745, za_746, za_747, zb_748, za_749, za_750, zb_751, zb_752, za_753, za_754, za_755, za_756, zb_757, za_758, za_759, za_760, zb_761, za_763, za_764, za_765, true_and, and_true, Nat.reduceAdd]
  exact loop n 0 M (by omega) zf_refl (fun p hp => absurd hp (by omega))
theorem c11_deputies {E : zm_E} (hE : zm_ok E.2.2.1 E.2.2.2.2) (d : Nat) {n : Nat} {M : zm_M} (hw : zt_wf n (M.1 18)) (hc : M.1 17 0 = nI n) : zm_R E (d + 2) mX11_deputies [.ref 15] M (fun r M' => r = some (.int (nI (zv_best (M.1 18) n (2 ^ n)))) ∧ zf [754, 755, 756] M M') := by
  refine zX11_deputies hE rfl (fun G h0 => ?_)
  show G 0 [some (.ref 15)] [] M
  refine h0 _ _ _ ?_
  simp only [bX11_deputies_0, zw_0, zw_1, zs_aloadn0, zs_aloadNn0, zg_11_51, zi_11_355, zs_ireturn, zh_0, zh_1, zh_2, zh_3, zh_4, zt_i, zt_l, zt_r, zt_n, zn_int, zn_b0, zn_b1, zb_15, zb_16, zb_17, za_18, za_19, za_20, za_21, za_22, zb_23, za_24, za_25, za_26, za_27, za_28, za_29, za_30, za_31, za_32, zb_35, za_36, za_37, za_38, za_39, za_40, zb_377, zb_378, za_379, za_380, za_381, za_382, za_383, zb_384, za_385, za_386, za_387, za_388, za_389, za_390, za_391, za_392, za_393, zb_396, za_397, za_398, za_399, za_400, za_401, zb_738, za_739, za_740, za_741, za_742, za_743, za_744, za_745, za_746, za_747, zb_748, za_749, za_750, zb_751, zb_752, za_753, za_754, za_755, za_756, zb_757, za_758, za_759, za_760, zb_761, za_763, za_764, za_765, true_and, and_true, Nat.reduceAdd]
  refine zm_R_mono (c8_fewestDeputies hE d hw hc) ?_
  rintro _ M1 ⟨rfl, f1⟩
  simp only [bX11_deputies_0, zw_0, zw_1, zs_aloadn0, zs_aloadNn0, zg_11_51, zi_11_355, zs_ireturn, zh_0, zh_1, zh_2, zh_3, zh_4, zt_i, zt_l, zt_r, zt_n, zn_int, zn_b0, zn_b1, zb_15, zb_16, zb_17, za_18, za_19, za_20, za_21, za_22, zb_23, za_24, za_25, za_26, za_27, za_28, za_29, za_30, za_31, za_32, zb_35, za_36, za_37, za_38, za_39, za_40, zb_377, zb_378, za_379, za_380, za_381, za_382, za_383, zb_384, za_385, za_386, za_387, za_388, za_389, za_390, za_391, za_392, za_393, zb_396, za_397, za_398, za_399, za_400, za_401, zb_738, za_739, za_740, za_741, za_742, za_743, za_744, za_745, za_746, za_747, zb_748, za_749, za_750, zb_751, zb_752, za_753, za_754, za_755, za_756, zb_757, za_758, za_759, za_760, zb_761, za_763, za_764, za_765, true_and, and_true, Nat.reduceAdd]
  exact f1
