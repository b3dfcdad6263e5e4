/-! ===== deputies: the fewest by sets, and by the tree ===== -/
def zv_S (f : Nat → Int) : Nat → Int
  | 0 => 0
  | k + 1 => zv_S f k + f k
theorem zv_S_c {f g : Nat → Int} : ∀ k, (∀ i, i < k → f i = g i) → zv_S f k = zv_S g k := by
  intro k
  induction k with
  | zero => intro _; rfl
  | succ k ih => intro h; simp only [zv_S]; rw [ih (fun i hi => h i (by omega)), h k (by omega)]
theorem zv_S_le {f g : Nat → Int} {q : Nat} {x : Int} : ∀ k, q < k → (∀ i, i < k → i ≠ q → f i = g i) → f q ≤ g q + x → zv_S f k ≤ zv_S g k + x := by
  intro k
  induction k with
  | zero => intro h; omega
  | succ k ih =>
    intro h h1 h2
    simp only [zv_S]
    by_cases e : q = k
    · subst e
      rw [zv_S_c q (fun i hi => h1 i (by omega) (by omega))]
      omega
    · have := ih (by omega) (fun i hi hne => h1 i (by omega) hne) h2
      rw [h1 k (by omega) (fun z => e z.symm)]
      omega
theorem zv_S_eq {f g : Nat → Int} {q : Nat} {x : Int} : ∀ k, q < k → (∀ i, i < k → i ≠ q → f i = g i) → f q = g q + x → zv_S f k = zv_S g k + x := by
  intro k
  induction k with
  | zero => intro h; omega
  | succ k ih =>
    intro h h1 h2
    simp only [zv_S]
    by_cases e : q = k
    · subst e
      rw [zv_S_c q (fun i hi => h1 i (by omega) (by omega))]
      omega
    · have := ih (by omega) (fun i hi hne => h1 i (by omega) hne) h2
      rw [h1 k (by omega) (fun z => e z.symm)]
      omega
abbrev zv_3 : Type := (Nat → Int) × (Nat → Int) × (Nat → Int)
def zv_sv (s : zv_3) (j : Nat) : Int := min (s.1 j) (s.2.1 j + s.2.2 j)
def zv_nx (s : zv_3) (q j : Nat) : zv_3 := (fun p => if p = q then s.1 p + min (s.1 j) (s.2.1 j) else s.1 p, fun p => if p = q then s.2.1 p + zv_sv s j else s.2.1 p, fun p => if p = q then min (s.2.2 p) (s.1 j - zv_sv s j) else s.2.2 p)
def zv_st (b : Nat → Int32) (n : Nat) : Nat → zv_3
  | 0 => (fun p => 1024 + ((2 ^ p : Nat) : Int), fun _ => 0, fun _ => 1048576)
  | k + 1 => zv_nx (zv_st b n k) (zd_q b (n - 1 - k)) (n - 1 - k)
def zv_t (s : zv_3) (S : Nat) (D : Nat → Bool) (p : Nat) : Int := if S.testBit p = true then s.1 p else s.2.1 p + (if D p = true then s.2.2 p else 0)
/-- served: itself, its boss, or one right below it -/
def zv_dm (b : Nat → Int32) (n S i : Nat) : Prop := S.testBit i = true ∨ (0 < i ∧ S.testBit (zd_q b i) = true) ∨ ∃ c, i < c ∧ c < n ∧ zd_q b c = i ∧ S.testBit c = true
def zv_cs (n S : Nat) : Int := 1024 * (zc_n S.testBit n : Int) + (zb_set S.testBit n : Int)
theorem zv_st_bd {b : Nat → Int32} {n : Nat} (hn : n ≤ 10) : ∀ k, k < n → ∀ p, p < n → 0 ≤ (zv_st b n k).1 p ∧ (zv_st b n k).1 p ≤ 1536 * (2 ^ k : Nat) ∧ 0 ≤ (zv_st b n k).2.1 p ∧ (zv_st b n k).2.1 p ≤ 1536 * (2 ^ k : Nat) ∧ 0 ≤ (zv_st b n k).2.2 p ∧ (zv_st b n k).2.2 p ≤ 1048576 := by
  intro k
  induction k with
  | zero =>
    intro _ p hp
    have h2 : 2 ^ p ≤ 2 ^ 9 := Nat.pow_le_pow_right (by decide) (by omega)
    simp only [zv_st]
    generalize 2 ^ p = X at *
    omega
  | succ k ih =>
    intro hk p hp
    obtain ⟨a1, a2, a3, a4, a5, a6⟩ := ih (by omega) p hp
    obtain ⟨c1, c2, c3, c4, c5, c6⟩ := ih (by omega) (n - 1 - k) (by omega)
    have e : 2 ^ (k + 1) = 2 ^ k * 2 := Nat.pow_succ ..
    simp only [zv_st, zv_nx, zv_sv]
    generalize (zv_st b n k).1 p = A at *
    generalize (zv_st b n k).2.1 p = B at *
    generalize (zv_st b n k).2.2 p = C at *
    generalize (zv_st b n k).1 (n - 1 - k) = A' at *
    generalize (zv_st b n k).2.1 (n - 1 - k) = B' at *
    generalize (zv_st b n k).2.2 (n - 1 - k) = C' at *
    generalize 2 ^ k = X at *
    rw [e]
    by_cases c : p = zd_q b (n - 1 - k)
    · simp only [if_pos c]; omega
    · simp only [if_neg c]; omega
theorem zv_cs_T {b : Nat → Int32} {n S : Nat} {D : Nat → Bool} (hD : ∀ p, p < n → ¬ S.testBit p = true → D p = false) : zv_S (zv_t (zv_st b n 0) S D) n = zv_cs n S := by
  have key : ∀ k, k ≤ n → zv_S (zv_t (zv_st b n 0) S D) k = 1024 * (zc_n S.testBit k : Int) + (zb_set S.testBit k : Int) := by
    intro k
    induction k with
    | zero => intro _; simp [zv_S, zc_n, zb_set]
    | succ k ih =>
      intro hk
      simp only [zv_S]
      rw [ih (by omega), zd_set_s]
      simp only [zc_n, zv_t, zv_st]
      by_cases c : S.testBit k = true
      · simp only [if_pos c]; omega
      · rw [hD k (by omega) c]
        simp only [if_neg c]
        simp
  exact key n (Nat.le_refl _)
theorem zv_lb {n : Nat} {b : Nat → Int32} (hw : zt_wf n b) (S : Nat) : ∀ k, k < n → ∀ D : Nat → Bool, (∀ i, n - k ≤ i → i < n → zv_dm b n S i) → (∀ p, p < n - k → ¬ S.testBit p = true → D p = true → ∃ c, n - k ≤ c ∧ c < n ∧ zd_q b c = p ∧ S.testBit c = true) → zv_S (zv_t (zv_st b n k) S D) (n - k) ≤ zv_cs n S := by
  intro k
  induction k with
  | zero =>
    intro _ D _ hD
    rw [Nat.sub_zero, zv_cs_T (fun p hp hS => ?_)]
    · exact Int.le_refl _
    · cases hd : D p with
      | false => rfl
      | true =>
        obtain ⟨c, h1, h2, -⟩ := hD p hp hS hd
        omega
  | succ k ih =>
    intro hk D hdm hD
    obtain ⟨J, hJ⟩ : ∃ J, n - k = J + 1 := ⟨n - k - 1, by omega⟩
    have e1 : n - (k + 1) = J := by omega
    have e2 : n - 1 - k = J := by omega
    have hq : zd_q b J < J := zd_q_lt hw (by omega) (by omega)
    rw [e1] at hdm hD ⊢
    have hbd := zv_st_bd (b := b) hw.1 k (by omega)
    obtain ⟨c1, c2, c3, c4, c5, c6⟩ := hbd J (by omega)
    obtain ⟨a1, a2, a3, a4, a5, a6⟩ := hbd (zd_q b J) (by omega)
    have h1 := ih (by omega) (fun p => if p = J then (!S.testBit J && !S.testBit (zd_q b J)) else if p = zd_q b J then (D p && !S.testBit J) else D p) (fun i h1 h2 => hdm i (by omega) h2) (fun p hp hS hd => ?_)
    · rw [hJ] at h1
      simp only [zv_S] at h1
      refine Int.le_trans ?_ h1
      refine zv_S_le (q := zd_q b J) J hq (fun i hi hne => ?_) ?_
      · have n1 : ¬ i = J := by omega
        simp only [zv_t, zv_st, e2, zv_nx, if_neg hne, if_neg n1]
      · have n1 : ¬ zd_q b J = J := by omega
        simp only [zv_t, zv_st, e2, zv_nx, zv_sv, if_true, if_neg n1]
        generalize (zv_st b n k).1 J = wJ at *
        generalize (zv_st b n k).2.1 J = oJ at *
        generalize (zv_st b n k).2.2 J = lJ at *
        generalize (zv_st b n k).1 (zd_q b J) = wq at *
        generalize (zv_st b n k).2.1 (zd_q b J) = oq at *
        generalize (zv_st b n k).2.2 (zd_q b J) = lq at *
        cases s1 : S.testBit (zd_q b J) <;> cases s2 : S.testBit J <;> cases s3 : D (zd_q b J) <;> simp <;> omega
    · rw [hJ]
      have hd : (if p = J then (!S.testBit J && !S.testBit (zd_q b J)) else if p = zd_q b J then (D p && !S.testBit J) else D p) = true := hd
      by_cases n1 : p = J
      · subst n1
        rw [if_pos rfl] at hd
        have hd : S.testBit p = false ∧ S.testBit (zd_q b p) = false := by simpa using hd
        rcases hdm p (Nat.le_refl _) (by omega) with z | ⟨-, z⟩ | ⟨c, z1, z2, z3, z4⟩
        · exact absurd z hS
        · rw [hd.2] at z; exact absurd z (by decide)
        · exact ⟨c, by omega, z2, z3, z4⟩
      · rw [if_neg n1] at hd
        by_cases n2 : p = zd_q b J
        · rw [if_pos n2] at hd
          have hd : D p = true ∧ S.testBit J = false := by simpa using hd
          obtain ⟨c, z1, z2, z3, z4⟩ := hD p (by omega) hS hd.1
          have : c ≠ J := fun e => by subst e; rw [hd.2] at z4; exact absurd z4 (by decide)
          exact ⟨c, by omega, z2, z3, z4⟩
        · rw [if_neg n2] at hd
          obtain ⟨c, z1, z2, z3, z4⟩ := hD p (by omega) hS hd
          have : c ≠ J := fun e => n2 (by rw [← z3, e])
          exact ⟨c, by omega, z2, z3, z4⟩
theorem zv_at {n : Nat} {b : Nat → Int32} (hw : zt_wf n b) : ∀ k, k < n → ∀ (S0 : Nat) (D : Nat → Bool), S0 < 2 ^ (n - k) → (∀ p, p < n - k → ¬ S0.testBit p = true → D p = true → (zv_st b n k).2.2 p < 1048576) → ∃ S, S < 2 ^ n ∧ (∀ p, p < n - k → S.testBit p = S0.testBit p) ∧ (∀ i, n - k ≤ i → i < n → zv_dm b n S i) ∧ (∀ p, p < n - k → ¬ S.testBit p = true → D p = true → ∃ c, n - k ≤ c ∧ c < n ∧ zd_q b c = p ∧ S.testBit c = true) ∧ zv_cs n S = zv_S (zv_t (zv_st b n k) S0 D) (n - k) := by
  intro k
  induction k with
  | zero =>
    intro _ S0 D hS hD
    have hD' : ∀ p, p < n → ¬ S0.testBit p = true → D p = false := by
      intro p hp h
      cases hd : D p with
      | false => rfl
      | true =>
        have := hD p hp h hd
        simp only [zv_st] at this
        omega
    refine ⟨S0, hS, fun _ _ => rfl, fun i h1 h2 => absurd h2 (by omega), fun p hp h hd => ?_, (zv_cs_T hD').symm⟩
    rw [hD' p hp h] at hd
    exact absurd hd (by decide)
  | succ k ih =>
    intro hk S0 D hS0 hD
    obtain ⟨J, hJ⟩ : ∃ J, n - k = J + 1 := ⟨n - k - 1, by omega⟩
    have e1 : n - (k + 1) = J := by omega
    have e2 : n - 1 - k = J := by omega
    have hq : zd_q b J < J := zd_q_lt hw (by omega) (by omega)
    have nqJ : ¬ zd_q b J = J := by omega
    rw [e1] at hS0 hD ⊢
    have hbd := zv_st_bd (b := b) hw.1 k (by omega)
    have hpk : 2 ^ k ≤ 2 ^ 9 := Nat.pow_le_pow_right (by decide) (by have := hw.1; omega)
    obtain ⟨c1, c2, c3, c4, c5, c6⟩ := hbd J (by omega)
    obtain ⟨a1, a2, a3, a4, a5, a6⟩ := hbd (zd_q b J) (by omega)
    have hbJ : S0.testBit J = false := zd_tb_lt hS0 (Nat.le_refl _)
    -- whether J is taken; whether it must be served from below; whether its boss still must
    have pick : ∀ t dJ dq : Bool, (t = true ∨ S0.testBit (zd_q b J) = true ∨ dJ = true) → (S0.testBit (zd_q b J) = true ∨ D (zd_q b J) = false ∨ dq = true ∨ t = true) → (dq = true → D (zd_q b J) = true) → (t = false → dJ = true → (zv_st b n k).2.2 J < 1048576) → (¬ S0.testBit (zd_q b J) = true → dq = true → (zv_st b n k).2.2 (zd_q b J) < 1048576) → zv_t (zv_st b n (k + 1)) S0 D (zd_q b J) = (if S0.testBit (zd_q b J) = true then (zv_st b n k).1 (zd_q b J) else (zv_st b n k).2.1 (zd_q b J) + (if dq = true then (zv_st b n k).2.2 (zd_q b J) else 0)) + (if t = true then (zv_st b n k).1 J else (zv_st b n k).2.1 J + (if dJ = true then (zv_st b n k).2.2 J else 0)) → ∃ S, S < 2 ^ n ∧ (∀ p, p < J → S.testBit p = S0.testBit p) ∧ (∀ i, J ≤ i → i < n → zv_dm b n S i) ∧ (∀ p, p < J → ¬ S.testBit p = true → D p = true → ∃ c, J ≤ c ∧ c < n ∧ zd_q b c = p ∧ S.testBit c = true) ∧ zv_cs n S = zv_S (zv_t (zv_st b n (k + 1)) S0 D) J := by
      intro t dJ dq hdom hqs hdq hf1 hf2 hv
      have hlt : (if t = true then S0 ||| 2 ^ J else S0) < 2 ^ (n - k) := by
        rw [hJ]
        split
        · exact Nat.or_lt_two_pow (Nat.lt_of_lt_of_le hS0 (Nat.pow_le_pow_right (by decide) (by omega))) (Nat.pow_lt_pow_right (by decide) (by omega))
        · exact Nat.lt_of_lt_of_le hS0 (Nat.pow_le_pow_right (by decide) (by omega))
      have tbl : ∀ p, p < J → (if t = true then S0 ||| 2 ^ J else S0).testBit p = S0.testBit p := by
        intro p hp
        split
        · rw [zd_tb_or]; have : ¬ p = J := by omega
          simp [this]
        · rfl
      have tbJ : (if t = true then S0 ||| 2 ^ J else S0).testBit J = t := by
        cases t with
        | true => rw [if_pos rfl, zd_tb_or]; simp
        | false => rw [if_neg (by decide)]; exact hbJ
      have side : ∀ p, p < n - k → ¬ (if t = true then S0 ||| 2 ^ J else S0).testBit p = true → (if p = J then dJ else if p = zd_q b J then dq else D p) = true → (zv_st b n k).2.2 p < 1048576 := by
        intro p hp hS hd
        by_cases n1 : p = J
        · subst n1
          rw [if_pos rfl] at hd
          rw [tbJ] at hS
          exact hf1 (by simpa using hS) hd
        · rw [if_neg n1] at hd
          rw [tbl p (by omega)] at hS
          by_cases n2 : p = zd_q b J
          · rw [if_pos n2] at hd
            rw [n2] at hS ⊢
            exact hf2 hS hd
          · rw [if_neg n2] at hd
            have := hD p (by omega) hS hd
            simp only [zv_st, e2, zv_nx, if_neg n2] at this
            exact this
      obtain ⟨S, s1, s2, s3, s4, s5⟩ := ih (by omega) _ (fun p => if p = J then dJ else if p = zd_q b J then dq else D p) hlt side
      · have sJ : S.testBit J = t := by rw [s2 J (by omega), tbJ]
        have sl : ∀ p, p < J → S.testBit p = S0.testBit p := fun p hp => by rw [s2 p (by omega), tbl p hp]
        refine ⟨S, s1, sl, fun i h1 h2 => ?_, fun p hp hS hd => ?_, ?_⟩
        · by_cases e : i = J
          · subst e
            rcases hdom with z | z | z
            · exact Or.inl (by rw [sJ, z])
            · exact Or.inr (Or.inl ⟨by omega, by rw [sl _ hq, z]⟩)
            · by_cases ht : t = true
              · exact Or.inl (by rw [sJ, ht])
              · obtain ⟨c, z1, z2, z3, z4⟩ := s4 i (by omega) (by rw [sJ]; exact ht) (by simp only [if_true]; exact z)
                exact Or.inr (Or.inr ⟨c, by omega, z2, z3, z4⟩)
          · exact s3 i (by omega) h2
        · have nJ : ¬ p = J := by omega
          by_cases e : p = zd_q b J
          · by_cases ht : t = true
            · exact ⟨J, Nat.le_refl _, by omega, e.symm, by rw [sJ, ht]⟩
            · have hd2 : dq = true := by
                rcases hqs with z | z | z | z
                · rw [sl p hp, e, z] at hS; exact absurd rfl hS
                · rw [← e, hd] at z; exact absurd z (by decide)
                · exact z
                · exact absurd z ht
              obtain ⟨c, z1, z2, z3, z4⟩ := s4 p (by omega) hS (by simp only [if_neg nJ, if_pos e]; exact hd2)
              exact ⟨c, by omega, z2, z3, z4⟩
          · obtain ⟨c, z1, z2, z3, z4⟩ := s4 p (by omega) hS (by simp only [if_neg nJ, if_neg e]; exact hd)
            exact ⟨c, by omega, z2, z3, z4⟩
        · rw [s5, hJ]
          simp only [zv_S]
          have tJ : zv_t (zv_st b n k) (if t = true then S0 ||| 2 ^ J else S0) (fun p => if p = J then dJ else if p = zd_q b J then dq else D p) J = (if t = true then (zv_st b n k).1 J else (zv_st b n k).2.1 J + (if dJ = true then (zv_st b n k).2.2 J else 0)) := by
            unfold zv_t
            rw [tbJ]
            simp only [if_true]
          rw [tJ]
          symm
          refine zv_S_eq (q := zd_q b J) J hq (fun i hi hne => ?_) ?_
          · have n1 : ¬ i = J := by omega
            simp only [zv_t, zv_st, e2, zv_nx, if_neg hne, if_neg n1]
            rw [tbl i hi]
          · rw [hv]
            congr 1
            unfold zv_t
            rw [tbl _ hq]
            simp only [if_neg nqJ, if_true]
    have hDq := hD (zd_q b J) (by omega)
    simp only [zv_st, e2, zv_nx, zv_sv, if_true] at hDq
    have vq : zv_t (zv_st b n (k + 1)) S0 D (zd_q b J) = (if S0.testBit (zd_q b J) = true then (zv_st b n k).1 (zd_q b J) + min ((zv_st b n k).1 J) ((zv_st b n k).2.1 J) else (zv_st b n k).2.1 (zd_q b J) + min ((zv_st b n k).1 J) ((zv_st b n k).2.1 J + (zv_st b n k).2.2 J) + (if D (zd_q b J) = true then min ((zv_st b n k).2.2 (zd_q b J)) ((zv_st b n k).1 J - min ((zv_st b n k).1 J) ((zv_st b n k).2.1 J + (zv_st b n k).2.2 J)) else 0)) := by
      simp only [zv_t, zv_st, e2, zv_nx, zv_sv, if_true]
    simp only [vq] at pick
    generalize (zv_st b n k).1 J = wJ at *
    generalize (zv_st b n k).2.1 J = oJ at *
    generalize (zv_st b n k).2.2 J = lJ at *
    generalize (zv_st b n k).1 (zd_q b J) = wq at *
    generalize (zv_st b n k).2.1 (zd_q b J) = oq at *
    generalize (zv_st b n k).2.2 (zd_q b J) = lq at *
    cases s1 : S0.testBit (zd_q b J) with
    | true =>
      rw [s1] at pick
      by_cases z : wJ ≤ oJ
      · exact pick true false false (by simp) (by simp) (by simp) (by simp) (by simp) (by simp; omega)
      · exact pick false false false (by simp) (by simp) (by simp) (by simp) (by simp) (by simp; omega)
    | false =>
      rw [s1] at pick hDq
      cases s3 : D (zd_q b J) with
      | false =>
        rw [s3] at pick
        by_cases z : wJ ≤ oJ + lJ
        · exact pick true false false (by simp) (by simp) (by simp) (by simp) (by simp) (by simp; omega)
        · exact pick false true false (by simp) (by simp) (by simp) (by simp; omega) (by simp) (by simp; omega)
      | true =>
        rw [s3] at pick hDq
        have hDq := hDq (by decide) rfl
        by_cases z2 : wJ - min wJ (oJ + lJ) ≤ lq
        · exact pick true false false (by simp) (by simp) (by simp) (by simp) (by simp) (by simp; omega)
        · by_cases z : wJ ≤ oJ + lJ
          · exact pick true false true (by simp) (by simp) (by simp) (by simp) (by simp; omega) (by simp; omega)
          · exact pick false true true (by simp) (by simp) (by simp) (by simp; omega) (by simp; omega) (by simp; omega)
