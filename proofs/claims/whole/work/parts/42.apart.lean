/-! ===== apart: the greatest by sets, and by the tree ===== -/
def zd_T (w o : Nat → Int) (S : Nat) : Nat → Int
  | 0 => 0
  | k + 1 => zd_T w o S k + (if S.testBit k = true then w k else o k)
def zd_q (b : Nat → Int32) (j : Nat) : Nat := (b j).toNatClampNeg
def zd_st (b : Nat → Int32) (g : Nat → Nat) (n : Nat) : Nat → (Nat → Int) × (Nat → Int)
  | 0 => (fun p => (g p : Int) * 1024 - ((2 ^ p : Nat) : Int), fun _ => 0)
  | k + 1 => (fun p => if p = zd_q b (n - 1 - k) then (zd_st b g n k).1 p + (zd_st b g n k).2 (n - 1 - k) else (zd_st b g n k).1 p, fun p => if p = zd_q b (n - 1 - k) then (zd_st b g n k).2 p + max ((zd_st b g n k).1 (n - 1 - k)) ((zd_st b g n k).2 (n - 1 - k)) else (zd_st b g n k).2 p)
theorem zd_T_c {w o w' o' : Nat → Int} {S S' : Nat} : ∀ k, (∀ i, i < k → w i = w' i ∧ o i = o' i ∧ S.testBit i = S'.testBit i) → zd_T w o S k = zd_T w' o' S' k := by
  intro k
  induction k with
  | zero => intro _; rfl
  | succ k ih =>
    intro h
    obtain ⟨h1, h2, h3⟩ := h k (by omega)
    simp only [zd_T]
    rw [ih (fun i hi => h i (by omega)), h1, h2, h3]
theorem zd_T_up {w o w' o' : Nat → Int} {S q : Nat} {x : Int} : ∀ k, q < k → (∀ i, i < k → i ≠ q → w' i = w i ∧ o' i = o i) → (if S.testBit q = true then w' q else o' q) = (if S.testBit q = true then w q else o q) + x → zd_T w' o' S k = zd_T w o S k + x := by
  intro k
  induction k with
  | zero => intro h; omega
  | succ k ih =>
    intro h h1 h2
    simp only [zd_T]
    by_cases e : q = k
    · subst e
      rw [zd_T_c (w := w') (o := o') (w' := w) (o' := o) q (fun i hi => ⟨(h1 i (by omega) (by omega)).1, (h1 i (by omega) (by omega)).2, rfl⟩), h2]
      omega
    · rw [ih (by omega) (fun i hi hne => h1 i (by omega) hne) h2, (h1 k (by omega) (fun z => e z.symm)).1, (h1 k (by omega) (fun z => e z.symm)).2]
      omega
def zd_ed (b : Nat → Int32) (S i : Nat) : Prop := ¬ (S.testBit i = true ∧ S.testBit (zd_q b i) = true)
theorem zd_q_lt {n : Nat} {b : Nat → Int32} (hw : zt_wf n b) {i : Nat} (h0 : 0 < i) (hi : i < n) : zd_q b i < i := by
  obtain ⟨j, h1, h2⟩ := hw.2.2 i h0 hi
  have := hw.1
  unfold zd_q
  rw [h2, nI_clamp (by omega)]
  exact h1
theorem zd_ub {n : Nat} {b : Nat → Int32} (hw : zt_wf n b) (g : Nat → Nat) (S : Nat) : ∀ k, k < n → (∀ i, n - k ≤ i → i < n → zd_ed b S i) → zd_T (zd_st b g n 0).1 (zd_st b g n 0).2 S n ≤ zd_T (zd_st b g n k).1 (zd_st b g n k).2 S (n - k) := by
  intro k
  induction k with
  | zero => intro _ _; exact Int.le_refl _
  | succ k ih =>
    intro hk hc
    have h1 := ih (by omega) (fun i h1 h2 => hc i (by omega) h2)
    obtain ⟨J, hJ⟩ : ∃ J, n - k = J + 1 := ⟨n - k - 1, by omega⟩
    have e1 : n - (k + 1) = J := by omega
    have e2 : n - 1 - k = J := by omega
    have hq : zd_q b J < J := zd_q_lt hw (by omega) (by omega)
    have hed := hc J (by omega) (by omega)
    rw [e1]
    rw [hJ] at h1
    simp only [zd_T] at h1
    rw [zd_T_up (w := (zd_st b g n k).1) (o := (zd_st b g n k).2) (q := zd_q b J) (x := if S.testBit (zd_q b J) = true then (zd_st b g n k).2 J else max ((zd_st b g n k).1 J) ((zd_st b g n k).2 J)) J hq]
    · have hx : (if S.testBit J = true then (zd_st b g n k).1 J else (zd_st b g n k).2 J) ≤ (if S.testBit (zd_q b J) = true then (zd_st b g n k).2 J else max ((zd_st b g n k).1 J) ((zd_st b g n k).2 J)) := by
        by_cases s1 : S.testBit (zd_q b J) = true
        · have s2 : ¬ S.testBit J = true := fun z => hed ⟨z, s1⟩
          rw [if_pos s1, if_neg s2]
          exact Int.le_refl _
        · rw [if_neg s1]
          split
          · exact Int.le_max_left _ _
          · exact Int.le_max_right _ _
      omega
    · intro i hi hne
      simp only [zd_st, e2, if_neg hne]
      exact ⟨trivial, trivial⟩
    · simp only [zd_st, e2, if_true]
      split <;> rfl
theorem zd_tb_or {S J i : Nat} : (S ||| 2 ^ J).testBit i = (S.testBit i || decide (i = J)) := by
  rw [Nat.testBit_or]
  by_cases e : i = J
  · subst e; rw [Nat.testBit_two_pow_self]; simp
  · rw [Nat.testBit_two_pow_of_ne (fun z => e z.symm)]; simp [e]
theorem zd_tb_lt {S J i : Nat} (h : S < 2 ^ J) (hi : J ≤ i) : S.testBit i = false := Nat.testBit_lt_two_pow (Nat.lt_of_lt_of_le h (Nat.pow_le_pow_right (by decide) hi))
theorem zd_at {n : Nat} {b : Nat → Int32} (hw : zt_wf n b) (g : Nat → Nat) : ∀ k, k < n → ∀ S0, S0 < 2 ^ (n - k) → ∃ S, S < 2 ^ n ∧ (∀ p, p < n - k → S.testBit p = S0.testBit p) ∧ (∀ i, n - k ≤ i → i < n → zd_ed b S i) ∧ zd_T (zd_st b g n 0).1 (zd_st b g n 0).2 S n = zd_T (zd_st b g n k).1 (zd_st b g n k).2 S0 (n - k) := by
  intro k
  induction k with
  | zero => intro _ S0 h; exact ⟨S0, h, fun _ _ => rfl, fun i h1 h2 => absurd h2 (by omega), rfl⟩
  | succ k ih =>
    intro hk S0 hS0
    obtain ⟨J, hJ⟩ : ∃ J, n - k = J + 1 := ⟨n - k - 1, by omega⟩
    have e1 : n - (k + 1) = J := by omega
    have e2 : n - 1 - k = J := by omega
    have hq : zd_q b J < J := zd_q_lt hw (by omega) (by omega)
    rw [e1] at hS0
    have up := zd_T_up (w := (zd_st b g n k).1) (o := (zd_st b g n k).2) (w' := (zd_st b g n (k + 1)).1) (o' := (zd_st b g n (k + 1)).2) (S := S0) (q := zd_q b J) (x := if S0.testBit (zd_q b J) = true then (zd_st b g n k).2 J else max ((zd_st b g n k).1 J) ((zd_st b g n k).2 J)) J hq (fun i hi hne => by simp only [zd_st, e2, if_neg hne]; exact ⟨trivial, trivial⟩) (by simp only [zd_st, e2, if_true]; split <;> rfl)
    have hbJ : S0.testBit J = false := zd_tb_lt hS0 (Nat.le_refl _)
    -- whether J is taken
    have pick : ∀ t : Bool, (if t = true then (zd_st b g n k).1 J else (zd_st b g n k).2 J) = (if S0.testBit (zd_q b J) = true then (zd_st b g n k).2 J else max ((zd_st b g n k).1 J) ((zd_st b g n k).2 J)) → ¬ (t = true ∧ S0.testBit (zd_q b J) = true) → ∃ S, S < 2 ^ n ∧ (∀ p, p < n - (k + 1) → S.testBit p = S0.testBit p) ∧ (∀ i, n - (k + 1) ≤ i → i < n → zd_ed b S i) ∧ zd_T (zd_st b g n 0).1 (zd_st b g n 0).2 S n = zd_T (zd_st b g n (k + 1)).1 (zd_st b g n (k + 1)).2 S0 (n - (k + 1)) := by
      intro t ht hed
      have hlt : (if t = true then S0 ||| 2 ^ J else S0) < 2 ^ (n - k) := by
        rw [hJ]
        split
        · exact Nat.or_lt_two_pow (Nat.lt_of_lt_of_le hS0 (Nat.pow_le_pow_right (by decide) (by omega))) (Nat.pow_lt_pow_right (by decide) (by omega))
        · exact Nat.lt_of_lt_of_le hS0 (Nat.pow_le_pow_right (by decide) (by omega))
      have tbl : ∀ p, p < J → (if t = true then S0 ||| 2 ^ J else S0).testBit p = S0.testBit p := by
        intro p hp
        split
        · rw [zd_tb_or]; have : ¬ p = J := by omega
          simp [this]
        · rfl
      have tbJ : (if t = true then S0 ||| 2 ^ J else S0).testBit J = t := by
        cases t with
        | true => rw [if_pos rfl, zd_tb_or]; simp
        | false => rw [if_neg (by decide)]; exact hbJ
      obtain ⟨S, s1, s2, s3, s4⟩ := ih (by omega) _ hlt
      refine ⟨S, s1, fun p hp => ?_, fun i h1 h2 => ?_, ?_⟩
      · rw [s2 p (by omega), tbl p (by omega)]
      · by_cases e : i = J
        · subst e
          unfold zd_ed
          rw [s2 i (by omega), tbJ, s2 _ (by omega), tbl _ hq]
          exact hed
        · exact s3 i (by omega) h2
      · rw [s4, hJ, e1, up]
        simp only [zd_T]
        rw [tbJ, ht, zd_T_c (S := if t = true then S0 ||| 2 ^ J else S0) (S' := S0) J (fun i hi => ⟨rfl, rfl, tbl i hi⟩)]
    by_cases s1 : S0.testBit (zd_q b J) = true
    · exact pick false (by rw [if_pos s1]; rfl) (by simp)
    · by_cases s2 : (zd_st b g n k).2 J ≤ (zd_st b g n k).1 J
      · exact pick true (by rw [if_neg s1, if_pos rfl, Int.max_eq_left s2]) (fun z => s1 z.2)
      · exact pick false (by rw [if_neg s1, if_neg (by decide), Int.max_eq_right (by omega)]) (by simp)
/-! the weight of a set -/
def zd_w (g : Nat → Nat) (S : Nat) : Nat → Nat
  | 0 => 0
  | k + 1 => zd_w g S k + (if S.testBit k = true then g k else 0)
theorem zd_w_c {g h : Nat → Nat} {S : Nat} : ∀ k, (∀ i, i < k → g i = h i) → zd_w g S k = zd_w h S k := by
  intro k
  induction k with
  | zero => intro _; rfl
  | succ k ih => intro e; simp only [zd_w]; rw [ih (fun i hi => e i (by omega)), e k (by omega)]
theorem zd_w_t {sz : Nat → Int32} {g : Nat → Nat} {S : Nat} : ∀ k, (∀ i, i < k → sz i = nI (g i)) → zs_t sz S k = nI (zd_w g S k) := by
  intro k
  induction k with
  | zero => intro _; rfl
  | succ k ih =>
    intro e
    have h1 := ih (fun i hi => e i (by omega))
    show zs_t sz S k + _ = _
    rw [h1]
    simp only [zd_w]
    by_cases c : S.testBit k = true
    · simp only [if_pos c]; rw [e k (by omega), nI_add]
    · simp only [if_neg c]; rw [Int32.add_zero, Nat.add_zero]
theorem zd_w_le {g : Nat → Nat} {S : Nat} : ∀ k, (∀ i, i < k → g i ≤ 99) → zd_w g S k ≤ 99 * k := by
  intro k
  induction k with
  | zero => intro _; exact Nat.le_refl _
  | succ k ih =>
    intro e
    have h1 := ih (fun i hi => e i (by omega))
    have h2 := e k (by omega)
    simp only [zd_w]
    split <;> omega
theorem zd_bits {S : Nat} : ∀ k, zb_set S.testBit k = S % 2 ^ k := by
  intro k
  apply Nat.eq_of_testBit_eq
  intro i
  rw [zb_set_tb, Nat.testBit_mod_two_pow]
theorem zd_set_s (P : Nat → Bool) (k : Nat) : zb_set P (k + 1) = zb_set P k + (if P k = true then 2 ^ k else 0) := by
  have hl := zb_set_lt P k
  simp only [zb_set]
  by_cases c : P k = true
  · rw [if_pos c, Nat.or_comm]
    have := Nat.two_pow_add_eq_or_of_lt hl 1
    rw [Nat.mul_one] at this
    rw [← this]; omega
  · rw [if_neg c]; simp
theorem zd_T_val {b : Nat → Int32} {g : Nat → Nat} {n S : Nat} : ∀ k, zd_T (zd_st b g n 0).1 (zd_st b g n 0).2 S k = (zd_w g S k : Int) * 1024 - (zb_set S.testBit k : Int) := by
  intro k
  induction k with
  | zero => simp [zd_T, zd_w, zb_set]
  | succ k ih =>
    simp only [zd_T]
    rw [ih, zd_set_s]
    simp only [zd_w, zd_st]
    split
    · omega
    · omega
def zd_ap (b : Nat → Int32) (S : Nat) : Nat → Bool
  | 0 => true
  | k + 1 => zd_ap b S k && (decide (k = 0) || !(S.testBit k && S.testBit (zd_q b k)))
theorem zd_ap_iff {b : Nat → Int32} {S : Nat} : ∀ k, zd_ap b S k = true ↔ ∀ i, 0 < i → i < k → zd_ed b S i := by
  intro k
  induction k with
  | zero => exact ⟨fun _ i _ h => absurd h (by omega), fun _ => rfl⟩
  | succ k ih =>
    simp only [zd_ap, Bool.and_eq_true, ih]
    constructor
    · rintro ⟨h1, h2⟩ i h0 hi
      by_cases e : i = k
      · subst e
        unfold zd_ed
        have : ¬ i = 0 := by omega
        simp [this] at h2
        intro z
        rcases h2 with h2 | h2
        · rw [z.1] at h2; exact absurd h2 (by decide)
        · rw [z.2] at h2; exact absurd h2 (by decide)
      · exact h1 i h0 (by omega)
    · intro h
      refine ⟨fun i h0 hi => h i h0 (by omega), ?_⟩
      by_cases e : k = 0
      · simp [e]
      · have := h k (by omega) (by omega)
        unfold zd_ed at this
        cases h1 : S.testBit k <;> cases h2 : S.testBit (zd_q b k) <;> simp_all
/-- the lowest of the heaviest sets, of those below N -/
def zd_b (W : Nat → Nat) (P : Nat → Bool) : Nat → Nat
  | 0 => 0
  | N + 1 => if W (zd_b W P N) < W N ∧ P N = true then N else zd_b W P N
theorem zd_b_is {W : Nat → Nat} {P : Nat → Bool} (h0 : W 0 = 0) (p0 : P 0 = true) : ∀ N, 0 < N → zd_b W P N < N ∧ P (zd_b W P N) = true ∧ ∀ S, S < N → P S = true → W S < W (zd_b W P N) ∨ (W S = W (zd_b W P N) ∧ zd_b W P N ≤ S) := by
  intro N
  induction N with
  | zero => intro h; omega
  | succ N ih =>
    intro _
    by_cases hN : N = 0
    · subst hN
      have : zd_b W P 1 = 0 := by
        have e : zd_b W P 1 = if W (zd_b W P 0) < W 0 ∧ P 0 = true then 0 else zd_b W P 0 := rfl
        rw [e]; split <;> rfl
      rw [this]
      exact ⟨by omega, p0, fun S hS _ => Or.inr ⟨by rw [show S = 0 by omega], by omega⟩⟩
    · obtain ⟨h1, h2, h3⟩ := ih (by omega)
      simp only [zd_b]
      by_cases c : W (zd_b W P N) < W N ∧ P N = true
      · rw [if_pos c]
        refine ⟨by omega, c.2, fun S hS pS => ?_⟩
        by_cases e : S = N
        · subst e; exact Or.inr ⟨rfl, Nat.le_refl _⟩
        · rcases h3 S (by omega) pS with z | ⟨z, -⟩
          · exact Or.inl (by omega)
          · exact Or.inl (by omega)
      · rw [if_neg c]
        refine ⟨by omega, h2, fun S hS pS => ?_⟩
        by_cases e : S = N
        · subst e
          have : ¬ W (zd_b W P S) < W S := fun z => c ⟨z, pS⟩
          rcases Nat.lt_or_ge (W S) (W (zd_b W P S)) with z | z
          · exact Or.inl z
          · exact Or.inr ⟨by omega, by omega⟩
        · exact h3 S (by omega) pS
/-- by the tree it comes to the same -/
theorem zd_main {n : Nat} {b : Nat → Int32} (hw : zt_wf n b) (h0 : 0 < n) (g : Nat → Nat) : max ((zd_st b g n (n - 1)).1 0) ((zd_st b g n (n - 1)).2 0) = (zd_w g (zd_b (fun S => zd_w g S n) (fun S => zd_ap b S n) (2 ^ n)) n : Int) * 1024 - (zd_b (fun S => zd_w g S n) (fun S => zd_ap b S n) (2 ^ n) : Int) := by
  have w0 : zd_w g 0 n = 0 := by
    have : ∀ k, zd_w g 0 k = 0 := by
      intro k
      induction k with
      | zero => rfl
      | succ k ih => simp only [zd_w, Nat.zero_testBit]; rw [ih]; rfl
    exact this n
  have p0 : zd_ap b 0 n = true := (zd_ap_iff n).mpr (fun i _ _ => by unfold zd_ed; simp)
  obtain ⟨b1, b2, b3⟩ := zd_b_is (W := fun S => zd_w g S n) (P := fun S => zd_ap b S n) w0 p0 (2 ^ n) (Nat.two_pow_pos n)
  generalize zd_b (fun S => zd_w g S n) (fun S => zd_ap b S n) (2 ^ n) = B at b1 b2 b3
  have hn10 : 2 ^ n ≤ 1024 := Nat.pow_le_pow_right (n := 2) (by decide) hw.1
  have e1 : n - (n - 1) = 1 := by omega
  have hT : ∀ S, zd_T (zd_st b g n (n - 1)).1 (zd_st b g n (n - 1)).2 S 1 = if S.testBit 0 = true then (zd_st b g n (n - 1)).1 0 else (zd_st b g n (n - 1)).2 0 := by
    intro S
    simp only [zd_T]; omega
  have val : ∀ S, S < 2 ^ n → zd_T (zd_st b g n 0).1 (zd_st b g n 0).2 S n = (zd_w g S n : Int) * 1024 - (S : Int) := by
    intro S hS
    rw [zd_T_val, zd_bits, Nat.mod_eq_of_lt hS]
  -- all sets apart are at most that
  have ub : ∀ S, S < 2 ^ n → zd_ap b S n = true → (zd_w g S n : Int) * 1024 - (S : Int) ≤ max ((zd_st b g n (n - 1)).1 0) ((zd_st b g n (n - 1)).2 0) := by
    intro S hS hap
    have := zd_ub hw g S (n - 1) (by omega) (fun i h1 h2 => (zd_ap_iff n).mp hap i (by omega) h2)
    rw [e1, hT, val S hS] at this
    split at this
    · exact Int.le_trans this (Int.le_max_left _ _)
    · exact Int.le_trans this (Int.le_max_right _ _)
  -- and one is just that
  have at_ : ∃ S, S < 2 ^ n ∧ zd_ap b S n = true ∧ (zd_w g S n : Int) * 1024 - (S : Int) = max ((zd_st b g n (n - 1)).1 0) ((zd_st b g n (n - 1)).2 0) := by
    have go : ∀ S0, S0 < 2 → zd_T (zd_st b g n (n - 1)).1 (zd_st b g n (n - 1)).2 S0 1 = max ((zd_st b g n (n - 1)).1 0) ((zd_st b g n (n - 1)).2 0) → ∃ S, S < 2 ^ n ∧ zd_ap b S n = true ∧ (zd_w g S n : Int) * 1024 - (S : Int) = max ((zd_st b g n (n - 1)).1 0) ((zd_st b g n (n - 1)).2 0) := by
      intro S0 hS0 hv
      obtain ⟨S, s1, s2, s3, s4⟩ := zd_at hw g (n - 1) (by omega) S0 (by rw [e1]; exact hS0)
      refine ⟨S, s1, (zd_ap_iff n).mpr (fun i h1 h2 => s3 i (by omega) h2), ?_⟩
      rw [← val S s1, s4, e1, hv]
    by_cases c : (zd_st b g n (n - 1)).2 0 ≤ (zd_st b g n (n - 1)).1 0
    · exact go 1 (by omega) (by rw [hT, if_pos (by decide), Int.max_eq_left c])
    · exact go 0 (by omega) (by rw [hT, if_neg (by decide), Int.max_eq_right (by omega)])
  obtain ⟨S, s1, s2, s3⟩ := at_
  have u := ub B b1 b2
  rcases b3 S s1 s2 with z | ⟨z, z2⟩
  · have z : zd_w g S n < zd_w g B n := z
    omega
  · have z : zd_w g S n = zd_w g B n := z
    omega
theorem zd_st_bd {b : Nat → Int32} {g : Nat → Nat} {n : Nat} (hn : n ≤ 10) (hg : ∀ i, i < n → g i ≤ 99) : ∀ k, k < n → ∀ p, p < n → -(131072 * (2 ^ k : Nat) : Int) ≤ (zd_st b g n k).1 p ∧ (zd_st b g n k).1 p ≤ 131072 * (2 ^ k : Nat) ∧ -(131072 * (2 ^ k : Nat) : Int) ≤ (zd_st b g n k).2 p ∧ (zd_st b g n k).2 p ≤ 131072 * (2 ^ k : Nat) := by
  intro k
  induction k with
  | zero =>
    intro _ p hp
    have h1 := hg p hp
    have h2 : 2 ^ p ≤ 2 ^ 9 := Nat.pow_le_pow_right (by decide) (by omega)
    simp only [zd_st]
    generalize 2 ^ p = X at *
    omega
  | succ k ih =>
    intro hk p hp
    obtain ⟨a1, a2, a3, a4⟩ := ih (by omega) p hp
    obtain ⟨c1, c2, c3, c4⟩ := ih (by omega) (n - 1 - k) (by omega)
    have e : 2 ^ (k + 1) = 2 ^ k * 2 := Nat.pow_succ ..
    simp only [zd_st]
    generalize (zd_st b g n k).1 p = A at *
    generalize (zd_st b g n k).2 p = B at *
    generalize (zd_st b g n k).1 (n - 1 - k) = C at *
    generalize (zd_st b g n k).2 (n - 1 - k) = D at *
    generalize 2 ^ k = X at *
    rw [e]
    split <;> omega
