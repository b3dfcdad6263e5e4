/-! ===== what a day leaves as it is ===== -/
/-- alike, the book aside -/
def zq_e (S S' : zW) : Prop := zWd S = zWd S' ∧ zWx S = zWx S' ∧ zWn S = zWn S' ∧ zWa S = zWa S' ∧ zWo S = zWo S'
theorem zq_e_refl (S : zW) : zq_e S S := ⟨rfl, rfl, rfl, rfl, rfl⟩
theorem zq_pt {S S' : zW} (h : zq_e S S') (x k : Nat) (v : Int32) : zq_e (zw_pt S x k v) (zw_pt S' x k v) := by
  obtain ⟨h1, h2, h3, h4, h5⟩ := h
  refine ⟨h1, h2, h3, ?_, h5⟩
  funext y i
  rw [zw_pt_a, zw_pt_a, h4]
theorem zq_dr {S S' : zW} (h : zq_e S S') : zq_e (zw_drw S) (zw_drw S') := ⟨h.1, congrArg zw_dr h.2.1, h.2.2.1, h.2.2.2.1, h.2.2.2.2⟩
theorem zq_wr {S S' : zW} (h : zq_e S S') (wr wr' : Bool) (k : Nat) (v : Int32) : zq_e (ze_wr wr S k v) (ze_wr wr' S' k v) := by
  unfold ze_wr
  cases wr <;> cases wr' <;> exact h
theorem zq_nm {S S' : zW} (h : zq_e S S') (b pr : Nat → Int32) (k p : Nat) : ze_nm b pr S k p = ze_nm b pr S' k p := by
  obtain ⟨h1, h2, h3, h4, h5⟩ := h
  unfold ze_nm ze_dk
  rw [h1, h3, h4]
theorem zq_u1 {S S' : zW} (h : zq_e S S') (n : Nat) (b pr : Nat → Int32) (T : Nat → Option zD) (k p : Nat) : zq_e (ze_u1 n b pr T S k p) (ze_u1 n b pr T S' k p) := by
  unfold ze_u1
  rw [zq_nm h, h.2.2.2.1]
  exact zq_pt (zq_pt h _ _ _) _ _ _
theorem zq_up {S S' : zW} (h : zq_e S S') (wr wr' : Bool) (n : Nat) (b pr : Nat → Int32) (T : Nat → Option zD) (k : Nat) : zq_e (ze_up wr n b pr T S k).1 (ze_up wr' n b pr T S' k).1 ∧ (ze_up wr n b pr T S k).2 = (ze_up wr' n b pr T S' k).2 := by
  have eb : ze_bs b S k = ze_bs b S' k := by unfold ze_bs; rw [h.2.2.2.1]
  have e1 : zWa S 1 k = zWa S' 1 k := by rw [h.2.2.2.1]
  unfold ze_up
  rw [← eb, ← e1]
  generalize ze_bs b S k = p
  have hu := zq_u1 h n b pr T k p
  have ep : ze_pd n b pr T (ze_u1 n b pr T S k p) k p = ze_pd n b pr T (ze_u1 n b pr T S' k p) k p := by
    unfold ze_pd; rw [zq_nm hu, hu.2.1]
  by_cases c : nI p = zWa S 1 k
  · rw [if_pos c, if_pos c, ← ep]
    by_cases c2 : ze_pd n b pr T (ze_u1 n b pr T S k p) k p = true
    · rw [if_pos c2, if_pos c2]
      exact ⟨zq_wr (zq_pt (zq_dr hu) _ _ _) _ _ _ _, rfl⟩
    · rw [if_neg c2, if_neg c2]
      refine ⟨?_, rfl⟩
      show zq_e (ze_uf wr _ k) (ze_uf wr' _ k)
      unfold ze_uf
      rw [hu.2.2.2.1]
      exact zq_wr (zq_pt (zq_pt (zq_dr hu) _ _ _) _ _ _) _ _ _ _
  · rw [if_neg c, if_neg c]
    exact ⟨hu, rfl⟩
theorem zq_dn {S S' : zW} (h : zq_e S S') (wr wr' : Bool) (n : Nat) (b pr : Nat → Int32) (T : Nat → Option zD) (k : Nat) : zq_e (ze_dn wr n b pr T S k).1 (ze_dn wr' n b pr T S' k).1 := by
  have eb : ze_ds b S k = ze_ds b S' k := by unfold ze_ds; rw [h.2.2.2.1]
  have e1 : zWa S 0 k = zWa S' 0 k := by rw [h.2.2.2.1]
  unfold ze_dn
  rw [← eb, ← e1]
  generalize ze_ds b S k = p
  have hu : zq_e (ze_d1 n b pr T S k p) (ze_d1 n b pr T S' k p) := by
    unfold ze_d1
    rw [zq_nm h]
    exact zq_pt (zq_pt h _ _ _) _ _ _
  by_cases c : nI p = zWa S 0 k
  · rw [if_pos c, if_pos c]
    exact zq_wr (zq_pt hu _ _ _) _ _ _ _
  · rw [if_neg c, if_neg c]
    exact hu
theorem zq_sst {S S' : zW} (h : zq_e S S') (wr wr' : Bool) (n : Nat) (b pr : Nat → Int32) (T : Nat → Option zD) (k : Nat) : zq_e (ze_st wr n b pr T S k).1 (ze_st wr' n b pr T S' k).1 ∧ (ze_st wr n b pr T S k).2.2 = (ze_st wr' n b pr T S' k).2.2 := by
  have em : zw_mv S k = zw_mv S' k := by unfold zw_mv; rw [h.2.2.2.1, h.1, h.2.2.2.2]
  have e4 : zWa S 4 k = zWa S' 4 k := by rw [h.2.2.2.1]
  unfold ze_st
  rw [← em, ← e4]
  by_cases c : zw_mv S k = true
  · rw [if_pos c, if_pos c]
    by_cases c2 : zWa S 4 k = 0
    · rw [if_pos c2, if_pos c2]
      exact zq_up h wr wr' n b pr T k
    · rw [if_neg c2, if_neg c2]
      exact ⟨zq_dn h wr wr' n b pr T k, rfl⟩
  · rw [if_neg c, if_neg c]
    exact ⟨h, rfl⟩
theorem zq_l1 (wr wr' : Bool) (n : Nat) (b pr : Nat → Int32) (T : Nat → Option zD) : ∀ (f k : Nat) (S S' : zW), zq_e S S' → zq_e (ze_l1 wr n b pr T f k S).1 (ze_l1 wr' n b pr T f k S').1 ∧ (ze_l1 wr n b pr T f k S).2.2 = (ze_l1 wr' n b pr T f k S').2.2 := by
  intro f
  induction f with
  | zero => intro k S S' h; exact ⟨h, rfl⟩
  | succ f ih =>
    intro k S S' h
    obtain ⟨h1, h2⟩ := zq_sst h wr wr' n b pr T k
    obtain ⟨h3, h4⟩ := ih (k + 1) _ _ h1
    refine ⟨h3, ?_⟩
    simp only [ze_l1]
    rw [h2, h4]
theorem zq_mg {S S' : zW} (h : zq_e S S') (wr wr' : Bool) (k e : Nat) : zq_e (ze_mg wr S k e) (ze_mg wr' S' k e) := by
  have em : ze_mv S k e = ze_mv S' k e := by unfold ze_mv; rw [h.2.2.2.1]
  unfold ze_mg
  rw [em]
  exact zq_wr (zq_pt (zq_pt (zq_pt h _ _ _) _ _ _) _ _ _) _ _ _ _
theorem zq_l3 (wr wr' : Bool) (k : Nat) : ∀ (f e : Nat) (S S' : zW), zq_e S S' → zq_e (ze_l3 wr k f e S).1 (ze_l3 wr' k f e S').1 := by
  intro f
  induction f with
  | zero => intro e S S' h; exact h
  | succ f ih =>
    intro e S S' h
    have em : ze_mc S k e = ze_mc S' k e := by unfold ze_mc; rw [h.2.2.2.1]
    simp only [ze_l3]
    rw [← em]
    by_cases c : ze_mc S k e = true
    · rw [if_pos c, if_pos c]; exact ih _ _ _ (zq_mg h wr wr' k e)
    · rw [if_neg c, if_neg c]; exact ih _ _ _ h
theorem zq_l2 (wr wr' : Bool) (m : Nat) : ∀ (f k : Nat) (S S' : zW), zq_e S S' → zq_e (ze_l2 wr m f k S).1 (ze_l2 wr' m f k S').1 := by
  intro f
  induction f with
  | zero => intro k S S' h; exact h
  | succ f ih => intro k S S' h; exact ih (k + 1) _ _ (zq_l3 wr wr' k _ _ _ _ h)
theorem zq_ps {S S' : zW} (h : zq_e S S') (wr wr' : Bool) (n : Nat) (b pr : Nat → Int32) (T : Nat → Option zD) : zq_e (ze_ps wr n b pr T S) (ze_ps wr' n b pr T S') ∧ (ze_p1 wr n b pr T S).2.2 = (ze_p1 wr' n b pr T S').2.2 := by
  obtain ⟨h1, h2⟩ := zq_l1 wr wr' n b pr T (zWn S) 0 S S' h
  have h3 := zq_l2 wr wr' (zWn S) (zWn S) 0 _ _ h1
  unfold ze_ps ze_p2 ze_p1
  rw [← h.2.2.1]
  exact ⟨⟨congrArg (· + 1) h3.1, h3.2.1, h3.2.2.1, h3.2.2.2.1, h3.2.2.2.2⟩, h2⟩
/-! the book stays, if it isn't written -/
def zq_b (S S' : zW) : Prop := zWm S' = zWm S ∧ zWb S' = zWb S
theorem zq_b_st (n : Nat) (b pr : Nat → Int32) (T : Nat → Option zD) (S : zW) (k : Nat) : zq_b S (ze_st false n b pr T S k).1 := by
  unfold ze_st
  split
  · split
    · unfold ze_up
      split
      · split <;> exact ⟨rfl, rfl⟩
      · exact ⟨rfl, rfl⟩
    · unfold ze_dn
      split <;> exact ⟨rfl, rfl⟩
  · exact ⟨rfl, rfl⟩
theorem zq_b_t {S S' S'' : zW} (h : zq_b S S') (h2 : zq_b S' S'') : zq_b S S'' := ⟨h2.1.trans h.1, h2.2.trans h.2⟩
theorem zq_b_l1 (n : Nat) (b pr : Nat → Int32) (T : Nat → Option zD) : ∀ (f k : Nat) (S : zW), zq_b S (ze_l1 false n b pr T f k S).1 := by
  intro f
  induction f with
  | zero => intro k S; exact ⟨rfl, rfl⟩
  | succ f ih => intro k S; exact zq_b_t (zq_b_st n b pr T S k) (ih (k + 1) _)
theorem zq_b_l3 (k : Nat) : ∀ (f e : Nat) (S : zW), zq_b S (ze_l3 false k f e S).1 := by
  intro f
  induction f with
  | zero => intro e S; exact ⟨rfl, rfl⟩
  | succ f ih =>
    intro e S
    simp only [ze_l3]
    split
    · exact zq_b_t (S' := ze_mg false S k e) ⟨rfl, rfl⟩ (ih _ _)
    · exact ih _ _
theorem zq_b_l2 (m : Nat) : ∀ (f k : Nat) (S : zW), zq_b S (ze_l2 false m f k S).1 := by
  intro f
  induction f with
  | zero => intro k S; exact ⟨rfl, rfl⟩
  | succ f ih => intro k S; exact zq_b_t (zq_b_l3 k _ _ S) (ih (k + 1) _)
theorem zq_b_ps (n : Nat) (b pr : Nat → Int32) (T : Nat → Option zD) (S : zW) : zq_b S (ze_ps false n b pr T S) := zq_b_t (zq_b_l1 n b pr T (zWn S) 0 S) (zq_b_l2 (zWn S) (zWn S) 0 _)
/-! one apology, and the steps of others -/
theorem ze_wr_a (wr : Bool) (S : zW) (k : Nat) (v : Int32) : zWa (ze_wr wr S k v) = zWa S := by
  unfold ze_wr
  cases wr <;> rfl
theorem ze_st_o (wr : Bool) (n : Nat) (b pr : Nat → Int32) (T : Nat → Option zD) (S : zW) {j k : Nat} (h : k ≠ j) (x : Nat) : zWa (ze_st wr n b pr T S j).1 x k = zWa S x k := by
  have p : ∀ (S : zW) (y : Nat) (v : Int32), zWa (zw_pt S y j v) x k = zWa S x k := fun S y v => by rw [zw_pt_a, if_neg (fun z => h z.2)]
  unfold ze_st
  split
  · split
    · unfold ze_up
      split
      · split
        · show zWa (ze_us wr _ j) x k = _
          unfold ze_us ze_u1
          rw [ze_wr_a, p]
          show zWa (zw_pt (zw_pt S 3 j _) 2 j _) x k = _
          rw [p, p]
        · show zWa (ze_uf wr _ j) x k = _
          unfold ze_uf
          rw [ze_wr_a, p, p]
          show zWa (ze_u1 n b pr T S j _) x k = _
          unfold ze_u1
          rw [p, p]
      · show zWa (ze_u1 n b pr T S j _) x k = _
        unfold ze_u1
        rw [p, p]
    · unfold ze_dn
      split
      · show zWa (ze_wr wr _ j 2) x k = _
        rw [ze_wr_a, p]
        unfold ze_d1
        rw [p, p]
      · show zWa (ze_d1 n b pr T S j _) x k = _
        unfold ze_d1
        rw [p, p]
  · rfl
theorem ze_up_4 (wr : Bool) (n : Nat) (b pr : Nat → Int32) (T : Nat → Option zD) (S : zW) (k : Nat) (h : zWa S 4 k = 0) : zWa (ze_up wr n b pr T S k).1 4 k = if (ze_up wr n b pr T S k).2 then 1 else 0 := by
  have u : ∀ p, zWa (ze_u1 n b pr T S k p) 4 k = 0 := fun p => by
    unfold ze_u1
    rw [zw_pt_a, if_neg (by omega), zw_pt_a, if_neg (by omega)]; exact h
  unfold ze_up
  split
  · split
    · show zWa (ze_us wr _ k) 4 k = 1
      unfold ze_us
      rw [ze_wr_a, zw_pt_a, if_pos ⟨rfl, rfl⟩]
    · show zWa (ze_uf wr _ k) 4 k = 0
      unfold ze_uf
      rw [ze_wr_a, zw_pt_a, if_neg (by omega), zw_pt_a, if_neg (by omega)]
      exact u _
  · exact u _
theorem ze_dn_4 (wr : Bool) (n : Nat) (b pr : Nat → Int32) (T : Nat → Option zD) (S : zW) (k : Nat) (h : ¬ zWa S 4 k = 0) : ¬ zWa (ze_dn wr n b pr T S k).1 4 k = 0 := by
  unfold ze_dn
  split
  · show ¬ zWa (ze_wr wr _ k 2) 4 k = 0
    rw [ze_wr_a, zw_pt_a, if_pos ⟨rfl, rfl⟩]; decide
  · show ¬ zWa (ze_d1 n b pr T S k _) 4 k = 0
    unfold ze_d1
    rw [zw_pt_a, if_neg (by omega), zw_pt_a, if_neg (by omega)]; exact h
/-- how an apology is behind its step, and whether it was pardoned in it -/
def ze_hw (h h' : Int32) (p : Bool) : Prop := if h = 0 then h' = (if p then 1 else 0) else (p = false ∧ ¬ h' = 0)
theorem ze_st_k (wr : Bool) (n : Nat) (b pr : Nat → Int32) (T : Nat → Option zD) (S : zW) (k : Nat) : ze_hw (zWa S 4 k) (zWa (ze_st wr n b pr T S k).1 4 k) (ze_st wr n b pr T S k).2.2 := by
  unfold ze_hw ze_st
  by_cases c : zw_mv S k = true
  · rw [if_pos c]
    by_cases c0 : zWa S 4 k = 0
    · rw [if_pos c0, if_pos c0]
      exact ze_up_4 wr n b pr T S k c0
    · rw [if_neg c0, if_neg c0]
      exact ⟨rfl, ze_dn_4 wr n b pr T S k c0⟩
  · rw [if_neg c]
    by_cases c0 : zWa S 4 k = 0
    · rw [if_pos c0]; exact c0
    · rw [if_neg c0]; exact ⟨rfl, c0⟩
theorem ze_tb {k j : Nat} {p : Bool} : (if p then 2 ^ j else 0 : Nat).testBit k = (p && decide (j = k)) := by
  cases p with
  | true => simp [Nat.testBit_two_pow]
  | false => simp
theorem ze_l1_k (wr : Bool) (n : Nat) (b pr : Nat → Int32) (T : Nat → Option zD) (k : Nat) : ∀ (f j : Nat) (S : zW), (k < j → (∀ x, zWa (ze_l1 wr n b pr T f j S).1 x k = zWa S x k) ∧ (ze_l1 wr n b pr T f j S).2.2.testBit k = false) ∧ (j ≤ k → k < j + f → ze_hw (zWa S 4 k) (zWa (ze_l1 wr n b pr T f j S).1 4 k) ((ze_l1 wr n b pr T f j S).2.2.testBit k)) := by
  intro f
  induction f with
  | zero => intro j S; exact ⟨fun _ => ⟨fun _ => rfl, by simp [ze_l1]⟩, fun h1 h2 => by omega⟩
  | succ f ih =>
    intro j S
    obtain ⟨i1, i2⟩ := ih (j + 1) (ze_st wr n b pr T S j).1
    simp only [ze_l1, Nat.testBit_or, ze_tb]
    refine ⟨fun hk => ?_, fun h1 h2 => ?_⟩
    · obtain ⟨a1, a2⟩ := i1 (by omega)
      refine ⟨fun x => (a1 x).trans (ze_st_o wr n b pr T S (by omega) x), ?_⟩
      rw [a2, decide_eq_false (by omega)]; simp
    · by_cases c : j = k
      · subst c
        obtain ⟨a1, a2⟩ := i1 (by omega)
        rw [a2, a1 4, decide_eq_true rfl]
        simp only [Bool.and_true, Bool.or_false]
        exact ze_st_k wr n b pr T S j
      · have := i2 (by omega) (by omega)
        rw [ze_st_o wr n b pr T S (by omega) 4] at this
        rw [decide_eq_false c]
        simp only [Bool.and_false, Bool.false_or]
        exact this
theorem ze_l3_k (wr : Bool) (k i : Nat) : ∀ (f e : Nat) (S : zW), (∀ x, ¬ zWa S 4 i = 0 → zWa (ze_l3 wr k f e S).1 x i = zWa S x i) ∧ (zWa S 4 i = 0 → zWa (ze_l3 wr k f e S).1 4 i = 0 ∨ zWa (ze_l3 wr k f e S).1 4 i = 2) := by
  intro f
  induction f with
  | zero => intro e S; exact ⟨fun _ _ => rfl, fun h => Or.inl h⟩
  | succ f ih =>
    intro e S
    simp only [ze_l3]
    by_cases c : ze_mc S k e = true
    · rw [if_pos c]
      obtain ⟨i1, i2⟩ := ih (e + 1) (ze_mg wr S k e)
      have mc := c
      unfold ze_mc at mc
      simp only [Bool.and_eq_true, decide_eq_true_eq] at mc
      have ma : ∀ x, zWa (ze_mg wr S k e) x i = if x = 4 ∧ i = e then 2 else if x = 3 ∧ i = e then 0 else if x = 3 ∧ i = k then ze_mn (ze_mv S k e) else zWa S x i := fun x => by
        unfold ze_mg
        rw [ze_wr_a, zw_pt_a, zw_pt_a, zw_pt_a]
      refine ⟨fun x hne => ?_, fun h0 => ?_⟩
      · have ne : i ≠ e := fun z => hne (by rw [z]; exact mc.1.1.2)
        have nk : i ≠ k := fun z => hne (by rw [z]; exact mc.1.1.1)
        have e4 : ∀ x, zWa (ze_mg wr S k e) x i = zWa S x i := fun x => by rw [ma, if_neg (fun z => ne z.2), if_neg (fun z => ne z.2), if_neg (fun z => nk z.2)]
        rw [i1 x (by rw [e4]; exact hne), e4]
      · have e4 : zWa (ze_mg wr S k e) 4 i = if i = e then 2 else zWa S 4 i := by
          rw [ma]
          by_cases z : i = e
          · rw [if_pos ⟨rfl, z⟩, if_pos z]
          · rw [if_neg (fun w => z w.2), if_neg (by omega), if_neg (by omega), if_neg z]
        by_cases z : i = e
        · rw [if_pos z] at e4
          right
          rw [i1 4 (by rw [e4]; decide), e4]
        · rw [if_neg z, h0] at e4
          exact i2 e4
    · rw [if_neg c]; exact ih _ _
theorem ze_l2_k (wr : Bool) (m i : Nat) : ∀ (f k : Nat) (S : zW), (∀ x, ¬ zWa S 4 i = 0 → zWa (ze_l2 wr m f k S).1 x i = zWa S x i) ∧ (zWa S 4 i = 0 → zWa (ze_l2 wr m f k S).1 4 i = 0 ∨ zWa (ze_l2 wr m f k S).1 4 i = 2) := by
  intro f
  induction f with
  | zero => intro k S; exact ⟨fun _ _ => rfl, fun h => Or.inl h⟩
  | succ f ih =>
    intro k S
    obtain ⟨a1, a2⟩ := ze_l3_k wr k i (m - (k + 1)) (k + 1) S
    obtain ⟨b1, b2⟩ := ih (k + 1) (ze_l3 wr k (m - (k + 1)) (k + 1) S).1
    simp only [ze_l2]
    refine ⟨fun x hne => ?_, fun h0 => ?_⟩
    · rw [b1 x (by rw [a1 4 hne]; exact hne), a1 x hne]
    · rcases a2 h0 with z | z
      · exact b2 z
      · right
        rw [b1 4 (by rw [z]; decide), z]
/-- pardoned in a day: it went up ahead of it, and comes down behind it -/
theorem ze_ps_k (wr : Bool) (n : Nat) (b pr : Nat → Int32) (T : Nat → Option zD) (S : zW) {k : Nat} (hk : k < zWn S) : (zWa S 4 k = 0 → (zWa (ze_ps wr n b pr T S) 4 k = 1 ↔ (ze_p1 wr n b pr T S).2.2.testBit k = true)) ∧ (¬ zWa S 4 k = 0 → (ze_p1 wr n b pr T S).2.2.testBit k = false ∧ ¬ zWa (ze_ps wr n b pr T S) 4 k = 0) := by
  have h1 := (ze_l1_k wr n b pr T k (zWn S) 0 S).2 (Nat.zero_le _) (by omega)
  obtain ⟨a1, a2⟩ := ze_l2_k wr (zWn S) k (zWn S) 0 (ze_p1 wr n b pr T S).1
  have e : zWa (ze_ps wr n b pr T S) = zWa (ze_l2 wr (zWn S) (zWn S) 0 (ze_p1 wr n b pr T S).1).1 := rfl
  rw [e]
  have h1 : ze_hw (zWa S 4 k) (zWa (ze_p1 wr n b pr T S).1 4 k) ((ze_p1 wr n b pr T S).2.2.testBit k) := h1
  unfold ze_hw at h1
  refine ⟨fun h0 => ?_, fun h0 => ?_⟩
  · rw [if_pos h0] at h1
    cases hp : (ze_p1 wr n b pr T S).2.2.testBit k with
    | true =>
      rw [hp] at h1
      have h1 : zWa (ze_p1 wr n b pr T S).1 4 k = 1 := h1
      rw [a1 4 (by rw [h1]; decide), h1]
      simp
    | false =>
      rw [hp] at h1
      have h1 : zWa (ze_p1 wr n b pr T S).1 4 k = 0 := h1
      rcases a2 h1 with z | z
      · rw [z]; simp
      · rw [z]; simp
  · rw [if_neg h0] at h1
    exact ⟨h1.1, by rw [a1 4 h1.2]; exact h1.2⟩
theorem ze_l1_2 (wr : Bool) (n : Nat) (b pr : Nat → Int32) (T : Nat → Option zD) (k : Nat) : ∀ (f j : Nat) (S : zW), zWa S 4 k = 2 → ∀ x, zWa (ze_l1 wr n b pr T f j S).1 x k = zWa S x k := by
  intro f
  induction f with
  | zero => intro j S _ x; rfl
  | succ f ih =>
    intro j S h x
    have st : ∀ x, zWa (ze_st wr n b pr T S j).1 x k = zWa S x k := by
      intro x
      by_cases c : k = j
      · subst c
        have : zw_mv S k = false := by unfold zw_mv; simp [h]
        unfold ze_st
        rw [if_neg (by rw [this]; decide)]
      · exact ze_st_o wr n b pr T S c x
    simp only [ze_l1]
    rw [ih (j + 1) _ (by rw [st]; exact h) x, st]
/-- what is done with stays -/
theorem ze_ps_2 (wr : Bool) (n : Nat) (b pr : Nat → Int32) (T : Nat → Option zD) (S : zW) {k : Nat} (h : zWa S 4 k = 2) (x : Nat) : zWa (ze_ps wr n b pr T S) x k = zWa S x k := by
  have h1 := ze_l1_2 wr n b pr T k (zWn S) 0 S h
  have e : zWa (ze_ps wr n b pr T S) = zWa (ze_l2 wr (zWn S) (zWn S) 0 (ze_l1 wr n b pr T (zWn S) 0 S).1).1 := rfl
  rw [e, (ze_l2_k wr (zWn S) k (zWn S) 0 _).1 x (by rw [h1, h]; decide), h1]
theorem ze_l1_hi (wr : Bool) (n : Nat) (b pr : Nat → Int32) (T : Nat → Option zD) : ∀ (f j : Nat) (S : zW) (k : Nat), j + f ≤ k → (ze_l1 wr n b pr T f j S).2.2.testBit k = false := by
  intro f
  induction f with
  | zero => intro j S k _; simp [ze_l1]
  | succ f ih =>
    intro j S k hk
    simp only [ze_l1, Nat.testBit_or, ze_tb]
    rw [ih (j + 1) _ k (by omega), decide_eq_false (by omega)]
    simp
