/-! ===== the route: days come to their ends; a way is there ===== -/
theorem zr_rel_le (c : Nat → Nat → Nat) (d : Nat → Nat) (p e q : Nat) : zr_rel c d p e q ≤ d q := by
  unfold zr_rel
  split
  · next h =>
    unfold zr_up
    by_cases z : q = p
    · rw [if_pos z, z]; omega
    · rw [if_neg z]; exact Nat.le_refl _
  · exact Nat.le_refl _
theorem zr_rel_at (c : Nat → Nat → Nat) (d : Nat → Nat) {p e : Nat} (h : 0 < c p e) : zr_rel c d p e p ≤ d e + c p e := by
  unfold zr_rel
  split
  · unfold zr_up; rw [if_pos rfl]; exact Nat.le_refl _
  · next h2 =>
    rcases Nat.lt_or_ge (d e + c p e) (d p) with z | z
    · exact absurd ⟨h, z⟩ h2
    · exact z
theorem zr_l1_le (c : Nat → Nat → Nat) (p q : Nat) : ∀ (f e : Nat) (d : Nat → Nat), zr_l1 c p f e d q ≤ d q := by
  intro f
  induction f with
  | zero => intro e d; exact Nat.le_refl _
  | succ f ih => intro e d; exact Nat.le_trans (ih (e + 1) _) (zr_rel_le c d p e q)
theorem zr_l1_at (c : Nat → Nat → Nat) (p e : Nat) (h : 0 < c p e) : ∀ (f k : Nat) (d : Nat → Nat), k ≤ e → e < k + f → zr_l1 c p f k d p ≤ d e + c p e := by
  intro f
  induction f with
  | zero => intro k d h1 h2; omega
  | succ f ih =>
    intro k d h1 h2
    simp only [zr_l1]
    by_cases z : k = e
    · subst z
      exact Nat.le_trans (zr_l1_le c p p f (k + 1) _) (zr_rel_at c d h)
    · exact Nat.le_trans (ih (k + 1) _ (by omega) (by omega)) (Nat.add_le_add_right (zr_rel_le c d p k e) _)
theorem zr_l2_le (c : Nat → Nat → Nat) (n q : Nat) : ∀ (f p : Nat) (d : Nat → Nat), zr_l2 c n f p d q ≤ d q := by
  intro f
  induction f with
  | zero => intro p d; exact Nat.le_refl _
  | succ f ih => intro p d; exact Nat.le_trans (ih (p + 1) _) (zr_l1_le c p q n 0 d)
theorem zr_l2_at (c : Nat → Nat → Nat) (n p e : Nat) (h : 0 < c p e) (he : e < n) : ∀ (f k : Nat) (d : Nat → Nat), k ≤ p → p < k + f → zr_l2 c n f k d p ≤ d e + c p e := by
  intro f
  induction f with
  | zero => intro k d h1 h2; omega
  | succ f ih =>
    intro k d h1 h2
    simp only [zr_l2]
    by_cases z : k = p
    · subst z
      exact Nat.le_trans (zr_l2_le c n k f (k + 1) _) (zr_l1_at c k e h n 0 d (Nat.zero_le _) (by omega))
    · exact Nat.le_trans (ih (k + 1) _ (by omega) (by omega)) (Nat.add_le_add_right (zr_l1_le c k e n 0 d) _)
theorem zr_rel_hi (c : Nat → Nat → Nat) (d : Nat → Nat) {n p e q : Nat} (hp : p < n) (hq : n ≤ q) : zr_rel c d p e q = d q := by
  unfold zr_rel
  split
  · unfold zr_up; rw [if_neg (by omega)]
  · rfl
theorem zr_l1_hi (c : Nat → Nat → Nat) {n p q : Nat} (hp : p < n) (hq : n ≤ q) : ∀ (f e : Nat) (d : Nat → Nat), zr_l1 c p f e d q = d q := by
  intro f
  induction f with
  | zero => intro e d; rfl
  | succ f ih => intro e d; exact (ih (e + 1) _).trans (zr_rel_hi c d hp hq)
theorem zr_l2_hi (c : Nat → Nat → Nat) {n q : Nat} (hq : n ≤ q) : ∀ (f p : Nat) (d : Nat → Nat), p + f ≤ n → zr_l2 c n f p d q = d q := by
  intro f
  induction f with
  | zero => intro p d _; rfl
  | succ f ih => intro p d h; exact (ih (p + 1) _ (by omega)).trans (zr_l1_hi c (by omega) hq n 0 d)
def zr_rd (c : Nat → Nat → Nat) (n : Nat) (d : Nat → Nat) : Nat → Nat := zr_l2 c n n 0 d
theorem zr_l3_s (c : Nat → Nat → Nat) (n : Nat) : ∀ (r : Nat) (d : Nat → Nat), zr_l3 c n (r + 1) d = zr_rd c n (zr_l3 c n r d) := by
  intro r
  induction r with
  | zero => intro d; rfl
  | succ r ih => intro d; exact ih (zr_l2 c n n 0 d)
theorem zr_l3_le (c : Nat → Nat → Nat) (n q : Nat) (d : Nat → Nat) : ∀ (s r : Nat), zr_l3 c n (r + s) d q ≤ zr_l3 c n r d q := by
  intro s
  induction s with
  | zero => intro r; exact Nat.le_refl _
  | succ s ih =>
    intro r
    rw [← Nat.add_assoc, zr_l3_s]
    exact Nat.le_trans (zr_l2_le c n q n 0 _) (ih r)
def zr_sum (d : Nat → Nat) : Nat → Nat
  | 0 => 0
  | k + 1 => zr_sum d k + d k
theorem zr_sum_le {d d' : Nat → Nat} (h : ∀ q, d' q ≤ d q) : ∀ n, zr_sum d' n ≤ zr_sum d n ∧ ((∃ q, q < n ∧ d' q < d q) → zr_sum d' n < zr_sum d n) := by
  intro n
  induction n with
  | zero => exact ⟨Nat.le_refl _, fun ⟨q, h, _⟩ => by omega⟩
  | succ n ih =>
    have h1 := h n
    have i1 := ih.1
    refine ⟨by simp only [zr_sum]; omega, fun ⟨q, hq, hd⟩ => ?_⟩
    simp only [zr_sum]
    by_cases z : q = n
    · subst z; omega
    · have := ih.2 ⟨q, by omega, hd⟩; omega
theorem zr_fix (c : Nat → Nat → Nat) (n : Nat) : ∀ (m : Nat) (d : Nat → Nat), zr_sum d n ≤ m → ∃ R, zr_rd c n (zr_l3 c n R d) = zr_l3 c n R d := by
  intro m
  induction m with
  | zero =>
    intro d h
    refine ⟨0, ?_⟩
    show zr_rd c n d = d
    funext q
    by_cases hq : q < n
    · have h1 := zr_l2_le c n q n 0 d
      have h2 := zr_sum_le (d := d) (d' := zr_rd c n d) (fun q => zr_l2_le c n q n 0 d) n
      rcases Nat.lt_or_ge (zr_rd c n d q) (d q) with z | z
      · have := h2.2 ⟨q, hq, z⟩; omega
      · exact Nat.le_antisymm h1 z
    · exact zr_l2_hi c (by omega) n 0 d (by omega)
  | succ m ih =>
    intro d h
    by_cases hz : ∃ q, q < n ∧ zr_rd c n d q < d q
    · have h2 := (zr_sum_le (d := d) (d' := zr_rd c n d) (fun q => zr_l2_le c n q n 0 d) n).2 hz
      obtain ⟨R, hR⟩ := ih (zr_rd c n d) (by omega)
      exact ⟨R + 1, hR⟩
    · refine ⟨0, ?_⟩
      show zr_rd c n d = d
      funext q
      by_cases hq : q < n
      · have h1 := zr_l2_le c n q n 0 d
        rcases Nat.lt_or_ge (zr_rd c n d q) (d q) with z | z
        · exact absurd ⟨q, hq, z⟩ hz
        · exact Nat.le_antisymm h1 z
      · exact zr_l2_hi c (by omega) n 0 d (by omega)
/-- who has days has them by a step -/
def zr_T (c : Nat → Nat → Nat) (n to : Nat) (d : Nat → Nat) : Prop := ∀ p, p < n → p ≠ to → d p < 1000 → ∃ e, e < n ∧ 0 < c p e ∧ d e + c p e ≤ d p
theorem zr_T_rel {c : Nat → Nat → Nat} {n to p e : Nat} {d : Nat → Nat} (he : e < n) (h : zr_T c n to d) : zr_T c n to (zr_rel c d p e) := by
  intro p' hp' hne hd
  have mono := zr_rel_le c d p e
  by_cases z : p' = p ∧ (0 < c p e ∧ d e + c p e < d p)
  · obtain ⟨rfl, z1, z2⟩ := z
    refine ⟨e, he, z1, ?_⟩
    have e1 : zr_rel c d p' e p' = d e + c p' e := by
      unfold zr_rel; rw [if_pos ⟨z1, z2⟩]; unfold zr_up; rw [if_pos rfl]
    rw [e1]
    have := mono e
    omega
  · have same : zr_rel c d p e p' = d p' := by
      unfold zr_rel
      split
      · next h2 =>
        unfold zr_up
        by_cases w : p' = p
        · exact absurd ⟨w, h2⟩ z
        · rw [if_neg w]
      · rfl
    rw [same] at hd ⊢
    obtain ⟨e', h1, h2, h3⟩ := h p' hp' hne hd
    have := mono e'
    exact ⟨e', h1, h2, by omega⟩
theorem zr_T_l1 {c : Nat → Nat → Nat} {n to p : Nat} : ∀ (f e : Nat) (d : Nat → Nat), e + f ≤ n → zr_T c n to d → zr_T c n to (zr_l1 c p f e d) := by
  intro f
  induction f with
  | zero => intro e d _ h; exact h
  | succ f ih => intro e d he h; exact ih (e + 1) _ (by omega) (zr_T_rel (by omega) h)
theorem zr_T_l2 {c : Nat → Nat → Nat} {n to : Nat} : ∀ (f p : Nat) (d : Nat → Nat), zr_T c n to d → zr_T c n to (zr_l2 c n f p d) := by
  intro f
  induction f with
  | zero => intro p d h; exact h
  | succ f ih => intro p d h; exact ih (p + 1) _ (zr_T_l1 n 0 d (by omega) h)
theorem zr_T_l3 {c : Nat → Nat → Nat} {n to : Nat} : ∀ (f : Nat) (d : Nat → Nat), zr_T c n to d → zr_T c n to (zr_l3 c n f d) := by
  intro f
  induction f with
  | zero => intro d h; exact h
  | succ f ih => intro d h; exact ih _ (zr_T_l2 n 0 d h)
theorem zr_T_0 {c : Nat → Nat → Nat} {n to : Nat} : zr_T c n to (zr_d0 to) := by
  intro p _ hne hd
  unfold zr_d0 at hd
  rw [if_neg hne] at hd
  omega
theorem zr_fl (c : Nat → Nat → Nat) (n R : Nat) (d : Nat → Nat) (hR : zr_rd c n (zr_l3 c n R d) = zr_l3 c n R d) : ∀ s, zr_l3 c n (R + s) d = zr_l3 c n R d := by
  intro s
  induction s with
  | zero => rfl
  | succ s ih => rw [← Nat.add_assoc, zr_l3_s, ih, hR]
/-- n rounds are enough -/
theorem zr_conv {c : Nat → Nat → Nat} {n to : Nat} (hc : ∀ p e, c p e ≤ 2) (hn : n ≤ 10) (hto : to < n) : zr_rd c n (zr_l3 c n n (zr_d0 to)) = zr_l3 c n n (zr_d0 to) := by
  obtain ⟨R, hR⟩ := zr_fix c n _ (zr_d0 to) (Nat.le_refl _)
  have fl := zr_fl c n R (zr_d0 to) hR
  have hi := zr_l3_i hc hn R (zr_d0 to) (zr_d0_i hto)
  have hT := zr_T_l3 (c := c) (n := n) (to := to) R (zr_d0 to) zr_T_0
  generalize hD : zr_l3 c n R (zr_d0 to) = D at *
  have ge : ∀ r q, D q ≤ zr_l3 c n r (zr_d0 to) q := by
    intro r q
    have h1 := zr_l3_le c n q (zr_d0 to) R r
    rw [Nat.add_comm r R, fl r] at h1
    exact h1
  have key : ∀ r p, p < n → zr_rk D n p ≤ r → zr_l3 c n r (zr_d0 to) p ≤ D p := by
    intro r
    induction r with
    | zero =>
      intro p hp hr
      show zr_d0 to p ≤ D p
      unfold zr_d0
      by_cases z : p = to
      · rw [if_pos z]; omega
      · rw [if_neg z]
        rcases Nat.lt_or_ge (D p) 1000 with w | w
        · obtain ⟨e, h1, h2, h3⟩ := hT p hp z w
          have := zr_rk_lt (d := D) (n := n) (p := p) h1 (by omega)
          omega
        · exact w
    | succ r ih =>
      intro p hp hr
      rw [zr_l3_s]
      by_cases z : p = to
      · have h0 : zr_l3 c n (r + 1) (zr_d0 to) p ≤ zr_l3 c n 0 (zr_d0 to) p := by
          have := zr_l3_le c n p (zr_d0 to) (r + 1) 0
          rw [Nat.zero_add] at this; exact this
        rw [zr_l3_s] at h0
        have h1 : zr_l3 c n 0 (zr_d0 to) p = 0 := by show zr_d0 to p = 0; unfold zr_d0; rw [if_pos z]
        omega
      · rcases Nat.lt_or_ge (D p) 1000 with w | w
        · obtain ⟨e, h1, h2, h3⟩ := hT p hp z w
          have h4 := zr_rk_lt (d := D) (n := n) (p := p) h1 (by omega)
          have h5 := ih e h1 (by omega)
          have h6 := zr_l2_at c n p e h2 h1 n 0 (zr_l3 c n r (zr_d0 to)) (Nat.zero_le _) (by omega)
          show zr_l2 c n n 0 _ p ≤ D p
          omega
        · have h1 := (zr_l3_i hc hn (r + 1) (zr_d0 to) (zr_d0_i hto)).1 p
          rw [zr_l3_s] at h1
          omega
  have all : zr_l3 c n n (zr_d0 to) = D := by
    funext q
    by_cases hq : q < n
    · refine Nat.le_antisymm (key n q hq ?_) (ge n q)
      have := zr_rk_9 (d := D) (n := n) hq hn
      unfold zr_rk
      exact zc_n_le _ _
    · have hi' : ∀ r, zr_l3 c n r (zr_d0 to) q = zr_d0 to q := by
        intro r
        induction r with
        | zero => rfl
        | succ r ihr => rw [zr_l3_s, show zr_rd c n (zr_l3 c n r (zr_d0 to)) q = zr_l3 c n r (zr_d0 to) q from zr_l2_hi c (by omega) n 0 _ (by omega), ihr]
      rw [hi' n, ← hD, hi' R]
  rw [all]; exact hR
theorem zr_tight {b cs : Nat → Int32} {n to p : Nat} (hn : n ≤ 10) (hto : to < n) (hp : p < n) (hne : p ≠ to) (hd : zr_ds n b cs to p < 1000) : ∃ e, e < n ∧ zr_ok (zr_c b cs to) (zr_ds n b cs to) p e = true := by
  have hc2 : ∀ p e, zr_c b cs to p e ≤ 2 := fun p e => zr_c_2 b cs to p e
  have hT := zr_T_l3 (c := zr_c b cs to) (n := n) (to := to) n (zr_d0 to) zr_T_0
  have cv := zr_conv (c := zr_c b cs to) hc2 hn hto
  obtain ⟨e, h1, h2, h3⟩ := hT p hp hne hd
  refine ⟨e, h1, ?_⟩
  have h4 := zr_l2_at (zr_c b cs to) n p e h2 h1 n 0 (zr_l3 (zr_c b cs to) n n (zr_d0 to)) (Nat.zero_le _) (by omega)
  have h5 : zr_l2 (zr_c b cs to) n n 0 (zr_l3 (zr_c b cs to) n n (zr_d0 to)) = zr_l3 (zr_c b cs to) n n (zr_d0 to) := cv
  rw [h5] at h4
  unfold zr_ok
  refine decide_eq_true ⟨h2, ?_⟩
  show zr_ds n b cs to e + zr_c b cs to p e = zr_ds n b cs to p
  unfold zr_ds
  omega
theorem zr_reach {b cs : Nat → Int32} {n to : Nat} (hw : zt_wf n b) (hto : to < n) : ∀ p, p < n → (p = to ∨ zt_ab b to p = true) → zr_ds n b cs to p < 1000 := by
  have hn := hw.1
  have hc2 : ∀ p e, zr_c b cs to p e ≤ 2 := fun p e => zr_c_2 b cs to p e
  have hi := zr_ds_i (b := b) (cs := cs) hn hto
  have cv := zr_conv (c := zr_c b cs to) hc2 hn hto
  intro p
  induction p using Nat.strongRecOn with
  | _ p ih =>
    intro hp h
    rcases h with h | h
    · have h1 := zr_l3_le (zr_c b cs to) n p (zr_d0 to) n 0
      rw [Nat.zero_add] at h1
      have h2 : zr_l3 (zr_c b cs to) n 0 (zr_d0 to) p = 0 := by show zr_d0 to p = 0; unfold zr_d0; rw [if_pos h]
      show zr_l3 (zr_c b cs to) n n (zr_d0 to) p < 1000
      omega
    · rcases hw.at hp with z | ⟨j, j1, j2, j3⟩
      · rw [zt_ab_none z] at h; cases h
      · have hj : j = to ∨ zt_ab b to j = true := by
          have h' := h
          rw [zt_ab_boss hw hp j1 j3 hto] at h'
          rcases Bool.or_eq_true _ _ |>.mp h' with z | z
          · exact Or.inl (of_decide_eq_true z)
          · exact Or.inr z
        have hdj := ih j j1 j2 hj
        have c1 : zr_c b cs to p j = 1 := by unfold zr_c; rw [if_pos h, if_pos j3]
        have h4 := zr_l2_at (zr_c b cs to) n p j (by omega) j2 n 0 (zr_l3 (zr_c b cs to) n n (zr_d0 to)) (Nat.zero_le _) (by omega)
        have h5 : zr_l2 (zr_c b cs to) n n 0 (zr_l3 (zr_c b cs to) n n (zr_d0 to)) = zr_l3 (zr_c b cs to) n n (zr_d0 to) := cv
        rw [h5, c1] at h4
        have h6 := hi.2 j j2 hdj
        have h7 : zr_fin (zr_ds n b cs to) n ≤ n := zc_n_le _ _
        have h8 : zr_l3 (zr_c b cs to) n n (zr_d0 to) j = zr_ds n b cs to j := rfl
        show zr_l3 (zr_c b cs to) n n (zr_d0 to) p < 1000
        omega
/-! what is found is below what is none -/
theorem zr_tk_le {sz : Nat} {path : List Nat} {best : Nat × List Nat} : (zr_tk sz path best).1 ≤ best.1 ∧ (zr_tk sz path best).1 ≤ sz := by
  unfold zr_tk
  split
  · next h => exact ⟨by show sz ≤ best.1; omega, Nat.le_refl _⟩
  · next h => exact ⟨Nat.le_refl _, by omega⟩
theorem zr_lp_le {g : Nat → Nat × List Nat → Nat × List Nat} (hg : ∀ k x, (g k x).1 ≤ x.1) : ∀ (f k : Nat) (x : Nat × List Nat), (zr_lp g f k x).1 ≤ x.1 := by
  intro f
  induction f with
  | zero => intro k x; exact Nat.le_refl _
  | succ f ih => intro k x; exact Nat.le_trans (ih (k + 1) _) (hg k x)
theorem zr_lp_at {g : Nat → Nat × List Nat → Nat × List Nat} (hg : ∀ k x, (g k x).1 ≤ x.1) {e B : Nat} (he : ∀ x, (g e x).1 ≤ B) : ∀ (f k : Nat) (x : Nat × List Nat), k ≤ e → e < k + f → (zr_lp g f k x).1 ≤ B := by
  intro f
  induction f with
  | zero => intro k x h1 h2; omega
  | succ f ih =>
    intro k x h1 h2
    simp only [zr_lp]
    by_cases z : k = e
    · subst z; exact Nat.le_trans (zr_lp_le hg f (k + 1) _) (he x)
    · exact ih (k + 1) _ (by omega) (by omega)
theorem zr_dfs_le {n to : Nat} {ok : Nat → Nat → Bool} {gr : Nat → Nat → Nat → Nat} : ∀ (f p sz : Nat) (path : List Nat) (best : Nat × List Nat), (zr_dfs n to ok gr f p sz path best).1 ≤ best.1 := by
  intro f
  induction f with
  | zero =>
    intro p sz path best
    simp only [zr_dfs]
    split
    · exact zr_tk_le.1
    · exact Nat.le_refl _
  | succ f ih =>
    intro p sz path best
    simp only [zr_dfs]
    split
    · exact zr_tk_le.1
    · refine zr_lp_le (fun k x => ?_) n 0 best
      split
      · exact ih _ _ _ _
      · exact Nat.le_refl _
theorem zr_dfs_fin {n to : Nat} {b cs : Nat → Int32} {gr : Nat → Nat → Nat → Nat} (hn : n ≤ 10) (hto : to < n) (hg : ∀ p e s, s ≤ 9999 → gr p e s ≤ 9999) : ∀ (f p sz : Nat) (path : List Nat) (best : Nat × List Nat), p < n → zr_ds n b cs to p < 1000 → sz ≤ 9999 → zr_rk (zr_ds n b cs to) n p ≤ f → (zr_dfs n to (zr_ok (zr_c b cs to) (zr_ds n b cs to)) gr f p sz path best).1 ≤ 9999 := by
  intro f
  induction f with
  | zero =>
    intro p sz path best hp hd hsz hrk
    simp only [zr_dfs]
    by_cases z : p = to
    · rw [if_pos z]; exact Nat.le_trans zr_tk_le.2 hsz
    · obtain ⟨e, h1, h2⟩ := zr_tight hn hto hp z hd
      have := (zr_ok_of (n := n) h1 h2).2.2
      omega
  | succ f ih =>
    intro p sz path best hp hd hsz hrk
    simp only [zr_dfs]
    by_cases z : p = to
    · rw [if_pos z]; exact Nat.le_trans zr_tk_le.2 hsz
    · rw [if_neg z]
      obtain ⟨e, h1, h2⟩ := zr_tight hn hto hp z hd
      have h3 := zr_ok_of (n := n) h1 h2
      refine zr_lp_at (e := e) (fun k x => ?_) (fun x => ?_) n 0 best (Nat.zero_le _) (by omega)
      · split
        · exact zr_dfs_le _ _ _ _ _
        · exact Nat.le_refl _
      · rw [if_pos h2]
        exact ih e _ _ _ h1 (by omega) (hg p e sz hsz) (by omega)
/-- the same, from what counts as none in either -/
def zr_q (x y : Nat × List Nat) : Prop := x = y ∨ (x = (10000, []) ∧ y = (1000000000, []))
theorem zr_q_tk {sz : Nat} {path : List Nat} {x y : Nat × List Nat} (h : zr_q x y) (hs : sz ≤ 9999) : zr_q (zr_tk sz path x) (zr_tk sz path y) := by
  rcases h with rfl | ⟨rfl, rfl⟩
  · exact Or.inl rfl
  · left
    unfold zr_tk
    rw [if_pos (show sz < (10000, ([] : List Nat)).1 by show sz < 10000; omega), if_pos (show sz < (1000000000, ([] : List Nat)).1 by show sz < 1000000000; omega)]
theorem zr_q_lp {g : Nat → Nat × List Nat → Nat × List Nat} (hg : ∀ k x y, zr_q x y → zr_q (g k x) (g k y)) : ∀ (f k : Nat) (x y : Nat × List Nat), zr_q x y → zr_q (zr_lp g f k x) (zr_lp g f k y) := by
  intro f
  induction f with
  | zero => intro k x y h; exact h
  | succ f ih => intro k x y h; exact ih (k + 1) _ _ (hg k x y h)
theorem zr_q_dfs {n to : Nat} {ok : Nat → Nat → Bool} {gr : Nat → Nat → Nat → Nat} (hg : ∀ p e s, s ≤ 9999 → gr p e s ≤ 9999) : ∀ (f p sz : Nat) (path : List Nat) (x y : Nat × List Nat), sz ≤ 9999 → zr_q x y → zr_q (zr_dfs n to ok gr f p sz path x) (zr_dfs n to ok gr f p sz path y) := by
  intro f
  induction f with
  | zero =>
    intro p sz path x y hs h
    simp only [zr_dfs]
    split
    · exact zr_q_tk h hs
    · exact h
  | succ f ih =>
    intro p sz path x y hs h
    simp only [zr_dfs]
    split
    · exact zr_q_tk h hs
    · refine zr_q_lp (fun k x y hq => ?_) n 0 x y h
      split
      · exact ih _ _ _ _ _ (hg _ _ _ hs) hq
      · exact hq
theorem zr_all_eq {n : Nat} {b pr cs : Nat → Int32} {D : Option zD} {dy : Int32} {fr to : Nat} (hw : zt_wf n b) (hfr : fr < n) (hto : to < n) (hab : zt_ab b to fr = true) : zr_all n b pr cs D dy fr to 1000000000 = zr_all n b pr cs D dy fr to 10000 := by
  have hn := hw.1
  have hg : ∀ p e s, s ≤ 9999 → zr_gr n b pr D dy fr to p e s ≤ 9999 := fun p e s h => zr_gr_in h
  have h1 := zr_q_dfs (n := n) (to := to) (ok := zr_ok (zr_c b cs to) (zr_ds n b cs to)) hg 9 fr 10 [] (10000, []) (1000000000, []) (by decide) (Or.inr ⟨rfl, rfl⟩)
  have h2 := zr_dfs_fin (b := b) (cs := cs) hn hto hg 9 fr 10 [] (10000, []) hfr (zr_reach hw hto fr hfr (Or.inr hab)) (by decide) (zr_rk_9 hfr hn)
  unfold zr_all
  rcases h1 with h | ⟨h, _⟩
  · exact h.symm
  · rw [h] at h2
    exact absurd h2 (by decide)
