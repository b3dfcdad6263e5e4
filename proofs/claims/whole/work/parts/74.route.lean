/-! ===== the route, as a function ===== -/
/-- days of a step; 0: there is none -/
def zr_c (b cs : Nat → Int32) (to p e : Nat) : Nat := if zt_ab b to p then (if b p = nI e then 1 else if ¬ zi_has (cs p) (nI e) = 0 ∧ zt_ab b to e = true then 2 else 0) else 0
def zr_up (d : Nat → Nat) (p v : Nat) : Nat → Nat := fun q => if q = p then v else d q
def zr_rel (c : Nat → Nat → Nat) (d : Nat → Nat) (p e : Nat) : Nat → Nat := if 0 < c p e ∧ d e + c p e < d p then zr_up d p (d e + c p e) else d
def zr_l1 (c : Nat → Nat → Nat) (p : Nat) : Nat → Nat → (Nat → Nat) → Nat → Nat
  | 0, _, d => d
  | f + 1, e, d => zr_l1 c p f (e + 1) (zr_rel c d p e)
def zr_l2 (c : Nat → Nat → Nat) (n : Nat) : Nat → Nat → (Nat → Nat) → Nat → Nat
  | 0, _, d => d
  | f + 1, p, d => zr_l2 c n f (p + 1) (zr_l1 c p n 0 d)
def zr_l3 (c : Nat → Nat → Nat) (n : Nat) : Nat → (Nat → Nat) → Nat → Nat
  | 0, d => d
  | f + 1, d => zr_l3 c n f (zr_l2 c n n 0 d)
/-- days are few, or none are known -/
def zr_fin (d : Nat → Nat) (n : Nat) : Nat := zc_n (fun q => decide (d q < 1000)) n
def zr_i (n : Nat) (d : Nat → Nat) : Prop := (∀ q, d q ≤ 1000) ∧ ∀ q, q < n → d q < 1000 → d q + 2 ≤ 2 * zr_fin d n
theorem zc_n_up {P R : Nat → Bool} {p : Nat} : ∀ n, p < n → P p = false → R p = true → (∀ q, q ≠ p → R q = P q) → zc_n R n = zc_n P n + 1 := by
  intro n
  induction n with
  | zero => intro h; omega
  | succ n ih =>
    intro hp h1 h2 h3
    simp only [zc_n]
    by_cases c : p = n
    · subst c
      rw [h1, h2, zc_n_c p (fun i hi => h3 i (by omega))]; simp
    · rw [ih (by omega) h1 h2 h3, h3 n (fun z => c z.symm)]
      split <;> omega
theorem zr_rel_i {n p e : Nat} {c : Nat → Nat → Nat} {d : Nat → Nat} (hc : ∀ p e, c p e ≤ 2) (hn : n ≤ 10) (hp : p < n) (he : e < n) (h : zr_i n d) : zr_i n (zr_rel c d p e) := by
  unfold zr_rel
  split
  · next h1 =>
    obtain ⟨h2, h3⟩ := h
    have b1 := hc p e
    have b2 := h2 p
    have de : d e < 1000 := by omega
    have b3 := h3 e he de
    have fl : zr_fin d n ≤ n := zc_n_le _ _
    refine ⟨fun q => ?_, fun q hq hd => ?_⟩
    · unfold zr_up
      split
      · omega
      · exact h2 q
    · by_cases cp : d p < 1000
      · have same : zr_fin (zr_up d p (d e + c p e)) n = zr_fin d n := by
          unfold zr_fin
          refine zc_n_c _ (fun i hi => ?_)
          unfold zr_up
          by_cases ci : i = p
          · subst ci; rw [if_pos rfl, decide_eq_true cp, decide_eq_true (by omega)]
          · rw [if_neg ci]
        rw [same]
        unfold zr_up at hd ⊢
        by_cases ci : q = p
        · rw [if_pos ci]
          have := h3 p hp cp
          omega
        · rw [if_neg ci] at hd ⊢; exact h3 q hq hd
      · have more : zr_fin (zr_up d p (d e + c p e)) n = zr_fin d n + 1 := by
          unfold zr_fin
          refine zc_n_up (p := p) n hp (decide_eq_false cp) ?_ (fun q hq => ?_)
          · unfold zr_up; rw [if_pos rfl]; exact decide_eq_true (by omega)
          · unfold zr_up; rw [if_neg hq]
        rw [more]
        unfold zr_up at hd ⊢
        by_cases ci : q = p
        · rw [if_pos ci]; omega
        · rw [if_neg ci] at hd ⊢
          have := h3 q hq hd
          omega
  · exact h
theorem zr_l1_i {n p : Nat} {c : Nat → Nat → Nat} (hc : ∀ p e, c p e ≤ 2) (hn : n ≤ 10) (hp : p < n) : ∀ (f e : Nat) (d : Nat → Nat), e + f ≤ n → zr_i n d → zr_i n (zr_l1 c p f e d) := by
  intro f
  induction f with
  | zero => intro e d _ h; exact h
  | succ f ih => intro e d he h; exact ih (e + 1) _ (by omega) (zr_rel_i hc hn hp (by omega) h)
theorem zr_l2_i {n : Nat} {c : Nat → Nat → Nat} (hc : ∀ p e, c p e ≤ 2) (hn : n ≤ 10) : ∀ (f p : Nat) (d : Nat → Nat), p + f ≤ n → zr_i n d → zr_i n (zr_l2 c n f p d) := by
  intro f
  induction f with
  | zero => intro p d _ h; exact h
  | succ f ih => intro p d hp h; exact ih (p + 1) _ (by omega) (zr_l1_i hc hn (by omega) n 0 d (by omega) h)
theorem zr_l3_i {n : Nat} {c : Nat → Nat → Nat} (hc : ∀ p e, c p e ≤ 2) (hn : n ≤ 10) : ∀ (f : Nat) (d : Nat → Nat), zr_i n d → zr_i n (zr_l3 c n f d) := by
  intro f
  induction f with
  | zero => intro d h; exact h
  | succ f ih => intro d h; exact ih _ (zr_l2_i hc hn n 0 d (by omega) h)
theorem zr_l1_0 {p : Nat} {c : Nat → Nat → Nat} (hc : ∀ e, c p e = 0) : ∀ (f e : Nat) (d : Nat → Nat), zr_l1 c p f e d = d := by
  intro f
  induction f with
  | zero => intro e d; rfl
  | succ f ih =>
    intro e d
    simp only [zr_l1]
    rw [ih]
    unfold zr_rel
    rw [if_neg (by rw [hc e]; omega)]
def zr_d0 (to : Nat) : Nat → Nat := fun p => if p = to then 0 else 1000
theorem zr_d0_i {n to : Nat} (ht : to < n) : zr_i n (zr_d0 to) := by
  have h1 : 1 ≤ zr_fin (zr_d0 to) n := by
    unfold zr_fin
    have := zc_n_up (P := fun _ => false) (R := fun q => decide (zr_d0 to q < 1000)) (p := to) n ht rfl (by unfold zr_d0; rw [if_pos rfl]; rfl) (fun q hq => by unfold zr_d0; rw [if_neg hq]; rfl)
    omega
  refine ⟨fun q => by unfold zr_d0; split <;> omega, fun q hq hd => ?_⟩
  by_cases c : q = to
  · have e : zr_d0 to q = 0 := if_pos c
    rw [e]; omega
  · have e : zr_d0 to q = 1000 := if_neg c
    omega
theorem zr_c_2 (b cs : Nat → Int32) (to p e : Nat) : zr_c b cs to p e ≤ 2 := by
  unfold zr_c
  split
  · split
    · omega
    · split <;> omega
  · omega
def zr_ds (n : Nat) (b cs : Nat → Int32) (to : Nat) : Nat → Nat := zr_l3 (zr_c b cs to) n n (zr_d0 to)
theorem zr_ds_i {n to : Nat} {b cs : Nat → Int32} (hn : n ≤ 10) (ht : to < n) : zr_i n (zr_ds n b cs to) := zr_l3_i (fun p e => zr_c_2 b cs to p e) hn n _ (zr_d0_i ht)
/-! all ways of the fewest days -/
def zr_lp {α : Type} (g : Nat → α → α) : Nat → Nat → α → α
  | 0, _, x => x
  | f + 1, k, x => zr_lp g f (k + 1) (g k x)
def zr_ok (c : Nat → Nat → Nat) (d : Nat → Nat) (p e : Nat) : Bool := decide (0 < c p e ∧ d e + c p e = d p)
def zr_tk (sz : Nat) (path : List Nat) (best : Nat × List Nat) : Nat × List Nat := if sz < best.1 then (sz, path) else best
def zr_dfs (n to : Nat) (ok : Nat → Nat → Bool) (gr : Nat → Nat → Nat → Nat) : Nat → Nat → Nat → List Nat → Nat × List Nat → Nat × List Nat
  | 0, p, sz, path, best => if p = to then zr_tk sz path best else best
  | f + 1, p, sz, path, best => if p = to then zr_tk sz path best else zr_lp (fun e bst => if ok p e then zr_dfs n to ok gr f e (gr p e sz) (path ++ [e]) bst else bst) n 0 best
/-- how many lie nearer -/
def zr_rk (d : Nat → Nat) (n p : Nat) : Nat := zc_n (fun q => decide (d q < d p)) n
theorem zr_rk_lt {d : Nat → Nat} {n p e : Nat} (he : e < n) (h : d e < d p) : zr_rk d n e < zr_rk d n p := by
  unfold zr_rk
  have key : ∀ m, zc_n (fun q => decide (d q < d e)) m ≤ zc_n (fun q => decide (d q < d p)) m ∧ (e < m → zc_n (fun q => decide (d q < d e)) m < zc_n (fun q => decide (d q < d p)) m) := by
    intro m
    induction m with
    | zero => exact ⟨Nat.le_refl _, fun h => by omega⟩
    | succ m ih =>
      simp only [zc_n, decide_eq_true_eq]
      have i1 := ih.1
      refine ⟨?_, fun hm => ?_⟩
      · split <;> split <;> omega
      · by_cases c : e = m
        · subst c
          rw [if_neg (Nat.lt_irrefl _), if_pos h]; omega
        · have i2 := ih.2 (by omega)
          split <;> split <;> omega
  exact (key n).2 he
theorem zr_rk_9 {d : Nat → Nat} {n p : Nat} (hp : p < n) (hn : n ≤ 10) : zr_rk d n p ≤ 9 := by
  have h1 : zr_rk d n p + 1 ≤ n := by
    unfold zr_rk
    have := zc_n_up (P := fun q => decide (d q < d p)) (R := fun q => decide (d q < d p) || decide (q = p)) (p := p) n hp (decide_eq_false (by omega)) (by simp) (fun q hq => by simp [hq])
    rw [← this]
    exact zc_n_le _ _
  omega
theorem zr_ok_of {c : Nat → Nat → Nat} {d : Nat → Nat} {n p e : Nat} (he : e < n) (h : zr_ok c d p e = true) : 0 < c p e ∧ d e + c p e = d p ∧ zr_rk d n e < zr_rk d n p := by
  unfold zr_ok at h
  have h := of_decide_eq_true h
  exact ⟨h.1, h.2, zr_rk_lt he (by omega)⟩
/-- what a step makes of the size -/
def zr_nm (b pr : Nat → Int32) (dy : Int32) (fr to e sz : Nat) : Nat → Int32 := zn_l dy (nI sz) (nI e) (pr e) (nI (zt_rk b e)) (nI fr) (nI to) 0 0
def zr_sz (n : Nat) (b pr : Nat → Int32) (D : Option zD) (dy : Int32) (fr to e sz : Nat) : Nat := (let v := (sz : Int) + zq_said D 0 (fun i => (zr_nm b pr dy fr to e sz i).toInt) (zq_rk n b); if 9999 < v then 9999 else v).toNat
def zr_gr (n : Nat) (b pr : Nat → Int32) (D : Option zD) (dy : Int32) (fr to : Nat) (p e sz : Nat) : Nat := if b p = nI e then zr_sz n b pr D dy fr to e sz else sz
theorem zr_sz_in (n : Nat) (b pr : Nat → Int32) (D : Option zD) (dy : Int32) (fr to e sz : Nat) : zr_sz n b pr D dy fr to e sz ≤ 9999 := by
  unfold zr_sz
  simp only
  split <;> omega
theorem zr_gr_in {n : Nat} {b pr : Nat → Int32} {D : Option zD} {dy : Int32} {fr to p e sz : Nat} (h : sz ≤ 9999) : zr_gr n b pr D dy fr to p e sz ≤ 9999 := by
  unfold zr_gr
  split
  · exact zr_sz_in _ _ _ _ _ _ _ _ _
  · exact h
def zr_all (n : Nat) (b pr cs : Nat → Int32) (D : Option zD) (dy : Int32) (fr to : Nat) (big : Nat) : Nat × List Nat := zr_dfs n to (zr_ok (zr_c b cs to) (zr_ds n b cs to)) (zr_gr n b pr D dy fr to) 9 fr 10 [] (big, [])
theorem zr_c_e {n : Nat} {b b' cs cs' : Nat → Int32} {to p e : Nat} (hw : zt_wf n b) (hb : ∀ i, i < n → b i = b' i) (hcs : ∀ i, i < n → cs i = cs' i) (ht : to < n) (hp : p < n) (he : e < n) : zr_c b cs to p e = zr_c b' cs' to p e := by
  unfold zr_c
  rw [zt_ab_c hw hb ht p hp, zt_ab_c hw hb ht e he, hb p hp, hcs p hp]
