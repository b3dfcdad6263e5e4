/-! ===== the reference's machine keeps the rules of sums ===== -/
def zp_ls (nm : Nat → Int) (rk : Int → Int) : List (Nat × Nat) → zS → Option zS
  | [], s => some s
  | x :: t, s => (zp_fnd x.1 x.2 nm rk s).bind (zp_ls nm rk t)
theorem zp_ls_a {nm : Nat → Int} {rk : Int → Int} : ∀ (a b : List (Nat × Nat)) (s : zS), zp_ls nm rk (a ++ b) s = (zp_ls nm rk a s).bind (zp_ls nm rk b) := by
  intro a
  induction a with
  | nil => intro b s; rfl
  | cons x a ih =>
    intro b s
    simp only [List.cons_append, zp_ls]
    cases zp_fnd x.1 x.2 nm rk s with
    | none => rfl
    | some u => exact ih b u
abbrev zB : Type := (Nat → Int) → (Int → Int) → Bool
def zs_mn (cs : List (Nat × Nat)) (D : zD) : Prop := ∀ nm rk vs ts, (∀ i, i < 9 → zq_ok (nm i)) → (∀ v, zq_ok (rk v)) → zp_ls nm rk cs (vs, ts) = some (D nm rk :: vs, ts)
def zs_mb (cs : List (Nat × Nat)) (B : zB) : Prop := ∀ nm rk vs ts, (∀ i, i < 9 → zq_ok (nm i)) → (∀ v, zq_ok (rk v)) → zp_ls nm rk cs (vs, ts) = some (vs, B nm rk :: ts)
def zs_em (ws : List Nat) : List (Nat × Nat) := ws.map (fun c => (c, 0))
theorem zs_em_a (a b : List Nat) : zs_em (a ++ b) = zs_em a ++ zs_em b := by unfold zs_em; rw [List.map_append]
def zs_rg (l : Nat) (pend : List Nat) : Prop := ∀ c, c ∈ pend → l ≤ zk_rk c ∧ 1 ≤ zk_rk c ∧ zk_rk c ≤ 6
theorem zs_rg_le {l l' : Nat} {p : List Nat} (h : zs_rg l p) (hl : l' ≤ l) : zs_rg l' p := fun c hc => ⟨by have := (h c hc).1; omega, (h c hc).2⟩
theorem zs_rg_a {l : Nat} {p : List Nat} {c : Nat} (h : zs_rg l p) (h2 : l ≤ zk_rk c ∧ 1 ≤ zk_rk c ∧ zk_rk c ≤ 6) : zs_rg l (p ++ [c]) := by
  intro x hx
  rcases List.mem_append.mp hx with z | z
  · exact h x z
  · have : x = c := by simpa using z
    rw [this]; exact h2
theorem zs_rg_40 {c : Nat} (h : 1 ≤ zk_rk c) : ¬ 40 ≤ c := by
  intro z
  have : zk_rk c = 0 := by unfold zk_rk; rw [if_pos z]
  omega
theorem zs_cn_a : ∀ (a b : List Nat), zs_cn (a ++ b) = zs_cn a + zs_cn b := by
  intro a
  induction a with
  | nil => intro b; simp [zs_cn]
  | cons x a ih => intro b; simp only [List.cons_append, zs_cn, ih]; omega
theorem zs_cn_0 : ∀ (a : List Nat), zs_rg 5 a → zs_cn a = 0 := by
  intro a
  induction a with
  | nil => intro _; rfl
  | cons x a ih =>
    intro h
    have hx := h x List.mem_cons_self
    have n40 := zs_rg_40 hx.2.1
    have n20 : ¬ x = 20 := by
      intro z
      subst z
      exact absurd hx.1 (by decide)
    simp only [zs_cn]
    rw [if_neg (by omega), ih (fun c hc => h c (List.mem_cons_of_mem _ hc))]
theorem zs_se_app {r o : Nat} {ws : List Nat} : ∀ (pend : List Nat) (cs : List (Nat × Nat)), zs_rg r pend → zs_se r (pend ++ ws) (o + zs_cn pend) cs = zs_se r ws o (cs ++ zs_em pend) := by
  intro pend
  induction pend with
  | nil => intro cs _; simp [zs_em, zs_cn]
  | cons x p ih =>
    intro cs h
    have hx := h x List.mem_cons_self
    have n40 := zs_rg_40 hx.2.1
    simp only [List.cons_append, zs_se]
    rw [if_pos hx.1]
    have e : o + zs_cn (x :: p) - zs_op x = o + zs_cn p := by
      simp only [zs_cn]
      unfold zs_op
      by_cases z : zk_rk x = 7 ∨ x = 20
      · rw [if_pos (by omega), if_pos z]; omega
      · rw [if_neg (by omega), if_neg z]; omega
    rw [e, ih _ (fun c hc => h c (List.mem_cons_of_mem _ hc))]
    congr 1
    simp [zs_em]
theorem zs_se_st {r o : Nat} {ws : List Nat} {cs : List (Nat × Nat)} (h : zs_tr ws < r) : zs_se r ws o cs = (ws, o, cs) := by
  cases ws with
  | nil => rfl
  | cons c ws =>
    simp only [zs_se]
    rw [if_neg (by have : zk_rk c < r := h; omega)]
theorem zs_se_ps {r o : Nat} {ws pend : List Nat} {cs : List (Nat × Nat)} (hp : zs_rg r pend) (h : zs_tr ws < r) : zs_se r (pend ++ ws) (o + zs_cn pend) cs = (ws, o, cs ++ zs_em pend) := by
  rw [zs_se_app pend cs hp, zs_se_st h]
theorem zs_on_a {l : Nat} {ws : List Nat} : ∀ (pend : List Nat), zs_rg l pend → zs_on (pend ++ ws) = zs_on ws := by
  intro pend
  induction pend with
  | nil => intro _; rfl
  | cons x p ih =>
    intro h
    have hx := h x List.mem_cons_self
    simp only [List.cons_append, zs_on]
    rw [if_neg (zs_rg_40 hx.2.1)]
    exact ih (fun c hc => h c (List.mem_cons_of_mem _ hc))
theorem zs_cm_a {ws : List Nat} : ∀ (pend : List Nat), zs_rg 5 pend → zh_cm (pend ++ ws) = zh_cm ws := by
  intro pend
  induction pend with
  | nil => intro _; rfl
  | cons x p ih =>
    intro h
    have hx := h x List.mem_cons_self
    simp only [List.cons_append, zh_cm]
    rw [if_pos (by omega)]
    exact ih (fun c hc => h c (List.mem_cons_of_mem _ hc))
theorem zs_aa_of {ws : List Nat} (h : zh_aa ws = true) : zs_on ws = 42 ∧ zs_tr ws ≤ 3 ∧ ws.headD 0 ≠ 41 ∧ zh_cm ws = false := by
  unfold zh_aa at h
  simp only [Bool.and_eq_true, Bool.or_eq_true, decide_eq_true_eq] at h
  obtain ⟨h1, h2⟩ := h
  cases ws with
  | nil => exact absurd h1 (by decide)
  | cons c ws =>
    simp only [List.headD_cons, zs_tr] at h2 ⊢
    simp only [zs_on] at h1
    have r3 : zk_rk c ≤ 3 := by
      rcases h2 with z | z
      · have : zk_rk c = 0 := by unfold zk_rk; rw [if_pos z]
        omega
      · exact z.2
    refine ⟨by simp only [zs_on]; exact h1, r3, ?_, ?_⟩
    · intro z
      subst z
      rw [if_pos (by decide)] at h1
      exact absurd h1 (by decide)
    · simp only [zh_cm]
      rw [if_neg (by omega)]
      exact decide_eq_false (by omega)
theorem zs_aa_c {ws : List Nat} {c : Nat} (h : zs_on ws = 42) (hc : 1 ≤ zk_rk c ∧ zk_rk c ≤ 3) : zh_aa (c :: ws) = true := by
  have e : zs_on (c :: ws) = 42 := (if_neg (zs_rg_40 hc.1)).trans h
  show (decide (zs_on (c :: ws) = 42) && (decide (40 ≤ c) || decide (1 ≤ zk_rk c ∧ zk_rk c ≤ 3))) = true
  rw [decide_eq_true e, decide_eq_true hc, Bool.or_true, Bool.true_and]
theorem zs_aa_n {ws : List Nat} {c : Nat} (hc : 4 ≤ zk_rk c) : zh_aa (c :: ws) = false := by
  show (decide (zs_on (c :: ws) = 42) && (decide (40 ≤ c) || decide (1 ≤ zk_rk c ∧ zk_rk c ≤ 3))) = false
  rw [decide_eq_false (zs_rg_40 (c := c) (by omega)), decide_eq_false (show ¬ (1 ≤ zk_rk c ∧ zk_rk c ≤ 3) by omega), Bool.or_false, Bool.and_false]
theorem zs_aa_o {ws : List Nat} {c : Nat} (h4 : 40 ≤ c) (hc : c ≠ 42) : zh_aa (c :: ws) = false := by
  have e : ¬ zs_on (c :: ws) = 42 := by rw [show zs_on (c :: ws) = c from if_pos h4]; exact hc
  unfold zh_aa
  rw [decide_eq_false e, Bool.false_and]
/-- behind one that nothing waits for -/
theorem zs_eo_t {T : Nat → Nat} {k o : Nat} {ws : List Nat} {cs : List (Nat × Nat)} (h : zs_tr ws < 7) (h41 : ws.headD 0 ≠ 41) : zs_eo T k ws o cs = .inl (k, ws, o, true, cs) := by
  unfold zs_eo
  rw [zs_se_st h]
  unfold zs_end
  cases ws with
  | nil => rfl
  | cons c ws =>
    have h41 : ¬ c = 41 := h41
    simp only
    rw [if_neg h41]
theorem zs_eo_p {T : Nat → Nat} {k o c : Nat} {ws : List Nat} {cs : List (Nat × Nat)} (h : zk_rk c = 7) : zs_eo T k (c :: ws) (o + 1) cs = zs_eo T k ws o (cs ++ [(c, 0)]) := by
  unfold zs_eo
  simp only [zs_se]
  rw [if_pos (by omega)]
  have : zs_op c = 1 := by unfold zs_op; rw [if_pos (Or.inl h)]
  rw [this, Nat.add_sub_cancel]
/-! the statements of the machine -/
section
variable (T V : Nat → Nat) (cl : Nat)
def zs_R7 (o k k' : Nat) (D : zD) : Prop := ∀ G Fa Fi, zs_ru T V cl G Fa Fi → ∀ ws cs, (∀ seg, zs_mn seg D → zs_nx G Fa (zs_eo T k' ws o (cs ++ seg))) → G k ws o false cs
def zs_RN (l o k k' : Nat) (D : zD) : Prop := ∀ G Fa Fi, zs_ru T V cl G Fa Fi → ∀ ws cs, zs_tr ws < l → ws.headD 0 ≠ 41 → (∀ seg pend, zs_rg l pend → zs_mn (seg ++ zs_em pend) D → G k' (pend ++ ws) o true (cs ++ seg)) → G k ws o false cs
def zs_RA (l o k k' : Nat) (D : zD) : Prop := ∀ G Fa Fi, zs_ru T V cl G Fa Fi → ∀ ws cs, zh_aa ws = true → (l ≤ 2 → zs_tr ws < l) → (∀ seg pend B, zs_rg l pend → zh_cm (pend ++ ws) = true → (∀ nm rk, D nm rk = if B nm rk = true then 1 else 0) → zs_mb (seg ++ zs_em pend) B → G k' (pend ++ ws) (o + zs_cn pend) true (cs ++ seg)) → G k ws o false cs
def zs_RR : zd_RT := fun l o k k' D => zD_ok cl D ∧ match l with
  | 7 => zs_R7 T V cl o k k' D
  | 6 => zs_RN T V cl 6 o k k' D
  | 5 => zs_RN T V cl 5 o k k' D
  | l => zs_RA T V cl l o k k' D
def zs_F7 (o k f j : Nat) : Prop := ∀ G Fa Fi, zs_ru T V cl G Fa Fi → ∀ ws cs, (T k = 27 → zh_aa ws = false) → Fa f j → G k ws o false cs
def zs_FN (l o k f j : Nat) : Prop := ∀ G Fa Fi, zs_ru T V cl G Fa Fi → ∀ ws cs, zs_tr ws < l → ws.headD 0 ≠ 41 → (T k = 27 → zh_aa ws = false) → Fa f j → G k ws o false cs
def zs_FA (l o k f j : Nat) : Prop := ∀ G Fa Fi, zs_ru T V cl G Fa Fi → ∀ ws cs, zh_aa ws = true → (l ≤ 2 → zs_tr ws < l) → Fa f j → G k ws o false cs
def zs_FF : zd_FT := fun l o k f j => match l with
  | 7 => zs_F7 T V cl o k f j
  | 6 => zs_FN T V cl 6 o k f j
  | 5 => zs_FN T V cl 5 o k f j
  | l => zs_FA T V cl l o k f j
end
