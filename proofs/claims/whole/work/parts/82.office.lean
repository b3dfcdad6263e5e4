/-! ===== the office: what a clause that is played may change ===== -/
def zO : Type := Nat × (Nat → Int32) × (Nat → Int32) × (Nat → Int32) × (Nat → Int32) × zW × Nat × (Nat → zW)
def zOn (V : zO) : Nat := V.1
def zOb (V : zO) : Nat → Int32 := V.2.1
def zOp (V : zO) : Nat → Int32 := V.2.2.1
def zOc (V : zO) : Nat → Int32 := V.2.2.2.1
def zOw (V : zO) : Nat → Int32 := V.2.2.2.2.1
def zOS (V : zO) : zW := V.2.2.2.2.2.1
def zOs (V : zO) : Nat := V.2.2.2.2.2.2.1
def zOH (V : zO) : Nat → zW := V.2.2.2.2.2.2.2
def zo_u (f : Nat → Int32) (k : Nat) (v : Int32) : Nat → Int32 := fun i => if i = k then v else f i
theorem zo_u_o {f : Nat → Int32} {k i : Nat} {v : Int32} (h : i ≠ k) : zo_u f k v i = f i := if_neg h
theorem zo_u_s {f : Nat → Int32} {k : Nat} {v : Int32} : zo_u f k v k = v := if_pos rfl
/-- an officer is told -/
def zO_of (V : zO) (bs pr : Int32) : zO := (zOn V + 1, zo_u (zOb V) (zOn V) bs, zo_u (zOp V) (zOn V) pr, zo_u (zOc V) (zOn V) 0, zo_u (zOw V) (zOn V) 1, zOS V, zOs V, zOH V)
/-- two become cousins -/
def zO_co (V : zO) (i j : Nat) : zO := (zOn V, zOb V, zOp V, zo_u (zo_u (zOc V) i (zOc V i ||| nI (2 ^ j))) j (zOc V j ||| nI (2 ^ i)), zOw V, zOS V, zOs V, zOH V)
/-- a step of the World, kept ahead -/
def zO_st (V : zO) (S : zW) : zO := (zOn V, zOb V, zOp V, zOc V, zOw V, S, zk_n (zOs V), zk_ps (zOs V) (zOH V) (zOS V))
/-- days -/
def zO_dy (T : Nat → Option zD) (V : zO) (f : Nat) : zO := (zOn V, zOb V, zOp V, zOc V, zOw V, (ze_days (zOn V) (zOb V) (zOp V) T f (zOS V) (zOs V) (zOH V)).1, (ze_days (zOn V) (zOb V) (zOp V) T f (zOS V) (zOs V) (zOH V)).2.1, (ze_days (zOn V) (zOb V) (zOp V) T f (zOS V) (zOs V) (zOH V)).2.2.1)
/-- what holds of an office -/
def zOi (T : Nat → Option zD) (V : zO) : Prop := zAl (zOn V) (zOb V) T (zOS V) (zOs V) (zOH V) ∧ zOs V ≤ 30 ∧ (∀ i, zOn V ≤ i → i < 10 → zOw V i = 1) ∧ (∀ i, i < 10 → ∃ g, g ≤ 99 ∧ zOw V i = nI g) ∧ ∀ i, i < zOn V → zq_ok (zOp V i).toInt
theorem zt_wf_s {n : Nat} {b : Nat → Int32} {bs pr : Int32} (h : zt_wf n b) (hb : ¬ zo_bad n bs pr) : zt_wf (n + 1) (zo_u b n bs) := by
  unfold zo_bad at hb
  have h10 : ¬ n = 10 := fun z => hb (Or.inl z)
  have h1 := h.1
  refine ⟨by omega, fun _ => ?_, fun i h0 hi => ?_⟩
  · by_cases c : n = 0
    · subst c
      rw [zo_u_s]
      exact Classical.byContradiction (fun z => hb (Or.inr (Or.inl (by rw [if_pos rfl]; exact z))))
    · rw [zo_u_o (by omega)]
      exact h.2.1 (by omega)
  · by_cases c : i = n
    · subst c
      rw [zo_u_s]
      have : zo_is i bs = true := by
        cases hz : zo_is i bs with
        | true => rfl
        | false => exact absurd (Or.inr (Or.inl (by rw [if_neg (by omega)]; exact hz))) hb
      obtain ⟨k, hk, e⟩ := zo_of this (by omega)
      exact ⟨k, hk, e⟩
    · rw [zo_u_o c]
      exact h.2.2 i h0 (by omega)
theorem zt_eq_u {n : Nat} {b : Nat → Int32} {v : Int32} : zt_eq n b (zo_u b n v) := fun i hi => (zo_u_o (by omega)).symm
theorem zw_i_s {n : Nat} {b : Nat → Int32} {v : Int32} {S : zW} (hw : zt_wf n b) (h : zw_i n b S) : zw_i (n + 1) (zo_u b n v) S := by
  obtain ⟨h1, h2, h3, h4, h5⟩ := h
  refine ⟨h1, h2, h3, fun k hk => ?_, h5⟩
  obtain ⟨f, t, a, s, hh, g, a1, a2, a3, a4, a5, a6, b1, b2, b3, b4, b5, b6, b7, b8, b9⟩ := h4 k hk
  have e := zt_eq_u (n := n) (b := b) (v := v)
  exact ⟨f, t, a, s, hh, g, a1, a2, a3, a4, a5, a6, by omega, by omega, by omega, b4, b5, b6, by rw [← zt_ab_c hw e b2 f b1]; exact b7, fun z => by rw [← zt_ab_c hw e b2 a b3]; exact b8 z, fun z => by rw [← zt_ab_c hw e b3 f b1]; exact b9 z⟩
theorem zi_in9 {pr : Int32} {m : Nat} (hm : m ≤ 9999) (h : ¬ zi_in pr 0 (nI m) = 0) : zq_ok pr.toInt := by
  obtain ⟨k, hk, rfl⟩ := zi_in_of (by omega) h
  rw [nI_toInt (by omega)]
  exact ⟨by omega, by omega⟩
theorem zOi_of {T : Nat → Option zD} {V : zO} {bs pr : Int32} (h : zOi T V) (hb : ¬ zo_bad (zOn V) bs pr) : zOi T (zO_of V bs pr) := by
  obtain ⟨⟨a1, a2, a3, a4⟩, b0, b1, b2, b3⟩ := h
  have h10 := a1.1
  refine ⟨⟨zt_wf_s a1 hb, a2, zw_i_s a1 a3, fun i hi => zw_i_s a1 (a4 i hi)⟩, b0, fun i h1 h2 => ?_, fun i hi => ?_, fun i hi => ?_⟩
  · have h1 : zOn V + 1 ≤ i := h1
    exact (zo_u_o (by omega)).trans (b1 i (by omega) h2)
  · by_cases c : i = zOn V
    · exact ⟨1, by omega, by subst c; exact zo_u_s⟩
    · obtain ⟨g, g1, g2⟩ := b2 i hi
      exact ⟨g, g1, (zo_u_o c).trans g2⟩
  · have hi : i < zOn V + 1 := hi
    show zq_ok (zo_u (zOp V) (zOn V) pr i).toInt
    by_cases c : i = zOn V
    · subst c
      rw [zo_u_s]
      exact zi_in9 (m := 9) (by decide) (fun z => hb (Or.inr (Or.inr z)))
    · rw [zo_u_o c]
      exact b3 i (by omega)
theorem zOi_co {T : Nat → Option zD} {V : zO} {i j : Nat} (h : zOi T V) : zOi T (zO_co V i j) := h
theorem zk_n_30 {s : Nat} (h : s ≤ 30) : zk_n s ≤ 30 := by unfold zk_n; split <;> omega
theorem zOi_st {T : Nat → Option zD} {V : zO} {S : zW} (h : zOi T V) (hS : zw_i (zOn V) (zOb V) S) : zOi T (zO_st V S) := by
  obtain ⟨⟨a1, a2, a3, a4⟩, b0, b⟩ := h
  exact ⟨⟨a1, a2, hS, zk_i a3 a4⟩, zk_n_30 b0, b⟩
theorem ze_days_s {n : Nat} {b pr : Nat → Int32} {T : Nat → Option zD} : ∀ (f : Nat) (S : zW) (s : Nat) (H : Nat → zW), s ≤ 30 → (ze_days n b pr T f S s H).2.1 ≤ 30 := by
  intro f
  induction f with
  | zero => intro S s H h; exact h
  | succ f ih =>
    intro S s H h
    simp only [ze_days]
    split
    · exact h
    · exact ih _ _ _ (zk_n_30 h)
theorem zOi_dy {T : Nat → Option zD} {V : zO} {f : Nat} (h : zOi T V) : zOi T (zO_dy T V f) := by
  obtain ⟨a, b0, b⟩ := h
  refine ⟨?_, ze_days_s f _ _ _ b0, b⟩
  show zAl (zOn V) (zOb V) T (ze_days (zOn V) (zOb V) (zOp V) T f (zOS V) (zOs V) (zOH V)).1 (ze_days (zOn V) (zOb V) (zOp V) T f (zOS V) (zOs V) (zOH V)).2.1 (ze_days (zOn V) (zOb V) (zOp V) T f (zOS V) (zOs V) (zOH V)).2.2.1
  generalize zOS V = S at a ⊢
  generalize zOs V = s at a ⊢
  generalize zOH V = H at a ⊢
  clear b0
  induction f generalizing S s H with
  | zero => exact a
  | succ f ih =>
    simp only [ze_days]
    split
    · exact a
    · next c => exact ih _ _ _ (zAl_st a c)
theorem zw_i_sd {n k : Nat} {b cs : Nat → Int32} {S : zW} {to : Int32} (hw : zt_wf n b) (h : zw_i n b S) (hk : k < zWn S) (hc : zo_cs n b cs S (nI k) to = true) : zw_i n b (zw_sd S k to) := by
  have hn := h.1.1
  have h10 := hw.1
  unfold zo_cs at hc
  simp only [Bool.and_eq_true, decide_eq_true_eq] at hc
  obtain ⟨⟨⟨⟨⟨c1, c2⟩, c3⟩, c4⟩, c5⟩, c6⟩ := hc
  obtain ⟨t, ht, rfl⟩ := zo_of c2 (by omega)
  rw [nI_clamp (by omega)] at c3 c6
  rw [nI_clamp (by omega)] at c6
  refine zw_i_k k h rfl rfl h.2.2.1 rfl rfl (fun j hj x => ?_) (fun _ => ?_)
  · show zWa (zw_pt (zw_pt S 2 k (nI t)) 6 k (zWd S + 2)) x j = zWa S x j
    unfold zw_pt zWa
    simp [hj]
  · obtain ⟨f, t', a, s, hh, g, a1, a2, a3, a4, a5, a6, b1, b2, b3, b4, b5, b6, b7, b8, b9⟩ := h.2.2.2.1 k hk
    have h0 : hh = 0 := by
      rw [a5] at c3
      exact (nI_eq (b := 0) (by omega) (by decide)).mp c3
    rw [a2, nI_clamp (by omega)] at c6
    refine ⟨f, t', t, s, hh, g, ?_, ?_, ?_, ?_, ?_, ?_, b1, b2, ht, b4, b5, b6, b7, fun _ => c6, fun z => by omega⟩
    · exact a1
    · exact a2
    · unfold zw_sd zw_pt zWa; simp
    · exact a4
    · exact a5
    · exact a6
/-! a clause, played -/
def zo_badD (n : Nat) (bs pr : Int32) : Decidable (zo_bad n bs pr) := by unfold zo_bad; exact inferInstance
def zo_cbadD (n : Nat) (cs : Nat → Int32) (p q : Int32) : Decidable (zo_cbad n cs p q) := by unfold zo_cbad; exact inferInstance
def zy_off (V : zO) (bs pr : Int32) : zO × Int32 := @ite _ (zo_bad (zOn V) bs pr) (zo_badD _ _ _) (V, -1) (zO_of V bs pr, nI (zOn V))
def zy_cou (V : zO) (p q : Int32) : zO × Int32 := @ite _ (zo_cbad (zOn V) (zOc V) p q) (zo_cbadD _ _ _ _) (V, 0) (zO_co V p.toNatClampNeg q.toNatClampNeg, 1)
def zy_wro (V : zO) (fr to sz : Int32) : zO × Int32 := if zo_cw (zOn V) (zOb V) (zWn (zOS V)) fr to = false ∨ zi_in sz 1 9999 = 0 then (V, -1) else (zO_st V (zw_beg (zOS V) fr to sz), nI (zWn (zOS V)))
def zy_awa (V : zO) (o dy : Int32) : zO × Int32 := if zo_is (zOn V) o = false ∨ zi_in dy 0 99 = 0 then (V, 0) else (zO_st V (zw_lv (zOS V) o.toNatClampNeg (if dy = 0 then 0 else zWd (zOS V) + dy)), 1)
def zy_sid (V : zO) (a to : Int32) : zO × Int32 := if zo_cs (zOn V) (zOb V) (zOc V) (zOS V) a to = false then (V, 0) else (zO_st V (zw_sd (zOS V) a.toNatClampNeg to), 1)
theorem zy_off_i {T : Nat → Option zD} {V : zO} (h : zOi T V) (bs pr : Int32) : zOi T (zy_off V bs pr).1 := by
  unfold zy_off
  split
  · exact h
  · next c => exact zOi_of h c
theorem zy_cou_i {T : Nat → Option zD} {V : zO} (h : zOi T V) (p q : Int32) : zOi T (zy_cou V p q).1 := by
  unfold zy_cou
  split
  · exact h
  · exact zOi_co h
theorem zy_wro_i {T : Nat → Option zD} {V : zO} (h : zOi T V) (fr to sz : Int32) : zOi T (zy_wro V fr to sz).1 := by
  unfold zy_wro
  split
  · exact h
  · next c =>
    have c1 : zo_cw (zOn V) (zOb V) (zWn (zOS V)) fr to = true := by
      cases hz : zo_cw (zOn V) (zOb V) (zWn (zOS V)) fr to with
      | true => rfl
      | false => exact absurd (Or.inl hz) c
    have c2 : ¬ zi_in sz 1 9999 = 0 := fun z => c (Or.inr z)
    obtain ⟨f, t, hf, ht, rfl, rfl, hab, hm⟩ := zo_cw_of h.1.1.1 c1
    obtain ⟨x, hx1, hx2, rfl⟩ : ∃ x, 1 ≤ x ∧ x ≤ 9999 ∧ sz = nI x := zi_1of (by decide) c2
    exact zOi_st h (zw_i_beg h.1.2.2.1 hm hf ht hab hx2)
theorem zy_awa_i {T : Nat → Option zD} {V : zO} (h : zOi T V) (o dy : Int32) : zOi T (zy_awa V o dy).1 := by
  unfold zy_awa
  split
  · exact h
  · exact zOi_st h (zw_i_lv h.1.2.2.1)
theorem zy_sid_i {T : Nat → Option zD} {V : zO} (h : zOi T V) (a to : Int32) : zOi T (zy_sid V a to).1 := by
  unfold zy_sid
  split
  · exact h
  · next c =>
    have c : zo_cs (zOn V) (zOb V) (zOc V) (zOS V) a to = true := by simpa using c
    have hn := h.1.2.2.1.1.1
    have ha : zo_is (zWn (zOS V)) a = true := by
      have c' := c
      unfold zo_cs at c'
      simp only [Bool.and_eq_true] at c'
      exact c'.1.1.1.1.1
    obtain ⟨k, hk, rfl⟩ := zo_of ha (by omega)
    rw [nI_clamp (by omega)]
    exact zOi_st h (zw_i_sd h.1.1 h.1.2.2.1 hk c)
/-- clauses: of which sort, and their numbers -/
def zy_do (T : Nat → Option zD) (kd a1 a2 a3 : Int32) (V : zO) : zO × Bool :=
  if kd = 3 then ((zy_off V a2 a1).1, decide (¬ (zy_off V a2 a1).2 = -1)) else if kd = 4 then ((zy_cou V a1 a2).1, decide ((zy_cou V a1 a2).2 = 1)) else if kd = 5 then ((zy_wro V a1 a2 a3).1, decide (¬ (zy_wro V a1 a2 a3).2 = -1)) else if kd = 6 then ((zy_awa V a1 a2).1, decide ((zy_awa V a1 a2).2 = 1)) else if kd = 7 then ((zy_sid V a1 a2).1, decide ((zy_sid V a1 a2).2 = 1)) else if kd = 8 then (zO_dy T V a1.toNatClampNeg, decide ((zWd (zOS V)).toNatClampNeg + a1.toNatClampNeg ≤ 9999)) else (V, true)
theorem zy_do_i {T : Nat → Option zD} {V : zO} (h : zOi T V) (kd a1 a2 a3 : Int32) : zOi T (zy_do T kd a1 a2 a3 V).1 := by
  unfold zy_do
  by_cases c3 : kd = 3
  · rw [if_pos c3]; exact zy_off_i h _ _
  rw [if_neg c3]
  by_cases c4 : kd = 4
  · rw [if_pos c4]; exact zy_cou_i h _ _
  rw [if_neg c4]
  by_cases c5 : kd = 5
  · rw [if_pos c5]; exact zy_wro_i h _ _ _
  rw [if_neg c5]
  by_cases c6 : kd = 6
  · rw [if_pos c6]; exact zy_awa_i h _ _
  rw [if_neg c6]
  by_cases c7 : kd = 7
  · rw [if_pos c7]; exact zy_sid_i h _ _
  rw [if_neg c7]
  by_cases c8 : kd = 8
  · rw [if_pos c8]; exact zOi_dy h
  rw [if_neg c8]; exact h
/-- a text, played from its clause k on: the office, and the clause that could not be -/
def zy_pl (T : Nat → Option zD) (kd a1 a2 a3 : Nat → Int32) : Nat → Nat → zO → zO × Int32
  | 0, _, V => (V, -1)
  | f + 1, k, V => if (zy_do T (kd k) (a1 k) (a2 k) (a3 k) V).2 then zy_pl T kd a1 a2 a3 f (k + 1) (zy_do T (kd k) (a1 k) (a2 k) (a3 k) V).1 else ((zy_do T (kd k) (a1 k) (a2 k) (a3 k) V).1, nI k)
theorem zy_pl_i {T : Nat → Option zD} {kd a1 a2 a3 : Nat → Int32} : ∀ (f k : Nat) (V : zO), zOi T V → zOi T (zy_pl T kd a1 a2 a3 f k V).1 := by
  intro f
  induction f with
  | zero => intro k V h; exact h
  | succ f ih =>
    intro k V h
    simp only [zy_pl]
    split
    · exact ih _ _ (zy_do_i h _ _ _ _)
    · exact zy_do_i h _ _ _ _
