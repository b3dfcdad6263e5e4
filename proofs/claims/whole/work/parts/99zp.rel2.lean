/-! ===== what holds between calls, both sides ===== -/
theorem zm_s9_e {n : Nat} {b pr : Nat → Int32} {M M' : zm_M} (h : zm_s9 n b pr M) (e : ∀ j, j < 4544 → M'.1 1 j = M.1 1 j) : zm_s9 n b pr M' := by
  obtain ⟨h1, h3, h4, h5, h6⟩ := h
  have n10 := h1.1
  exact ⟨zt_wf_c h1 (fun i hi => (e _ (by omega)).symm), by rw [e _ (by omega)]; exact h3, fun i hi => by rw [e _ (by omega)]; exact h4 i hi, fun i hi => by rw [e _ (by omega)]; exact h5 i hi, h6⟩
theorem zV2_e {V : zO} {M M' : zm_M} (hs : zw_sz (zOS V)) (hH : ∀ i, i < zOs V → zw_sz (zOH V i)) (h : zV2 V M) (e : ∀ j, j < 4544 → M'.1 1 j = M.1 1 j) : zV2 V M' := by
  obtain ⟨h1, h2, ⟨k1, k2, k3⟩, h4, h5⟩ := h
  have n10 := h1.1.1
  refine ⟨zm_s9_e h1 e, zw_r_c hs h2 (fun k hk => e _ (by omega)) (fun k hk => e _ (by omega)), ⟨by rw [e _ (by omega)]; exact k1, k2, fun i hi => zw_r_c (hH i hi) (k3 i hi) (fun k hk => e _ (by omega)) (fun k hk => e _ (by omega))⟩, fun i hi => by rw [e _ (by omega)]; exact h4 i hi, fun i hi => by rw [e _ (by omega)]; exact h5 i hi⟩
theorem zX2_e {TX : zTX} {tn : Nat} {M M' : zm_M} (h : zX2 TX tn M) (e : ∀ j, j < 705 * tn → M'.1 3 j = M.1 3 j) : zX2 TX tn M' := by
  intro t lt
  have e2 : ∀ j, 705 * t ≤ j → j < 705 * t + 705 → M'.1 3 j = M.1 3 j := fun j a b => e j (by omega)
  refine ⟨?_, fun w hw => zl_m_c ((h t lt).2 w hw) e2⟩
  obtain ⟨h1, h2, h3⟩ := (h t lt).1
  refine ⟨by rw [e2 _ (by omega) (by omega)]; exact h1, h2, fun k hk => ?_⟩
  rw [e2 _ (by omega) (by omega), e2 _ (by omega) (by omega), e2 _ (by omega) (by omega), e2 _ (by omega) (by omega)]
  exact h3 k hk
theorem zGm_e {TX : zTX} {p : zA} {M M' : zm_M} (hi : zGi TX p) (h : zGm TX p M) (e : ∀ j, j < 4544 → M'.1 1 j = M.1 1 j) (e3 : ∀ j, j < 705 * zAt p → M'.1 3 j = M.1 3 j) : zGm TX p M' := by
  obtain ⟨⟨hA, _⟩, i2, i3, i4, i5, i6, i7⟩ := hi
  obtain ⟨h1, ⟨h2, h3⟩, h4, ⟨h5, h6⟩, h7, h8, h9⟩ := h
  refine ⟨zV2_e hA.2.2.1.1 (fun i hi => (hA.2.2.2 i hi).1) h1 e, ⟨by rw [e _ (by omega)]; exact h2, by rw [e _ (by omega)]; exact h3⟩, zX2_e h4 e3, ⟨by rw [e _ (by omega)]; exact h5, fun i hi => by rw [e _ (by omega)]; exact h6 i hi⟩, fun i hi => by rw [e _ (by omega)]; exact h7 i hi, by rw [e _ (by omega)]; exact h8, fun i hi => ?_⟩
  rw [e _ (by omega), e _ (by omega)]
  exact h9 i hi
def zsh (M : zm_M) : zm_M := (fun q => if 16 ≤ q ∧ q < 377 then M.1 (q + 361) else M.1 q, M.2)
def zsw (M : zm_M) : zm_M := (fun q => if q = 1 then M.1 2 else M.1 q, M.2)
theorem zsh_in {M : zm_M} {q : Nat} (h1 : 16 ≤ q) (h2 : q < 377) : (zsh M).1 q = M.1 (q + 361) := if_pos ⟨h1, h2⟩
theorem zsw_1 {M : zm_M} : (zsw M).1 1 = M.1 2 := by
  show (if (1 : Nat) = 1 then M.1 2 else M.1 1) = M.1 2
  rw [if_pos rfl]
theorem zsw_o {M : zm_M} {q : Nat} (h : q ≠ 1) : (zsw M).1 q = M.1 q := if_neg h
def zTp (M : zm_M) : Prop := ∃ tp n, zk_tc tp n M ∧ M.1 15 9 = nI n ∧ zk_tm tp n M
def zFt (M : zm_M) : Prop := (M.1 761 0 = 0 ∧ M.1 0 5 = -1 ∧ M.1 0 6 = -1) ∨ (M.1 761 0 = 1 ∧ M.1 761 1 = M.1 0 5 ∧ M.1 761 2 = M.1 0 6)
def zG (TX : zTX) (p q : zA) (M : zm_M) : Prop := zGi TX p ∧ zGi TX q ∧ zGc TX p M ∧ zGm TX p M ∧ zGc TX q (zsh M) ∧ zGm TX q (zsw M) ∧ zAt q ≤ zAt p ∧ zN M ∧ M.1 0 23 = 1 ∧ zTp M ∧ zFt M
def zGG (M : zm_M) : Prop := ∃ TX p q, zG TX p q M
theorem zTp_e {M M' : zm_M} (h : zTp M) (e1 : M'.1 15 9 = M.1 15 9) (e2 : M'.1 765 = M.1 765) (e3 : M'.1 0 4 = M.1 0 4) (e4 : M'.1 4 = M.1 4) : zTp M' := by
  obtain ⟨tp, n, ⟨a1, a2, a3⟩, b, ⟨c1, c2, c3, c4⟩⟩ := h
  exact ⟨tp, n, ⟨a1, fun i hi => by rw [e2]; exact a2 i hi, a3⟩, by rw [e1]; exact b, ⟨c1, by rw [e3]; exact c2, fun i hi => by rw [e4]; exact c3 i hi, c4⟩⟩
theorem zFt_e {M M' : zm_M} (h : zFt M) (e1 : ∀ j, j ≤ 2 → M'.1 761 j = M.1 761 j) (e2 : M'.1 0 5 = M.1 0 5) (e3 : M'.1 0 6 = M.1 0 6) : zFt M' := by
  unfold zFt at h ⊢
  rw [e1 0 (by omega), e1 1 (by omega), e1 2 (by omega), e2, e3]
  exact h
/-- the class's kept Service, the reference's image -/
theorem zGk_e {TX : zTX} {q : zA} {M M' : zm_M} (hi : zGi TX q) (h : zGc TX q (zsh M)) (e : ∀ x, 377 ≤ x → x < 738 → M'.1 x = M.1 x) : zGc TX q (zsh M') := zGc_e hi h (fun x j z => by rw [zsh_in z.1 z.2.1, zsh_in z.1 z.2.1, e _ (by have := z.1; omega) (by have := z.2.1; omega)])
theorem zGl_e {TX : zTX} {q : zA} {M M' : zm_M} (hi : zGi TX q) (h : zGm TX q (zsw M)) (e : M'.1 2 = M.1 2) (e3 : ∀ j, j < 705 * zAt q → M'.1 3 j = M.1 3 j) : zGm TX q (zsw M') := zGm_e hi h (fun j _ => by rw [zsw_1, zsw_1, e]) (fun j hj => by rw [zsw_o (by decide), zsw_o (by decide)]; exact e3 j hj)
/-- what no call asks for later may change -/
def zSc (q : Nat) : Prop := q = 0 ∨ (5 ≤ q ∧ q ≤ 14) ∨ (738 ≤ q ∧ q ≤ 760)
theorem zG_s {TX : zTX} {p q : zA} {M M' : zm_M} (h : zG TX p q M) (e : ∀ x, ¬ zSc x → M'.1 x = M.1 x) (hN : zN M') (e0 : ∀ j, j = 4 ∨ j = 5 ∨ j = 6 ∨ j = 23 → M'.1 0 j = M.1 0 j) : zG TX p q M' := by
  obtain ⟨h1, h2, h3, h4, h5, h6, h7, h8, h9, h10, h11⟩ := h
  unfold zSc at e
  refine ⟨h1, h2, zGc_e h1 h3 (fun x j z => by have := z.1; have := z.2.1; rw [e x (by omega)]), zGm_e h1 h4 (fun j _ => by rw [e 1 (by omega)]) (fun j _ => by rw [e 3 (by omega)]), zGk_e h2 h5 (fun x a b => e x (by omega)), zGl_e h2 h6 (e 2 (by omega)) (fun j _ => by rw [e 3 (by omega)]), h7, hN, by rw [e0 23 (by omega)]; exact h9, zTp_e h10 (by rw [e 15 (by omega)]) (e 765 (by omega)) (e0 4 (by omega)) (e 4 (by omega)), zFt_e h11 (fun j _ => by rw [e 761 (by omega)]) (e0 5 (by omega)) (e0 6 (by omega))⟩
theorem zN_e {M M' : zm_M} (h : zN M) (e : M'.1 749 = M.1 749) : zN M' := fun i hi => by rw [e]; exact h i hi
theorem zG_zf {TX : zTX} {p q : zA} {M M' : zm_M} {L : List Nat} (h : zG TX p q M) (f : zf L M M') (hL : ∀ x, x ∈ L → zSc x) (hN : zN M') (h0 : 0 ∈ L → ∀ j, j = 4 ∨ j = 5 ∨ j = 6 ∨ j = 23 → M'.1 0 j = M.1 0 j) : zG TX p q M' := zG_s h (fun x hx => (f x (fun z => hx (hL x z))).1) hN (fun j hj => by
  by_cases z : 0 ∈ L
  · exact h0 z j hj
  · rw [(f 0 z).1])
/-- the office, as its methods take it -/
theorem zG_T {TX : zTX} {p : zA} {M : zm_M} (hi : zGi TX p) (h : zGc TX p M) : zc_T M (zr_law M) (zT TX (zAy p)) := by
  obtain ⟨_, i2, i3, _⟩ := hi
  obtain ⟨_, ⟨h6, h7⟩, h4, _⟩ := h
  unfold zr_law
  rw [h6, h7]
  rcases i3 with y | ⟨t, lt, y⟩
  · rw [y]
    refine Or.inl ⟨?_, fun w _ => by unfold zT; rw [if_pos rfl]⟩
    rw [if_pos]
    unfold zi_in
    rw [if_pos (by decide)]
  · have c1 : (nI t).toNatClampNeg = t := nI_clamp (by omega)
    have e1 : nI (zAt p) - 1 = nI (zAt p - 1) := by rw [show (1 : Int32) = nI 1 from rfl, zk_sub (by omega)]
    have e2 : ¬ zi_in (nI t) 0 (nI (zAt p - 1)) = 0 := fun z => (Eq.mp (zd_in (v := t) (l := 0) (h := zAt p - 1) (by omega) (by omega) (by omega)) z) ⟨Nat.zero_le _, by omega⟩
    rw [y, c1, e1, if_neg e2]
    refine Or.inr ⟨41 + 9 * t, rfl, zl_now (by omega), fun w hw => ?_⟩
    unfold zT
    rw [if_neg (zt_ne (by omega)), c1]
    exact (h4 t lt).2 w hw
theorem zG_OC {TX : zTX} {p : zA} {M : zm_M} (hi : zGi TX p) (h : zGc TX p M) (hN : zN M) : zOC (zAt p) (zT TX (zAy p)) (zAV p) M := ⟨⟨h.1.1, hN, h.2.1.1, zG_T hi h, h.1.2.1, h.1.2.2.1⟩, h.1.2.2.2.1, h.1.2.2.2.2⟩
theorem zG_Tm {TX : zTX} {p : zA} {M : zm_M} (hi : zGi TX p) (h : zGm TX p M) (w : Nat) (hw : w ≤ 2) : zm_T M (M.1 1 2) w (zT TX (zAy p) w) := by
  obtain ⟨_, i2, i3, _⟩ := hi
  obtain ⟨_, ⟨h6, h7⟩, h4, _⟩ := h
  rw [h7]
  rcases i3 with y | ⟨t, lt, y⟩
  · exact Or.inl ⟨y, by unfold zT; rw [if_pos y]⟩
  · have c1 : (nI t).toNatClampNeg = t := nI_clamp (by omega)
    refine Or.inr ⟨t, by omega, y, ?_⟩
    unfold zT
    rw [y, if_neg (zt_ne (by omega)), c1]
    exact (h4 t lt).2 w hw
theorem zG_OM {TX : zTX} {p : zA} {M : zm_M} (hi : zGi TX p) (h : zGm TX p M) (h23 : M.1 0 23 = 1) : zOM (zAt p) (zT TX (zAy p)) (zAV p) M := ⟨⟨h.1.1, h.2.1.1, fun w hw => zG_Tm hi h w hw, h.1.2.1, h.1.2.2.1, h23⟩, h.1.2.2.2.1, h.1.2.2.2.2⟩
/-- a call, in the class and in the reference -/
def zL (E : zm_E) (m1 m2 : zm_Me) (as : List Value) : Prop := ∀ M, zGG M → zm_R E 100 m1 (.ref 15 :: as) M (fun r M1 => ∃ v : Int32, r = some (.int v) ∧ zm_R E 100 m2 (.ref 0 :: as) M1 (fun r2 M2 => r2 = some (.int v) ∧ zGG M2))
def zLj (E : zm_E) (m1 m2 : zm_Me) (as : List Value) : Prop := ∀ M, zGG M → zm_R E 100 m1 (.ref 15 :: as) M (fun r M1 => ∃ v : Int64, r = some (.long v) ∧ zm_R E 100 m2 (.ref 0 :: as) M1 (fun r2 M2 => r2 = some (.long v) ∧ zGG M2))
