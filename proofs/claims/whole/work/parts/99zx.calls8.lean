/-! ===== pile, weigh, owes, added ===== -/
theorem zV1_f {V : zO} {M M' : zm_M} (hs : zw_sz (zOS V)) (hH : ∀ i, i < zOs V → zw_sz (zOH V i)) (h : zV1 V M) (e : ∀ q, (17 ≤ q ∧ q ≤ 32) ∨ (77 ≤ q ∧ q < 377) → M'.1 q = M.1 q) (e3 : M'.1 16 3 = M.1 16 3) (e4 : M'.1 16 4 = M.1 16 4) : zV1 V M' := by
  obtain ⟨a1, a2, ⟨c, k1, k2, k3, k4, k5⟩, a4, a5⟩ := h
  refine ⟨zc_s9_e a1 (by rw [e 17 (by omega)]) (fun x j u v _ => by rw [e x (by omega)]), zw_c_e hs a2 (fun x j z => by unfold zW_in at z; rw [e x (by omega)]), ⟨c, by rw [e3]; exact k1, k2, by rw [e4]; exact k3, k4, fun i hi => zw_c_e (hH i hi) (k5 i hi) (fun x j z => ?_)⟩, fun i hi => by rw [e 21 (by omega)]; exact a4 i hi, fun i hi => by rw [e 22 (by omega)]; exact a5 i hi⟩
  have m30 : (c + 30 - zOs V + i) % 30 < 30 := Nat.mod_lt _ (by decide)
  generalize (c + 30 - zOs V + i) % 30 = r at *
  unfold zW_in at z
  rw [e x (by omega)]
theorem zX1_f {TX : zTX} {tn : Nat} {M M' : zm_M} (ht : tn ≤ 4) (h : zX1 TX tn M) (e : ∀ q, 41 ≤ q → q < 77 → M'.1 q = M.1 q) : zX1 TX tn M' := fun k hk => ⟨zl_cl_c (h k hk).1 (fun j hj => e _ (by omega) (by omega)), fun w hw => zl_law_c ((h k hk).2 w hw) (fun j _ _ => e _ (by omega) (by omega))⟩
theorem zV2_f {V : zO} {M M' : zm_M} (hs : zw_sz (zOS V)) (hH : ∀ i, i < zOs V → zw_sz (zOH V i)) (h : zV2 V M) (e : ∀ j, (j = 0 ∨ j = 3 ∨ (6 ≤ j ∧ j < 120) ∨ (128 ≤ j ∧ j < 138) ∨ 164 ≤ j) → M'.1 1 j = M.1 1 j) : zV2 V M' := by
  obtain ⟨a1, a2, ⟨k1, k2, k3⟩, a4, a5⟩ := h
  have n10 := a1.1.1
  exact ⟨⟨zt_wf_c a1.1 (fun i hi => (e _ (by omega)).symm), by rw [e _ (by omega)]; exact a1.2.1, fun i hi => by rw [e _ (by omega)]; exact a1.2.2.1 i hi, fun i hi => by rw [e _ (by omega)]; exact a1.2.2.2.1 i hi, a1.2.2.2.2⟩, zw_r_c hs a2 (fun k hk => e _ (by omega)) (fun k hk => e _ (by omega)), ⟨by rw [e _ (by omega)]; exact k1, k2, fun i hi => zw_r_c (hH i hi) (k3 i hi) (fun k hk => e _ (by omega)) (fun k hk => e _ (by omega))⟩, fun i hi => by rw [e _ (by omega)]; exact a4 i hi, fun i hi => by rw [e _ (by omega)]; exact a5 i hi⟩
/-- nothing of the office nor the texts has changed -/
theorem zG_p {TX : zTX} {p q : zA} {M M2 : zm_M} {np : Nat × (Nat → Int32)} {ow : Nat → Int32} {ad : Nat × (Nat → Nat) × (Nat → Int32)} (h : zG TX p q M) (e : ∀ y, y ≠ 1 → y ≠ 16 → (y < 33 ∨ 41 ≤ y) → M2.1 y = M.1 y) (e16 : ∀ j, j ≠ 10 → M2.1 16 j = M.1 16 j) (e1 : ∀ j, (j < 4 ∨ (6 ≤ j ∧ j < 120) ∨ (128 ≤ j ∧ j < 138) ∨ 164 ≤ j) → M2.1 1 j = M.1 1 j) (n8 : np.1 ≤ 8) (a8 : ad.1 ≤ 8) (an : ∀ i, i < ad.1 → ad.2.1 i < zOn (zAV p)) (c1 : M2.1 35 0 = nI np.1 ∧ ∀ i, i < np.1 → M2.1 36 i = np.2 i) (c2 : ∀ i, i < 10 → M2.1 38 i = ow i) (c3 : M2.1 16 10 = nI ad.1 ∧ ∀ i, i < ad.1 → M2.1 39 i = nI (ad.2.1 i) ∧ M2.1 40 i = ad.2.2 i) (d1 : M2.1 1 4 = nI np.1 ∧ ∀ i, i < np.1 → M2.1 1 (120 + i) = np.2 i) (d2 : ∀ i, i < 10 → M2.1 1 (138 + i) = ow i) (d3 : M2.1 1 5 = nI ad.1 ∧ ∀ i, i < ad.1 → M2.1 1 (148 + 2 * i) = nI (ad.2.1 i) ∧ M2.1 1 (148 + 2 * i + 1) = ad.2.2 i) : zGG M2 := by
  have hh := h
  obtain ⟨h1, h2, h3, h4, h5, h6, h7, h8, h9, h10, h11⟩ := h
  have hs := h1.1.1.2.2.1.1
  have hH := fun i hi => (h1.1.1.2.2.2 i hi).1
  refine ⟨TX, (p.1, p.2.1, p.2.2.1, np, ow, ad), q, ⟨h1.1, h1.2.1, h1.2.2.1, h1.2.2.2.1, n8, a8, an⟩, h2, ⟨zV1_f hs hH h3.1 (fun y hy => e y (by omega) (by omega) (by omega)) (e16 3 (by decide)) (e16 4 (by decide)), ⟨by rw [e16 6 (by decide)]; exact h3.2.1.1, by rw [e16 7 (by decide)]; exact h3.2.1.2⟩, zX1_f h1.2.1 h3.2.2.1 (fun y a b => e y (by omega) (by omega) (by omega)), c1, c2, c3⟩, ⟨zV2_f hs hH h4.1 (fun j hj => e1 j (by omega)), ⟨by rw [e1 1 (by omega)]; exact h4.2.1.1, by rw [e1 2 (by omega)]; exact h4.2.1.2⟩, zX2_e h4.2.2.1 (fun j _ => by rw [e 3 (by omega) (by omega) (by omega)]), d1, d2, d3⟩, zGk_e h2 h5 (fun y a b => e y (by omega) (by omega) (by omega)), zGl_e h2 h6 (e 2 (by omega) (by omega) (by omega)) (fun j _ => by rw [e 3 (by omega) (by omega) (by omega)]), h7, zN_e h8 (e 749 (by omega) (by omega) (by omega)), by rw [e 0 (by omega) (by omega) (by omega)]; exact h9, zTp_e h10 (by rw [e 15 (by omega) (by omega) (by omega)]) (e 765 (by omega) (by omega) (by omega)) (by rw [e 0 (by omega) (by omega) (by omega)]) (e 4 (by omega) (by omega) (by omega)), zFt_e h11 (fun j _ => by rw [e 761 (by omega) (by omega) (by omega)]) (by rw [e 0 (by omega) (by omega) (by omega)]) (by rw [e 0 (by omega) (by omega) (by omega)])⟩
section
variable {E : zm_E}
theorem zL_pile (hE : zm_ok E.2.2.1 E.2.2.2.2) (s : Int32) : zL E mX11_pile mX12_pile [.int s] := by
  intro M ⟨TX, p, q, h⟩
  have n8 : zAn p ≤ 8 := h.1.2.2.2.2.1
  have a8 : zAk p ≤ 8 := h.1.2.2.2.2.2.1
  have c := h.2.2.1.2.2.2
  have m := h.2.2.2.1.2.2.2
  refine c11_pile hE 98 n8 s c.1.1 (fun e => ⟨_, rfl, ?_⟩) (fun e b => ⟨_, rfl, ?_⟩) (fun e b l => ⟨_, rfl, ?_⟩)
  · refine c_pile hE 98 n8 s (by rw [zm_wi_other (by decide)]; exact m.1.1) (fun _ => ⟨rfl, ?_⟩) (fun z => absurd e z) (fun z => absurd e z)
    refine zG_p (np := (0, fun _ => 0)) (ow := zAo p) (ad := p.2.2.2.2.2) h (fun y a b d => by funext j; rw [zm_wi_other a, zm_wi_other (by omega)]) (fun j _ => by rw [zm_wi_other (by decide), zm_wi_other (by decide)]) (fun j hj => by rw [zm_wi_same, if_neg (by omega), zm_wi_other (by decide)]) (by decide) a8 h.1.2.2.2.2.2.2 ⟨by rw [zm_wi_other (by decide), zm_wi_same, if_pos rfl]; rfl, fun i hi => absurd hi (Nat.not_lt_zero i)⟩ (fun i hi => c.2.1 i hi) ⟨c.2.2.1, fun i hi => c.2.2.2 i hi⟩ ⟨by rw [zm_wi_same, if_pos rfl]; rfl, fun i hi => absurd hi (Nat.not_lt_zero i)⟩ (fun i hi => by rw [zm_wi_same, if_neg (by omega), zm_wi_other (by decide)]; exact m.2.1 i hi) ⟨by rw [zm_wi_same, if_neg (by decide), zm_wi_other (by decide)]; exact m.2.2.1, fun i hi => ?_⟩
    have hi : i < zAk p := hi
    rw [zm_wi_same, if_neg (by omega), zm_wi_other (by decide), zm_wi_same, if_neg (by omega), zm_wi_other (by decide)]
    exact m.2.2.2 i hi
  · exact c_pile hE 98 n8 s m.1.1 (fun z => absurd z e) (fun _ _ => ⟨rfl, TX, p, q, h⟩) (fun _ y1 y2 => b.elim (fun b => absurd b y1) (fun b => absurd y2 (by omega)))
  · have e1 : ∀ y, y ≠ 35 → y ≠ 36 → (zm_wi (zm_wi M 36 (zAn p) s) 35 0 (nI (zAn p + 1))).1 y = M.1 y := fun y a b => by funext j; rw [zm_wi_other a, zm_wi_other b]
    have e35 : (zm_wi (zm_wi M 36 (zAn p) s) 35 0 (nI (zAn p + 1))).1 35 0 = nI (zAn p + 1) := by rw [zm_wi_same, if_pos rfl]
    have e36 : ∀ j, (zm_wi (zm_wi M 36 (zAn p) s) 35 0 (nI (zAn p + 1))).1 36 j = if j = zAn p then s else M.1 36 j := fun j => by rw [zm_wi_other (by decide), zm_wi_same]
    generalize zm_wi (zm_wi M 36 (zAn p) s) 35 0 (nI (zAn p + 1)) = M1 at *
    refine c_pile hE 98 n8 s (by rw [e1 1 (by decide) (by decide)]; exact m.1.1) (fun z => absurd z e) (fun _ z => z.elim (fun z => absurd z b) (fun z => absurd l (by omega))) (fun _ _ _ => ⟨rfl, ?_⟩)
    have g : ∀ j, (zm_wi (zm_wi M1 1 (120 + zAn p) s) 1 4 (nI (zAn p + 1))).1 1 j = if j = 4 then nI (zAn p + 1) else if j = 120 + zAn p then s else M.1 1 j := fun j => by rw [zm_wi_same, zm_wi_same, e1 1 (by decide) (by decide)]
    have g2 : ∀ y, y ≠ 1 → (zm_wi (zm_wi M1 1 (120 + zAn p) s) 1 4 (nI (zAn p + 1))).1 y = M1.1 y := fun y a => by funext j; rw [zm_wi_other a, zm_wi_other a]
    generalize zm_wi (zm_wi M1 1 (120 + zAn p) s) 1 4 (nI (zAn p + 1)) = M2 at *
    refine zG_p (np := (zAn p + 1, fun i => if i = zAn p then s else zAp p i)) (ow := zAo p) (ad := p.2.2.2.2.2) h (fun y a b d => by rw [g2 y a, e1 y (by omega) (by omega)]) (fun j _ => by rw [g2 16 (by decide), e1 16 (by decide) (by decide)]) (fun j hj => by rw [g, if_neg (by omega), if_neg (by omega)]) l a8 h.1.2.2.2.2.2.2 ⟨by rw [g2 35 (by decide)]; exact e35, fun i hi => ?_⟩ (fun i hi => by rw [g2 38 (by decide), e1 38 (by decide) (by decide)]; exact c.2.1 i hi) ⟨by rw [g2 16 (by decide), e1 16 (by decide) (by decide)]; exact c.2.2.1, fun i hi => by rw [g2 39 (by decide), e1 39 (by decide) (by decide), g2 40 (by decide), e1 40 (by decide) (by decide)]; exact c.2.2.2 i hi⟩ ⟨by rw [g, if_pos rfl], fun i hi => ?_⟩ (fun i hi => by rw [g, if_neg (by omega), if_neg (by omega)]; exact m.2.1 i hi) ⟨by rw [g, if_neg (by omega), if_neg (by omega)]; exact m.2.2.1, fun i hi => ?_⟩
    · have hi : i < zAn p + 1 := hi
      rw [g2 36 (by decide), e36]
      show _ = if i = zAn p then s else zAp p i
      by_cases ei : i = zAn p
      · rw [if_pos ei, if_pos ei]
      · rw [if_neg ei, if_neg ei]; exact c.1.2 i (by omega)
    · have hi : i < zAn p + 1 := hi
      rw [g, if_neg (by omega)]
      show _ = if i = zAn p then s else zAp p i
      by_cases ei : i = zAn p
      · rw [if_pos ei, if_pos (by omega)]
      · rw [if_neg ei, if_neg (by omega)]; exact m.1.2 i (by omega)
    · have hi : i < zAk p := hi
      rw [g, if_neg (by omega), if_neg (by omega), g, if_neg (by omega), if_neg (by omega)]
      exact m.2.2.2 i hi
theorem zL_owes (hE : zm_ok E.2.2.1 E.2.2.2.2) (o k v : Int32) : zL E mX11_owes mX12_owes [.int o, .int k, .int v] := by
  intro M ⟨TX, p, q, h⟩
  have n8 : zAn p ≤ 8 := h.1.2.2.2.2.1
  have a8 : zAk p ≤ 8 := h.1.2.2.2.2.2.1
  have c := h.2.2.1.2.2.2
  have m := h.2.2.2.1.2.2.2
  have no : ∀ i j, i ≤ 1 → j ≤ 4 → ¬ zi_in v 0 99 = 0 → ¬ (zi_in (nI i) 0 1 = 0 ∨ zi_in (nI j) 0 4 = 0 ∨ zi_in v 0 99 = 0) := fun i j hi hj hv z => by
    rcases z with z | z | z
    · exact (Eq.mp (zd_in (v := i) (l := 0) (h := 1) (by omega) (by omega) (by omega)) z) ⟨Nat.zero_le _, hi⟩
    · exact (Eq.mp (zd_in (v := j) (l := 0) (h := 4) (by omega) (by omega) (by omega)) z) ⟨Nat.zero_le _, hj⟩
    · exact hv z
  refine c11_owes hE 98 o k v (fun b => ⟨_, rfl, ?_⟩) (fun i j hi hj e1 e2 hv => ⟨_, rfl, ?_⟩)
  · refine c_owes hE 98 o k v (fun _ => ⟨rfl, TX, p, q, h⟩) (fun i j hi hj e1 e2 hv => ?_)
    subst e1 e2
    exact absurd b (no i j hi hj hv)
  · subst e1 e2
    refine c_owes hE 98 _ _ v (fun b => absurd b (no i j hi hj hv)) (fun i' j' hi' hj' e1 e2 _ => ⟨rfl, ?_⟩)
    have e1 := (nI_eq (by omega) (by omega)).mp e1
    have e2 := (nI_eq (by omega) (by omega)).mp e2
    subst e1 e2
    have g : ∀ y, (zm_wi (zm_wi M 38 (5 * i + j) v) 1 (138 + (5 * i + j)) v).1 1 y = if y = 138 + (5 * i + j) then v else M.1 1 y := fun y => by rw [zm_wi_same, zm_wi_other (by decide)]
    have g2 : ∀ y, y ≠ 1 → y ≠ 38 → (zm_wi (zm_wi M 38 (5 * i + j) v) 1 (138 + (5 * i + j)) v).1 y = M.1 y := fun y a b => by funext x; rw [zm_wi_other a, zm_wi_other b]
    have g3 : ∀ y, (zm_wi (zm_wi M 38 (5 * i + j) v) 1 (138 + (5 * i + j)) v).1 38 y = if y = 5 * i + j then v else M.1 38 y := fun y => by rw [zm_wi_other (by decide), zm_wi_same]
    generalize zm_wi (zm_wi M 38 (5 * i + j) v) 1 (138 + (5 * i + j)) v = M2 at *
    refine zG_p (np := p.2.2.2.1) (ow := fun y => if y = 5 * i + j then v else zAo p y) (ad := p.2.2.2.2.2) h (fun y a b d => g2 y a (by omega)) (fun y _ => by rw [g2 16 (by decide) (by decide)]) (fun y hy => by rw [g, if_neg (by omega)]) n8 a8 h.1.2.2.2.2.2.2 ⟨by rw [g2 35 (by decide) (by decide)]; exact c.1.1, fun x hx => by rw [g2 36 (by decide) (by decide)]; exact c.1.2 x hx⟩ (fun x hx => ?_) ⟨by rw [g2 16 (by decide) (by decide)]; exact c.2.2.1, fun x hx => by rw [g2 39 (by decide) (by decide), g2 40 (by decide) (by decide)]; exact c.2.2.2 x hx⟩ ⟨by rw [g, if_neg (by omega)]; exact m.1.1, fun x hx => ?_⟩ (fun x hx => ?_) ⟨by rw [g, if_neg (by omega)]; exact m.2.2.1, fun x hx => ?_⟩
    · rw [g3]
      show _ = if x = 5 * i + j then v else zAo p x
      by_cases ei : x = 5 * i + j
      · rw [if_pos ei, if_pos ei]
      · rw [if_neg ei, if_neg ei]; exact c.2.1 x hx
    · have hx : x < zAn p := hx
      rw [g, if_neg (by omega)]; exact m.1.2 x hx
    · rw [g]
      show _ = if x = 5 * i + j then v else zAo p x
      by_cases ei : x = 5 * i + j
      · rw [if_pos ei, if_pos (by omega)]
      · rw [if_neg ei, if_neg (by omega)]; exact m.2.1 x hx
    · have hx : x < zAk p := hx
      rw [g, if_neg (by omega), g, if_neg (by omega)]; exact m.2.2.2 x hx
theorem zL_added (hE : zm_ok E.2.2.1 E.2.2.2.2) (o b : Int32) : zL E mX11_added mX12_added [.int o, .int b] := by
  intro M ⟨TX, p, q, h⟩
  have n8 : zAn p ≤ 8 := h.1.2.2.2.2.1
  have a8 : zAk p ≤ 8 := h.1.2.2.2.2.2.1
  have n10 := h.1.1.1.1.1
  have c := h.2.2.1.2.2.2
  have m := h.2.2.2.1.2.2.2
  have c17 := h.2.2.1.1.1.2.1
  have m0 := h.2.2.2.1.1.1.2.1
  refine c11_added hE 98 n10 a8 o b c17 c.2.2.1 (fun e => ⟨_, rfl, ?_⟩) (fun e z => ⟨_, rfl, ?_⟩) (fun e z1 z2 z3 => ⟨_, rfl, ?_⟩)
  · refine c_added hE 97 n10 a8 o b (by rw [zm_wi_other (by decide)]; exact m0) (by rw [zm_wi_other (by decide)]; exact m.2.2.1) (fun _ => ⟨rfl, ?_⟩) (fun z => absurd e z) (fun z => absurd e z)
    have g : ∀ y, (zm_wi (zm_wi M 16 10 0) 1 5 0).1 1 y = if y = 5 then 0 else M.1 1 y := fun y => by rw [zm_wi_same, zm_wi_other (by decide)]
    have g2 : ∀ y, y ≠ 1 → y ≠ 16 → (zm_wi (zm_wi M 16 10 0) 1 5 0).1 y = M.1 y := fun y a b => by funext x; rw [zm_wi_other a, zm_wi_other b]
    have g3 : ∀ y, (zm_wi (zm_wi M 16 10 0) 1 5 0).1 16 y = if y = 10 then 0 else M.1 16 y := fun y => by rw [zm_wi_other (by decide), zm_wi_same]
    generalize zm_wi (zm_wi M 16 10 0) 1 5 0 = M2 at *
    refine zG_p (np := p.2.2.2.1) (ow := zAo p) (ad := (0, fun _ => 0, fun _ => 0)) h (fun y a b _ => g2 y a b) (fun y hy => by rw [g3, if_neg hy]) (fun y hy => by rw [g, if_neg (by omega)]) n8 (by decide) (fun i hi => absurd hi (Nat.not_lt_zero i)) ⟨by rw [g2 35 (by decide) (by decide)]; exact c.1.1, fun x hx => by rw [g2 36 (by decide) (by decide)]; exact c.1.2 x hx⟩ (fun x hx => by rw [g2 38 (by decide) (by decide)]; exact c.2.1 x hx) ⟨by rw [g3, if_pos rfl]; rfl, fun i hi => absurd hi (Nat.not_lt_zero i)⟩ ⟨by rw [g, if_neg (by omega)]; exact m.1.1, fun x hx => ?_⟩ (fun x hx => by rw [g, if_neg (by omega)]; exact m.2.1 x hx) ⟨by rw [g, if_pos rfl]; rfl, fun i hi => absurd hi (Nat.not_lt_zero i)⟩
    have hx : x < zAn p := hx
    rw [g, if_neg (by omega)]; exact m.1.2 x hx
  · exact c_added hE 97 n10 a8 o b m0 m.2.2.1 (fun z => absurd z e) (fun _ _ => ⟨rfl, TX, p, q, h⟩) (fun _ y1 y2 y3 => by
      rcases z with z | z | z
      · rw [z] at y1; cases y1
      · exact absurd z y2
      · omega)
  · obtain ⟨k, k1, k2⟩ := zo_of z1 (by omega)
    have g2 : ∀ y, y ≠ 16 → y ≠ 39 → y ≠ 40 → (zm_wi (zm_wi (zm_wi M 39 (zAk p) o) 40 (zAk p) b) 16 10 (nI (zAk p + 1))).1 y = M.1 y := fun y a b c => by funext x; rw [zm_wi_other a, zm_wi_other c, zm_wi_other b]
    have g16 : ∀ y, (zm_wi (zm_wi (zm_wi M 39 (zAk p) o) 40 (zAk p) b) 16 10 (nI (zAk p + 1))).1 16 y = if y = 10 then nI (zAk p + 1) else M.1 16 y := fun y => by rw [zm_wi_same, zm_wi_other (by decide), zm_wi_other (by decide)]
    have g39 : ∀ y, (zm_wi (zm_wi (zm_wi M 39 (zAk p) o) 40 (zAk p) b) 16 10 (nI (zAk p + 1))).1 39 y = if y = zAk p then o else M.1 39 y := fun y => by rw [zm_wi_other (by decide), zm_wi_other (by decide), zm_wi_same]
    have g40 : ∀ y, (zm_wi (zm_wi (zm_wi M 39 (zAk p) o) 40 (zAk p) b) 16 10 (nI (zAk p + 1))).1 40 y = if y = zAk p then b else M.1 40 y := fun y => by rw [zm_wi_other (by decide), zm_wi_same, zm_wi_other (by decide)]
    generalize zm_wi (zm_wi (zm_wi M 39 (zAk p) o) 40 (zAk p) b) 16 10 (nI (zAk p + 1)) = M1 at *
    refine c_added hE 97 n10 a8 o b (by rw [g2 1 (by decide) (by decide) (by decide)]; exact m0) (by rw [g2 1 (by decide) (by decide) (by decide)]; exact m.2.2.1) (fun z => absurd z e) (fun _ z => by
      rcases z with z | z | z
      · rw [z] at z1; cases z1
      · exact absurd z z2
      · omega) (fun _ _ _ _ => ⟨rfl, ?_⟩)
    have f : ∀ y, (zm_wi (zm_wi (zm_wi M1 1 (148 + 2 * zAk p) o) 1 (148 + 2 * zAk p + 1) b) 1 5 (nI (zAk p + 1))).1 1 y = if y = 5 then nI (zAk p + 1) else if y = 148 + 2 * zAk p + 1 then b else if y = 148 + 2 * zAk p then o else M.1 1 y := fun y => by rw [zm_wi_same, zm_wi_same, zm_wi_same, g2 1 (by decide) (by decide) (by decide)]
    have f2 : ∀ y, y ≠ 1 → (zm_wi (zm_wi (zm_wi M1 1 (148 + 2 * zAk p) o) 1 (148 + 2 * zAk p + 1) b) 1 5 (nI (zAk p + 1))).1 y = M1.1 y := fun y a => by funext x; rw [zm_wi_other a, zm_wi_other a, zm_wi_other a]
    generalize zm_wi (zm_wi (zm_wi M1 1 (148 + 2 * zAk p) o) 1 (148 + 2 * zAk p + 1) b) 1 5 (nI (zAk p + 1)) = M2 at *
    refine zG_p (np := p.2.2.2.1) (ow := zAo p) (ad := (zAk p + 1, fun i => if i = zAk p then k else zAa p i, fun i => if i = zAk p then b else zAb p i)) h (fun y a b d => by rw [f2 y a, g2 y b (by omega) (by omega)]) (fun y hy => by rw [f2 16 (by decide), g16, if_neg hy]) (fun y hy => by rw [f, if_neg (by omega), if_neg (by omega), if_neg (by omega)]) n8 z3 (fun i hi => ?_) ⟨by rw [f2 35 (by decide), g2 35 (by decide) (by decide) (by decide)]; exact c.1.1, fun x hx => by rw [f2 36 (by decide), g2 36 (by decide) (by decide) (by decide)]; exact c.1.2 x hx⟩ (fun x hx => by rw [f2 38 (by decide), g2 38 (by decide) (by decide) (by decide)]; exact c.2.1 x hx) ⟨by rw [f2 16 (by decide), g16, if_pos rfl], fun i hi => ?_⟩ ⟨by rw [f, if_neg (by omega), if_neg (by omega), if_neg (by omega)]; exact m.1.1, fun x hx => ?_⟩ (fun x hx => by rw [f, if_neg (by omega), if_neg (by omega), if_neg (by omega)]; exact m.2.1 x hx) ⟨by rw [f, if_pos rfl], fun i hi => ?_⟩
    · have hi : i < zAk p + 1 := hi
      show (if i = zAk p then k else zAa p i) < _
      by_cases ei : i = zAk p
      · rw [if_pos ei]; exact k1
      · rw [if_neg ei]; exact h.1.2.2.2.2.2.2 i (by omega)
    · have hi : i < zAk p + 1 := hi
      show _ = nI (if i = zAk p then k else zAa p i) ∧ _ = (if i = zAk p then b else zAb p i)
      rw [f2 39 (by decide), f2 40 (by decide), g39, g40]
      by_cases ei : i = zAk p
      · rw [if_pos ei, if_pos ei, if_pos ei, if_pos ei]; exact ⟨k2, rfl⟩
      · rw [if_neg ei, if_neg ei, if_neg ei, if_neg ei]; exact c.2.2.2 i (by omega)
    · have hx : x < zAn p := hx
      rw [f, if_neg (by omega), if_neg (by omega), if_neg (by omega)]; exact m.1.2 x hx
    · have hi : i < zAk p + 1 := hi
      show _ = nI (if i = zAk p then k else zAa p i) ∧ _ = (if i = zAk p then b else zAb p i)
      by_cases ei : i = zAk p
      · rw [if_pos ei, if_pos ei]
        refine ⟨(f _).trans ?_, (f _).trans ?_⟩
        · rw [if_neg (show ¬ 148 + 2 * i = 5 by omega), if_neg (show ¬ 148 + 2 * i = 148 + 2 * zAk p + 1 by omega), if_pos (show 148 + 2 * i = 148 + 2 * zAk p by omega)]; exact k2
        · rw [if_neg (show ¬ 148 + 2 * i + 1 = 5 by omega), if_pos (show 148 + 2 * i + 1 = 148 + 2 * zAk p + 1 by omega)]
      · rw [if_neg ei, if_neg ei]
        refine ⟨(f _).trans ?_, (f _).trans ?_⟩
        · rw [if_neg (show ¬ 148 + 2 * i = 5 by omega), if_neg (show ¬ 148 + 2 * i = 148 + 2 * zAk p + 1 by omega), if_neg (show ¬ 148 + 2 * i = 148 + 2 * zAk p by omega)]; exact (m.2.2.2 i (by omega)).1
        · rw [if_neg (show ¬ 148 + 2 * i + 1 = 5 by omega), if_neg (show ¬ 148 + 2 * i + 1 = 148 + 2 * zAk p + 1 by omega), if_neg (show ¬ 148 + 2 * i + 1 = 148 + 2 * zAk p by omega)]; exact (m.2.2.2 i (by omega)).2
end
