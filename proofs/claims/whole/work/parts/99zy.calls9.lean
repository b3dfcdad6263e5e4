/-! ===== weigh, end, image, back ===== -/
section
variable {E : zm_E}
theorem zL_weigh (hE : zm_ok E.2.2.1 E.2.2.2.2) (x w : Int32) : zL E mX11_weigh mX12_weigh [.int x, .int w] := by
  intro M ⟨TX, p, q, h⟩
  have n10 := h.1.1.1.1.1
  have no : ∀ i, i < zOn (zAV p) → ¬ zi_in w 0 99 = 0 → ¬ (zo_is (zOn (zAV p)) (nI i) = false ∨ zi_in w 0 99 = 0) := fun i hi hw z => by
    rcases z with z | z
    · rw [zo_isI (by omega) hi] at z; cases z
    · exact hw z
  refine c11_weigh hE 98 n10 x w h.2.2.1.1.1.2.1 (fun b => ⟨_, rfl, ?_⟩) (fun i hi e1 hw => ⟨_, rfl, ?_⟩)
  · refine c_weigh hE 97 n10 x w h.2.2.2.1.1.1.2.1 (fun _ => ⟨rfl, TX, p, q, h⟩) (fun i hi e1 hw => ?_)
    subst e1
    exact absurd b (no i hi hw)
  · subst e1
    refine c_weigh hE 97 n10 _ w (by rw [zm_wi_other (by decide)]; exact h.2.2.2.1.1.1.2.1) (fun b => absurd b (no i hi hw)) (fun i' hi' e1 _ => ⟨rfl, ?_⟩)
    have e1 := (nI_eq (by omega) (by omega)).mp e1
    subst e1
    obtain ⟨g, g1, g2⟩ := zi_in_of (by decide) (show ¬ zi_in w 0 (nI 99) = 0 from hw)
    have f : ∀ y, (zm_wi (zm_wi M 22 i w) 1 (128 + i) w).1 1 y = if y = 128 + i then w else M.1 1 y := fun y => by rw [zm_wi_same, zm_wi_other (by decide)]
    have f2 : ∀ y, y ≠ 1 → y ≠ 22 → (zm_wi (zm_wi M 22 i w) 1 (128 + i) w).1 y = M.1 y := fun y a b => by funext z; rw [zm_wi_other a, zm_wi_other b]
    have f3 : ∀ y, (zm_wi (zm_wi M 22 i w) 1 (128 + i) w).1 22 y = if y = i then w else M.1 22 y := fun y => by rw [zm_wi_other (by decide), zm_wi_same]
    generalize zm_wi (zm_wi M 22 i w) 1 (128 + i) w = M2 at *
    obtain ⟨h1, h2, h3, h4, h5, h6, h7, h8, h9, h10, h11⟩ := h
    have hs := h1.1.1.2.2.1.1
    have iv : zOi (zT TX (zAy p)) (zOn (zAV p), zOb (zAV p), zOp (zAV p), zOc (zAV p), zo_u (zOw (zAV p)) i w, zOS (zAV p), zOs (zAV p), zOH (zAV p)) := ⟨h1.1.1, h1.1.2.1, fun j a b => by
      have a : zOn (zAV p) ≤ j := a
      show zo_u (zOw (zAV p)) i w j = 1
      rw [zo_u_o (by omega)]; exact h1.1.2.2.1 j a b, fun j hj => by
      show ∃ g, g ≤ 99 ∧ zo_u (zOw (zAV p)) i w j = nI g
      by_cases c : j = i
      · subst c; rw [zo_u_s]; exact ⟨g, g1, g2⟩
      · rw [zo_u_o c]; exact h1.1.2.2.2.1 j hj, h1.1.2.2.2.2⟩
    obtain ⟨a1, a2, ⟨c, k1, k2, k3, k4, k5⟩, a4, a5⟩ := h3.1
    obtain ⟨b1, b2, ⟨l1, l2, l3⟩, b4, b5⟩ := h4.1
    have v1 : zV1 (zOn (zAV p), zOb (zAV p), zOp (zAV p), zOc (zAV p), zo_u (zOw (zAV p)) i w, zOS (zAV p), zOs (zAV p), zOH (zAV p)) M2 := by
      refine ⟨⟨⟨zt_wf_c a1.1.1 (fun j _ => by rw [f2 18 (by decide) (by decide)]), fun j hj => by rw [f2 20 (by decide) (by decide), f2 18 (by decide) (by decide)]; exact a1.1.2 j hj⟩, by rw [f2 17 (by decide) (by decide)]; exact a1.2.1, fun j hj => by rw [f2 18 (by decide) (by decide)]; exact a1.2.2.1 j hj, fun j hj => by rw [f2 19 (by decide) (by decide)]; exact a1.2.2.2.1 j hj, a1.2.2.2.2⟩, zw_c_e hs a2 (fun y j z => by unfold zW_in at z; rw [f2 y (by omega) (by omega)]), ⟨c, by rw [f2 16 (by decide) (by decide)]; exact k1, k2, by rw [f2 16 (by decide) (by decide)]; exact k3, k4, fun j hj => zw_c_e (h1.1.1.2.2.2 j hj).1 (k5 j hj) (fun y j z => by unfold zW_in at z; rw [f2 y (by omega) (by omega)])⟩, fun j hj => by rw [f2 21 (by decide) (by decide)]; exact a4 j hj, fun j hj => ?_⟩
      rw [f3]
      show _ = zo_u (zOw (zAV p)) i w j
      by_cases cj : j = i
      · rw [if_pos cj, cj, zo_u_s]
      · rw [if_neg cj, zo_u_o cj]; exact a5 j hj
    have m1 : ∀ y, ¬ (128 ≤ y ∧ y < 138) → M2.1 1 y = M.1 1 y := fun y hy => by rw [f, if_neg (by omega)]
    have v2 : zV2 (zOn (zAV p), zOb (zAV p), zOp (zAV p), zOc (zAV p), zo_u (zOw (zAV p)) i w, zOS (zAV p), zOs (zAV p), zOH (zAV p)) M2 := by
      have nn : ∀ j, j < zOn (zAV p) → j < 10 := fun j hj => by omega
      refine ⟨⟨zt_wf_c b1.1 (fun j hj => by have := nn j hj; exact (m1 _ (by omega)).symm), by rw [m1 _ (by omega)]; exact b1.2.1, fun j hj => by have := nn j hj; rw [m1 _ (by omega)]; exact b1.2.2.1 j hj, fun j hj => by have := nn j hj; rw [m1 _ (by omega)]; exact b1.2.2.2.1 j hj, b1.2.2.2.2⟩, zw_r_c hs b2 (fun k hk => m1 _ (by omega)) (fun k hk => m1 _ (by omega)), ⟨by rw [m1 _ (by omega)]; exact l1, l2, fun j hj => zw_r_c (h1.1.1.2.2.2 j hj).1 (l3 j hj) (fun k hk => m1 _ (by omega)) (fun k hk => m1 _ (by omega))⟩, fun j hj => by have := nn j hj; rw [m1 _ (by omega)]; exact b4 j hj, fun j hj => ?_⟩
      rw [f]
      show _ = zo_u (zOw (zAV p)) i w j
      by_cases cj : j = i
      · rw [if_pos (by omega), cj, zo_u_s]
      · rw [if_neg (by omega), zo_u_o cj]; exact b5 j hj
    have n8 : zAn p ≤ 8 := h1.2.2.2.2.1
    have a8 : zAk p ≤ 8 := h1.2.2.2.2.2.1
    refine ⟨TX, ((zOn (zAV p), zOb (zAV p), zOp (zAV p), zOc (zAV p), zo_u (zOw (zAV p)) i w, zOS (zAV p), zOs (zAV p), zOH (zAV p)), p.2), q, ⟨iv, h1.2⟩, h2, ⟨v1, ⟨by rw [f2 16 (by decide) (by decide)]; exact h3.2.1.1, by rw [f2 16 (by decide) (by decide)]; exact h3.2.1.2⟩, zX1_f h1.2.1 h3.2.2.1 (fun y a b => f2 y (by omega) (by omega)), ⟨by rw [f2 35 (by decide) (by decide)]; exact h3.2.2.2.1.1, fun j hj => by rw [f2 36 (by decide) (by decide)]; exact h3.2.2.2.1.2 j hj⟩, fun j hj => by rw [f2 38 (by decide) (by decide)]; exact h3.2.2.2.2.1 j hj, by rw [f2 16 (by decide) (by decide)]; exact h3.2.2.2.2.2.1, fun j hj => by rw [f2 39 (by decide) (by decide), f2 40 (by decide) (by decide)]; exact h3.2.2.2.2.2.2 j hj⟩, ⟨v2, ⟨by rw [m1 _ (by omega)]; exact h4.2.1.1, by rw [m1 _ (by omega)]; exact h4.2.1.2⟩, zX2_e h4.2.2.1 (fun j _ => by rw [f2 3 (by decide) (by decide)]), ⟨by rw [m1 _ (by omega)]; exact h4.2.2.2.1.1, fun j hj => ?_⟩, fun j hj => by rw [m1 _ (by omega)]; exact h4.2.2.2.2.1 j hj, by rw [m1 _ (by omega)]; exact h4.2.2.2.2.2.1, fun j hj => ?_⟩, zGk_e h2 h5 (fun y a b => f2 y (by omega) (by omega)), zGl_e h2 h6 (f2 2 (by decide) (by decide)) (fun j _ => by rw [f2 3 (by decide) (by decide)]), h7, zN_e h8 (f2 749 (by decide) (by decide)), by rw [f2 0 (by decide) (by decide)]; exact h9, zTp_e h10 (by rw [f2 15 (by decide) (by decide)]) (f2 765 (by decide) (by decide)) (by rw [f2 0 (by decide) (by decide)]) (f2 4 (by decide) (by decide)), zFt_e h11 (fun j _ => by rw [f2 761 (by decide) (by decide)]) (by rw [f2 0 (by decide) (by decide)]) (by rw [f2 0 (by decide) (by decide)])⟩
    · have hj : j < zAn p := hj
      rw [m1 _ (by omega)]; exact h4.2.2.2.1.2 j hj
    · have hj : j < zAk p := hj
      rw [m1 _ (by omega), m1 _ (by omega)]; exact h4.2.2.2.2.2.2 j hj
/-- only the tape and its lengths -/
theorem zG_t {TX : zTX} {p q : zA} {M M2 : zm_M} (h : zG TX p q M) (e : ∀ y, y ≠ 0 → y ≠ 4 → y ≠ 15 → y ≠ 765 → M2.1 y = M.1 y) (e0 : ∀ j, j ≠ 4 → M2.1 0 j = M.1 0 j) (ht : zTp M2) : zGG M2 := by
  obtain ⟨h1, h2, h3, h4, h5, h6, h7, h8, h9, h10, h11⟩ := h
  exact ⟨TX, p, q, h1, h2, zGc_e h1 h3 (fun x j z => by have := z.1; have := z.2.1; rw [e x (by omega) (by omega) (by omega) (by omega)]), zGm_e h1 h4 (fun j _ => by rw [e 1 (by decide) (by decide) (by decide) (by decide)]) (fun j _ => by rw [e 3 (by decide) (by decide) (by decide) (by decide)]), zGk_e h2 h5 (fun x a b => e x (by omega) (by omega) (by omega) (by omega)), zGl_e h2 h6 (e 2 (by decide) (by decide) (by decide) (by decide)) (fun j _ => by rw [e 3 (by decide) (by decide) (by decide) (by decide)]), h7, zN_e h8 (e 749 (by decide) (by decide) (by decide) (by decide)), by rw [e0 23 (by decide)]; exact h9, ht, zFt_e h11 (fun j _ => by rw [e 761 (by decide) (by decide) (by decide) (by decide)]) (e0 5 (by decide)) (e0 6 (by decide))⟩
theorem zL_end (hE : zm_ok E.2.2.1 E.2.2.2.2) (n : Int32) : zL E mX11_end mX12_end [.int n] := by
  intro M ⟨TX, p, q, h⟩
  obtain ⟨tp, t, ⟨t1, t2, t3⟩, t4, ⟨t5, t6, t7, t8⟩⟩ := h.2.2.2.2.2.2.2.2.2.1
  refine c11_end hE 98 n (fun b => ⟨_, rfl, ?_⟩) (fun b => ⟨_, rfl, ?_⟩)
  · refine c_end hE 98 n (fun _ => ⟨rfl, TX, p, q, h⟩) (fun z => ?_)
    rw [t4] at b
    rw [t6] at z
    exact absurd b z
  · have k : (zm_wi M 15 9 n).1 0 4 = nI t := by rw [zm_wi_other (by decide)]; exact t6
    rw [t4] at b
    refine c_end hE 98 n (fun z => ?_) (fun _ => ⟨rfl, ?_⟩)
    · rw [k] at z
      exact absurd z b
    · obtain ⟨m, m1, m2⟩ := zi_in_of (by omega) b
      have e : ∀ y, y ≠ 0 → y ≠ 15 → (zm_wi (zm_wi M 15 9 n) 0 4 n).1 y = M.1 y := fun y a c => by funext j; rw [zm_wi_other a, zm_wi_other c]
      have e0 : ∀ j, (zm_wi (zm_wi M 15 9 n) 0 4 n).1 0 j = if j = 4 then n else M.1 0 j := fun j => by rw [zm_wi_same, zm_wi_other (by decide)]
      have e15 : (zm_wi (zm_wi M 15 9 n) 0 4 n).1 15 9 = n := by rw [zm_wi_other (by decide), zm_wi_same, if_pos rfl]
      generalize zm_wi (zm_wi M 15 9 n) 0 4 n = M2 at *
      exact zG_t h (fun y a _ c _ => e y a c) (fun j hj => by rw [e0, if_neg hj]) ⟨tp, m, ⟨by omega, fun i hi => by rw [e 765 (by decide) (by decide)]; exact t2 i (by omega), t3⟩, by rw [e15]; exact m2, ⟨by omega, by rw [e0, if_pos rfl]; exact m2, fun i hi => by rw [e 4 (by decide) (by decide)]; exact t7 i (by omega), t8⟩⟩
theorem zL_image (hE : zm_ok E.2.2.1 E.2.2.2.2) : zL E mX11_image mX12_image [] := by
  intro M ⟨TX, p, q, h⟩
  refine c11_image hE 97 (fun M1 y => ⟨_, rfl, ?_⟩)
  have k : ∀ x, (x < 377 ∨ 738 ≤ x) → M1.1 x = M.1 x := fun x hx => y.1 x (by omega)
  refine c_image hE 98 (fun M2 e2 f2 => ?_)
  have f : ∀ x, x ≠ 2 → M2.1 x = M1.1 x := fun x hx => (f2 x (by simpa using hx)).1
  have kf : ∀ x, x ≠ 2 → (x < 377 ∨ 738 ≤ x) → M2.1 x = M.1 x := fun x a b => (f x a).trans (k x b)
  obtain ⟨h1, h2, h3, h4, h5, h6, h7, h8, h9, h10, h11⟩ := h
  have a1 : M.1 23 0 = zWd (zOS (zAV p)) := h3.1.2.1.1
  have a2 : M.1 1 6 = zWd (zOS (zAV p)) := h4.1.2.1.1
  refine ⟨by rw [k 1 (by omega), a1, a2], TX, p, p, h1, h1, zGc_e h1 h3 (fun x j z => by have := z.1; have := z.2.1; rw [kf x (by omega) (by omega)]), zGm_e h1 h4 (fun j _ => by rw [kf 1 (by omega) (by omega)]) (fun j _ => by rw [kf 3 (by omega) (by omega)]), zGc_e h1 h3 (fun x j z => ?_), zGm_e h1 h4 (fun j hj => by rw [zsw_1, e2 j hj, k 1 (by omega)]) (fun j _ => by rw [zsw_o (by decide), kf 3 (by omega) (by omega)]), Nat.le_refl _, zN_e h8 (kf 749 (by omega) (by omega)), by rw [kf 0 (by omega) (by omega)]; exact h9, zTp_e h10 (by rw [kf 15 (by omega) (by omega)]) (kf 765 (by omega) (by omega)) (by rw [kf 0 (by omega) (by omega)]) (kf 4 (by omega) (by omega)), zFt_e h11 (fun j _ => by rw [kf 761 (by omega) (by omega)]) (by rw [kf 0 (by omega) (by omega)]) (by rw [kf 0 (by omega) (by omega)])⟩
  have z1 := z.1
  have z2 := z.2.1
  rw [zsh_in z1 z2, f (x + 361) (by omega)]
  have := y.2.2 (x - 16) j (by omega) z.2.2
  rw [show 377 + (x - 16) = x + 361 by omega, show 16 + (x - 16) = x by omega] at this
  exact this
theorem zL_back (hE : zm_ok E.2.2.1 E.2.2.2.2) : zL E mX11_back mX12_back [] := by
  intro M ⟨TX, p, q, h⟩
  refine c11_back hE 97 (fun M1 y => ⟨_, rfl, ?_⟩)
  have k : ∀ x, (x < 16 ∨ 377 ≤ x) → M1.1 x = M.1 x := fun x hx => y.1 x (by omega)
  refine c_back hE 98 (fun M2 e2 f2 => ?_)
  have f : ∀ x, x ≠ 1 → M2.1 x = M1.1 x := fun x hx => (f2 x (by simpa using hx)).1
  have kf : ∀ x, x ≠ 1 → (x < 16 ∨ 377 ≤ x) → M2.1 x = M.1 x := fun x a b => (f x a).trans (k x b)
  obtain ⟨h1, h2, h3, h4, h5, h6, h7, h8, h9, h10, h11⟩ := h
  have a1 : M.1 384 0 = zWd (zOS (zAV q)) := by
    have := h5.1.2.1.1
    rw [zsh_in (by decide) (by decide)] at this
    exact this
  have a2 : M.1 2 6 = zWd (zOS (zAV q)) := by
    have := h6.1.2.1.1
    rw [zsw_1] at this
    exact this
  refine ⟨by rw [k 2 (by omega), a1, a2], TX, q, q, h2, h2, zGc_e h2 h5 (fun x j z => ?_), zGm_e h2 h6 (fun j hj => by rw [zsw_1, e2 j hj, k 2 (by omega)]) (fun j _ => by rw [zsw_o (by decide), kf 3 (by omega) (by omega)]), zGk_e h2 h5 (fun x a b => kf x (by omega) (by omega)), zGl_e h2 h6 (kf 2 (by omega) (by omega)) (fun j _ => by rw [kf 3 (by omega) (by omega)]), Nat.le_refl _, zN_e h8 (kf 749 (by omega) (by omega)), by rw [kf 0 (by omega) (by omega)]; exact h9, zTp_e h10 (by rw [kf 15 (by omega) (by omega)]) (kf 765 (by omega) (by omega)) (by rw [kf 0 (by omega) (by omega)]) (kf 4 (by omega) (by omega)), zFt_e h11 (fun j _ => by rw [kf 761 (by omega) (by omega)]) (by rw [kf 0 (by omega) (by omega)]) (by rw [kf 0 (by omega) (by omega)])⟩
  have z1 := z.1
  have z2 := z.2.1
  rw [zsh_in z1 z2, f x (by omega)]
  have := y.2.2 (x - 16) j (by omega) z.2.2
  rw [show 377 + (x - 16) = x + 361 by omega, show 16 + (x - 16) = x by omega] at this
  exact this
end
