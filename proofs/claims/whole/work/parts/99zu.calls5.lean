/-! ===== calls that change the office ===== -/
/-- the office has changed, in the class and then in the reference -/
theorem zG_m1 {TX : zTX} {p q : zA} {M M1 : zm_M} (h : zG TX p q M) (f : zCp M M1) : zOM (zAt p) (zT TX (zAy p)) (zAV p) M1 := by
  have e : ∀ x, x < 15 → M1.1 x = M.1 x := fun x hx => (f.1 x (by unfold zP_q zP_d zP_c; omega)).1
  exact zG_OM h.1 (zGm_e h.1 h.2.2.2.1 (fun j _ => by rw [e 1 (by omega)]) (fun j _ => by rw [e 3 (by omega)])) (by rw [e 0 (by omega)]; exact h.2.2.2.2.2.2.2.2.1)
theorem zG_off {TX : zTX} {p q : zA} {V : zO} {M M1 M2 : zm_M} (h : zG TX p q M) (hi : zOi (zT TX (zAy p)) V) (hn : zOn (zAV p) ≤ zOn V) (hC : zOC (zAt p) (zT TX (zAy p)) V M1) (fC : zCp M M1) (hM : zOM (zAt p) (zT TX (zAy p)) V M2) (fM : zMp M1 M2) : zGG M2 := by
  refine ⟨TX, (V, p.2), q, ?_⟩
  obtain ⟨h1, h2, h3, h4, h5, h6, h7, h8, h9, h10, h11⟩ := h
  have e1 : ∀ x, ¬ zP_q x → M1.1 x = M.1 x := fun x hx => (fC.1 x hx).1
  have e2 : ∀ x, x ∉ [0, 1, 6, 7, 8] → M2.1 x = M1.1 x := fun x hx => (fM.1 x hx).1
  have e : ∀ x, ¬ zP_q x → x ∉ [0, 1, 6, 7, 8] → M2.1 x = M.1 x := fun x a b => (e2 x b).trans (e1 x a)
  unfold zP_q zP_d zP_c at e e1
  have g16 : ∀ j, j ≠ 3 → j ≠ 4 → M2.1 16 j = M.1 16 j := fun j a b => by rw [e2 16 (by decide)]; exact fC.2 j (by simp; omega)
  have k0 : M1.1 0 = M.1 0 := e1 0 (by omega)
  have k1 : M1.1 1 = M.1 1 := e1 1 (by omega)
  have m1 : ∀ j, ¬ zP_mq j → M2.1 1 j = M.1 1 j := fun j hj => by rw [fM.2.1 j hj, k1]
  unfold zP_mq zP_m at m1
  have m0 : ∀ j, j ≠ 24 → j ≠ 25 → M2.1 0 j = M.1 0 j := fun j a b => by rw [fM.2.2 j a b, k0]
  have gi : zGi TX (V, p.2) := ⟨hi, h1.2.1, h1.2.2.1, h1.2.2.2.1, h1.2.2.2.2.1, h1.2.2.2.2.2.1, fun i hi => Nat.lt_of_lt_of_le (h1.2.2.2.2.2.2 i hi) hn⟩
  obtain ⟨⟨c1, c2, c3, c4, c5, c6⟩, c7, c8⟩ := hC
  obtain ⟨⟨d1, d2, d3, d4, d5, d6⟩, d7, d8⟩ := hM
  have v1 : zV1 V M1 := ⟨c1, c5, c6, c7, c8⟩
  have v1' : zV1 V M2 := zV1_e hi.1.2.2.1.1 (fun i hi' => (hi.1.2.2.2 i hi').1) v1 (fun x j z => by have := z.1; rw [e2 x (by simp; omega)])
  refine ⟨gi, h2, ⟨v1', ⟨by rw [g16 6 (by decide) (by decide)]; exact h3.2.1.1, by rw [g16 7 (by decide) (by decide)]; exact h3.2.1.2⟩, fun t lt => ?_, ⟨by rw [e 35 (by omega) (by decide)]; exact h3.2.2.2.1.1, fun i hi => by rw [e 36 (by omega) (by decide)]; exact h3.2.2.2.1.2 i hi⟩, fun i hi => by rw [e 38 (by omega) (by decide)]; exact h3.2.2.2.2.1 i hi, by rw [g16 10 (by decide) (by decide)]; exact h3.2.2.2.2.2.1, fun i hi => by rw [e 39 (by omega) (by decide), e 40 (by omega) (by decide)]; exact h3.2.2.2.2.2.2 i hi⟩, ⟨⟨d1, d4, d5, d7, d8⟩, ⟨by rw [m1 1 (by omega)]; exact h4.2.1.1, by rw [m1 2 (by omega)]; exact h4.2.1.2⟩, zX2_e h4.2.2.1 (fun j _ => by rw [e 3 (by omega) (by decide)]), ⟨by rw [m1 4 (by omega)]; exact h4.2.2.2.1.1, fun i hi => ?_⟩, fun i hi => by rw [m1 _ (by omega)]; exact h4.2.2.2.2.1 i hi, by rw [m1 5 (by omega)]; exact h4.2.2.2.2.2.1, fun i hi => ?_⟩, zGk_e h2 h5 (fun x a b => ?_), zGl_e h2 h6 (e 2 (by omega) (by decide)) (fun j _ => by rw [e 3 (by omega) (by decide)]), h7, zN_e c2 (e2 749 (by decide)), d6, zTp_e h10 (by rw [e 15 (by omega) (by decide)]) (e 765 (by omega) (by decide)) (m0 4 (by decide) (by decide)) (e 4 (by omega) (by decide)), zFt_e h11 (fun j _ => by rw [e 761 (by omega) (by decide)]) (m0 5 (by decide) (by decide)) (m0 6 (by decide) (by decide))⟩
  · have t4 := h1.2.1
    have tl : t < zAt p := lt
    have el : ∀ j, j ≤ 8 → M2.1 (41 + 9 * t + j) = M.1 (41 + 9 * t + j) := fun j hj => e _ (by omega) (by simp; omega)
    refine ⟨zl_cl_c (h3.2.2.1 t lt).1 (fun j hj => el j (by omega)), fun w hw => zl_law_c ((h3.2.2.1 t lt).2 w hw) (fun j a b => el j b)⟩
  · have := h1.2.2.2.2.1
    have hi : i < zAn p := hi
    rw [m1 _ (by omega)]; exact h4.2.2.2.1.2 i hi
  · have := h1.2.2.2.2.2.1
    have hi : i < zAk p := hi
    rw [m1 _ (by omega), m1 _ (by omega)]; exact h4.2.2.2.2.2.2 i hi
  · exact e x (by omega) (by simp; omega)
section
variable {E : zm_E}
theorem zL_officer (hE : zm_ok E.2.2.1 E.2.2.2.2) (x y : Int32) : zL E mX11_officer mX12_officer [.int x, .int y] := by
  intro M ⟨TX, p, q, h⟩
  refine zO11_officer hE 97 x y h.1.1 (zG_OC h.1 h.2.2.1 h.2.2.2.2.2.2.2.1) (fun M1 hC fC => ⟨_, rfl, ?_⟩)
  refine zO_officer hE 97 x y h.1.1 (zG_m1 h fC) (fun M2 hM fM => ⟨rfl, zG_off h (zy_off_i h.1.1 x y) ?_ hC fC hM fM⟩)
  unfold zy_off
  split
  · exact Nat.le_refl _
  · exact Nat.le_succ _
theorem zL_cousin (hE : zm_ok E.2.2.1 E.2.2.2.2) (x y : Int32) : zL E mX11_cousin mX12_cousin [.int x, .int y] := by
  intro M ⟨TX, p, q, h⟩
  refine zO11_cousin hE 98 x y h.1.1 (zG_OC h.1 h.2.2.1 h.2.2.2.2.2.2.2.1) (fun M1 hC fC => ⟨_, rfl, ?_⟩)
  refine zO_cousin hE 97 x y h.1.1 (zG_m1 h fC) (fun M2 hM fM => ⟨rfl, zG_off h (zy_cou_i h.1.1 x y) ?_ hC fC hM fM⟩)
  unfold zy_cou
  split <;> exact Nat.le_refl _
theorem zL_wrong (hE : zm_ok E.2.2.1 E.2.2.2.2) (x y z : Int32) : zL E mX11_wrong mX12_wrong [.int x, .int y, .int z] := by
  intro M ⟨TX, p, q, h⟩
  refine zO11_wrong hE 96 x y z h.1.1 (zG_OC h.1 h.2.2.1 h.2.2.2.2.2.2.2.1) (fun M1 hC fC => ⟨_, rfl, ?_⟩)
  refine zO_wrong hE 96 x y z h.1.1 (zG_m1 h fC) (fun M2 hM fM => ⟨rfl, zG_off h (zy_wro_i h.1.1 x y z) ?_ hC fC hM fM⟩)
  unfold zy_wro
  split <;> exact Nat.le_refl _
theorem zL_away (hE : zm_ok E.2.2.1 E.2.2.2.2) (x y : Int32) : zL E mX11_away mX12_away [.int x, .int y] := by
  intro M ⟨TX, p, q, h⟩
  refine zO11_away hE 97 x y h.1.1 (zG_OC h.1 h.2.2.1 h.2.2.2.2.2.2.2.1) (fun M1 hC fC => ⟨_, rfl, ?_⟩)
  refine zO_away hE 97 x y h.1.1 (zG_m1 h fC) (fun M2 hM fM => ⟨rfl, zG_off h (zy_awa_i h.1.1 x y) ?_ hC fC hM fM⟩)
  unfold zy_awa
  split <;> exact Nat.le_refl _
theorem zL_sideways (hE : zm_ok E.2.2.1 E.2.2.2.2) (x y : Int32) : zL E mX11_sideways mX12_sideways [.int x, .int y] := by
  intro M ⟨TX, p, q, h⟩
  refine zO11_sideways hE 97 x y h.1.1 (zG_OC h.1 h.2.2.1 h.2.2.2.2.2.2.2.1) (fun M1 hC fC => ⟨_, rfl, ?_⟩)
  refine zO_sideways hE 96 x y h.1.1 (zG_m1 h fC) (fun M2 hM fM => ⟨rfl, zG_off h (zy_sid_i h.1.1 x y) ?_ hC fC hM fM⟩)
  unfold zy_sid
  split <;> exact Nat.le_refl _
end
