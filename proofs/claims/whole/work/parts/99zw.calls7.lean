/-! ===== the other calls that change something ===== -/
/-- one cell of the class's Service, one place of the reference's row -/
theorem zG_w {TX : zTX} {p p' q : zA} {M M2 : zm_M} {x : Nat} (h : zG TX p q M) (hx : 16 ≤ x) (hx2 : x < 377) (e : ∀ y, y ≠ 1 → y ≠ x → y ≠ 16 → M2.1 y = M.1 y) (hi : zGi TX p') (hc : zGc TX p' M2) (hm : zGm TX p' M2) (ht : zAt q ≤ zAt p') : zGG M2 := by
  obtain ⟨h1, h2, h3, h4, h5, h6, h7, h8, h9, h10, h11⟩ := h
  exact ⟨TX, p', q, hi, h2, hc, hm, zGk_e h2 h5 (fun y a b => e y (by omega) (by omega) (by omega)), zGl_e h2 h6 (e 2 (by omega) (by omega) (by omega)) (fun j _ => by rw [e 3 (by omega) (by omega) (by omega)]), ht, zN_e h8 (e 749 (by omega) (by omega) (by omega)), by rw [e 0 (by omega) (by omega) (by omega)]; exact h9, zTp_e h10 (by rw [e 15 (by omega) (by omega) (by omega)]) (e 765 (by omega) (by omega) (by omega)) (by rw [e 0 (by omega) (by omega) (by omega)]) (e 4 (by omega) (by omega) (by omega)), zFt_e h11 (fun j _ => by rw [e 761 (by omega) (by omega) (by omega)]) (by rw [e 0 (by omega) (by omega) (by omega)]) (by rw [e 0 (by omega) (by omega) (by omega)])⟩
section
variable {E : zm_E}
theorem zL_by (hE : zm_ok E.2.2.1 E.2.2.2.2) (t : Int32) : zL E mX11_by mX12_by [.int t] := by
  intro M ⟨TX, p, q, h⟩
  have t4 := h.1.2.1
  have c6 := h.2.2.1.2.1.1
  have m1 := h.2.2.2.1.2.1.1
  refine c11_by hE 98 t (fun b => ⟨_, rfl, ?_⟩) (fun b => ⟨_, rfl, ?_⟩)
  · refine c_by hE 98 t (fun _ => ⟨rfl, TX, p, q, h⟩) (fun z => ?_)
    rw [c6] at b
    rw [m1] at z
    exact absurd b z
  · have k1 : (zm_wi M 16 7 t).1 1 1 = M.1 1 1 := by rw [zm_wi_other (by decide)]
    refine c_by hE 98 t (fun z => ?_) (fun _ => ⟨rfl, ?_⟩)
    · rw [k1, m1] at z
      rw [c6] at b
      exact absurd z b
    · rw [c6] at b
      have yy : t = -1 ∨ ∃ k, k < zAt p ∧ t = nI k := by
        unfold zi_in at b
        by_cases y1 : t < -1
        · rw [if_pos y1] at b; exact absurd rfl b
        rw [if_neg y1] at b
        by_cases y2 : nI (zAt p) - 1 < t
        · rw [if_pos y2] at b; exact absurd rfl b
        have i1 : ¬ t.toInt < -1 := by
          intro z; exact y1 (by rw [zx_i32lt]; exact z)
        have i2 : ¬ (nI (zAt p) - 1).toInt < t.toInt := by
          intro z; exact y2 (by rw [zx_i32lt]; exact z)
        have i3 : (nI (zAt p) - 1).toInt = (zAt p : Int) - 1 := by
          have := zx_subI (a := nI (zAt p)) (b := 1) (x := zAt p) (y := 1) (nI_toInt (by omega)) rfl (by omega) (by omega)
          exact this
        rw [i3] at i2
        by_cases y3 : t.toInt = -1
        · left
          exact Int32.toInt_inj.mp y3
        · right
          refine ⟨t.toInt.toNat, by omega, ?_⟩
          exact Int32.toInt_inj.mp (by rw [nI_toInt (by omega)]; omega)
      have e : ∀ y, y ≠ 1 → y ≠ 16 → (zm_wi (zm_wi M 16 7 t) 1 2 t).1 y = M.1 y := fun y a b => by
        funext j
        rw [zm_wi_other a, zm_wi_other b]
      have e16 : ∀ j, (zm_wi (zm_wi M 16 7 t) 1 2 t).1 16 j = if j = 7 then t else M.1 16 j := fun j => by rw [zm_wi_other (by decide), zm_wi_same]
      have e1 : ∀ j, (zm_wi (zm_wi M 16 7 t) 1 2 t).1 1 j = if j = 2 then t else M.1 1 j := fun j => by rw [zm_wi_same, zm_wi_other (by decide)]
      generalize zm_wi (zm_wi M 16 7 t) 1 2 t = M2 at *
      have hh := h
      obtain ⟨h1, h2, h3, h4, _⟩ := h
      have tt : ∀ w, w ≤ 2 → zDo w (zT TX t w) := fun w hw => by
        unfold zT
        rcases yy with y | ⟨k, k1, y⟩
        · rw [if_pos y]; exact fun f z => by cases z
        · rw [y, if_neg (zt_ne (by omega)), nI_clamp (by omega)]
          exact h1.2.2.2.1 k w k1 hw
      have gi : zGi TX (zAV p, t, p.2.2) := ⟨⟨⟨h1.1.1.1, tt, h1.1.1.2.2⟩, h1.1.2⟩, h1.2.1, yy, h1.2.2.2⟩
      have v1 : zV1 (zAV p) M2 := by
        obtain ⟨a1, a2, ⟨c, k1, k2, k3, k4, k5⟩, a4, a5⟩ := h3.1
        have hs := h1.1.1.2.2.1.1
        exact ⟨zc_s9_e a1 (by rw [e 17 (by omega) (by omega)]) (fun x j u v _ => by rw [e x (by omega) (by omega)]), zw_c_e hs a2 (fun x j z => by unfold zW_in at z; rw [e x (by omega) (by omega)]), ⟨c, by rw [e16]; exact k1, k2, by rw [e16]; exact k3, k4, fun i hi => zw_c_e (h1.1.1.2.2.2 i hi).1 (k5 i hi) (fun x j z => by unfold zW_in at z; rw [e x (by omega) (by omega)])⟩, fun i hi => by rw [e 21 (by omega) (by omega)]; exact a4 i hi, fun i hi => by rw [e 22 (by omega) (by omega)]; exact a5 i hi⟩
      refine zG_w (x := 16) hh (by omega) (by omega) (fun y a b _ => e y a b) gi ⟨v1, ⟨by rw [e16]; exact h3.2.1.1, by rw [e16]; rfl⟩, fun k hk => ⟨zl_cl_c (h3.2.2.1 k hk).1 (fun j hj => e _ (by omega) (by omega)), fun w hw => zl_law_c ((h3.2.2.1 k hk).2 w hw) (fun j _ _ => e _ (by omega) (by omega))⟩, ⟨by rw [e 35 (by omega) (by omega)]; exact h3.2.2.2.1.1, fun i hi => by rw [e 36 (by omega) (by omega)]; exact h3.2.2.2.1.2 i hi⟩, fun i hi => by rw [e 38 (by omega) (by omega)]; exact h3.2.2.2.2.1 i hi, by rw [e16]; exact h3.2.2.2.2.2.1, fun i hi => by rw [e 39 (by omega) (by omega), e 40 (by omega) (by omega)]; exact h3.2.2.2.2.2.2 i hi⟩ ?_ hh.2.2.2.2.2.2.1
      have f1 : ∀ j, j ≠ 2 → M2.1 1 j = M.1 1 j := fun j hj => by rw [e1, if_neg hj]
      obtain ⟨a1, a2, ⟨k1, k2, k3⟩, a4, a5⟩ := h4.1
      have n10 := a1.1.1
      refine ⟨⟨⟨zt_wf_c a1.1 (fun i hi => (f1 _ (by omega)).symm), by rw [f1 _ (by omega)]; exact a1.2.1, fun i hi => by rw [f1 _ (by omega)]; exact a1.2.2.1 i hi, fun i hi => by rw [f1 _ (by omega)]; exact a1.2.2.2.1 i hi, a1.2.2.2.2⟩, zw_r_c h1.1.1.2.2.1.1 a2 (fun k hk => f1 _ (by omega)) (fun k hk => f1 _ (by omega)), ⟨by rw [f1 _ (by omega)]; exact k1, k2, fun i hi => zw_r_c (h1.1.1.2.2.2 i hi).1 (k3 i hi) (fun k hk => f1 _ (by omega)) (fun k hk => f1 _ (by omega))⟩, fun i hi => by rw [f1 _ (by omega)]; exact a4 i hi, fun i hi => by rw [f1 _ (by omega)]; exact a5 i hi⟩, ⟨by rw [f1 _ (by omega)]; exact h4.2.1.1, by rw [e1]; rfl⟩, zX2_e h4.2.2.1 (fun j _ => by rw [e 3 (by omega) (by omega)]), ⟨by rw [f1 _ (by omega)]; exact h4.2.2.2.1.1, fun i hi => by rw [f1 _ (by omega)]; exact h4.2.2.2.1.2 i hi⟩, fun i hi => by rw [f1 _ (by omega)]; exact h4.2.2.2.2.1 i hi, by rw [f1 _ (by omega)]; exact h4.2.2.2.2.2.1, fun i hi => by rw [f1 _ (by omega), f1 _ (by omega)]; exact h4.2.2.2.2.2.2 i hi⟩
end
