/-! ===== calls that only ask, fourth ===== -/
section
variable {E : zm_E}
theorem zL_ranked (hE : zm_ok E.2.2.1 E.2.2.2.2) (r b : Int32) : zL E mX11_ranked mX12_ranked [.int r, .int b] := by
  intro M ⟨TX, p, q, h⟩
  have hw := h.2.2.1.1.1.1.1
  have hm := h.2.2.2.1.1.1
  have n10 := hw.1
  have m10 : zWn (zOS (zAV p)) ≤ 10 := h.1.1.1.2.2.1.1.1
  have m8 : M.1 1 8 = nI (zWn (zOS (zAV p))) := h.2.2.2.1.1.2.1.2.2.1
  have ha : ∀ k, k < zWn (zOS (zAV p)) → ∃ j, j < zOn (zAV p) ∧ zp M 2 k = nI j := fun k hk => by
    obtain ⟨f, t, a, s, hh, g, a1, a2, a3, a4, a5, a6, b1, b2, b3, _⟩ := h.1.1.1.2.2.1.2.2.2.1 k hk
    exact ⟨a, b3, by rw [zw_m_ap h.2.2.2.1.1.2.1 (by decide) hk]; exact a3⟩
  refine c11_ranked hE 98 n10 m10 r b h.2.2.1.1.1.2.1 h.2.2.1.1.2.1.2.2.1 (fun z => ⟨_, rfl, ?_⟩) (fun z => ⟨_, rfl, ?_⟩)
  · exact c_ranked hE 98 m10 r b hm.1 hm.2.1 m8 ha (fun _ => ⟨rfl, TX, p, q, h⟩) (fun y => absurd z y)
  · refine c_ranked hE 98 m10 r b hm.1 hm.2.1 m8 ha (fun y => absurd y z) (fun _ => ⟨?_, TX, p, q, h⟩)
    have key := zr_ranked (m := zWn (zOS (zAV p))) n10 (rk := zt_rk (fun i => M.1 1 (90 + i))) (R := M.1 20) (at_ := zp M 2) (how := zp M 4) (size := zp M 3) (at' := M.1 26) (how' := M.1 28) (size' := M.1 27) (fun i hi => by rw [h.2.2.1.1.1.1.2 i hi, zt_rk_c hw (zG_18 h h) i hi]) (fun k hk => zG_ap h (f := 2) (by decide) hk) (fun k hk => zG_ap h (f := 4) (by decide) hk) (fun k hk => zG_ap h (f := 3) (by decide) hk) ha r b
    rw [key]
theorem zL_of (hE : zm_ok E.2.2.1 E.2.2.2.2) (o w : Int32) : zL E mX11_of mX12_of [.int o, .int w] := by
  intro M ⟨TX, p, q, h⟩
  have hA := h.1.1.1
  have n10 := hA.1.1
  refine c11_of hE 95 o w (tn := zAt p) (T := zT TX (zAy p)) h.2.2.1.1.1 h.2.2.1.1.2.2.2.1 h.2.2.2.2.2.2.2.1 h.1.2.1 h.2.2.1.2.1.1 (zG_T h.1 h.2.2.1) hA.2.1 hA.2.2.1 h.2.2.1.1.2.1 (fun b => ⟨_, rfl, ?_⟩) (fun i M1 hi e1 hN f1 => ⟨_, rfl, ?_⟩)
  · refine c_of hE 93 o w (T := zT TX (zAy p)) h.2.2.2.1.1.1 h.2.2.2.1.1.2.2.2.1 (zG_Tm h.1 h.2.2.2.1 0 (by decide)) (hA.2.1 0 (by decide)) hA.2.2.1 h.2.2.2.1.1.2.1 (fun _ => ⟨rfl, TX, p, q, h⟩) (fun i M2 hi e1 _ => ?_)
    subst e1
    rw [zo_isI (by omega) hi] at b; cases b
  · subst e1
    have g1 := zG_zf h f1 (fun x hx => by simp at hx; unfold zSc; omega) hN (fun z => absurd z (by decide))
    refine c_of hE 93 _ w (T := zT TX (zAy p)) g1.2.2.2.1.1.1 g1.2.2.2.1.1.2.2.2.1 (zG_Tm g1.1 g1.2.2.2.1 0 (by decide)) (hA.2.1 0 (by decide)) hA.2.2.1 g1.2.2.2.1.1.2.1 (fun b => ?_) (fun i' M2 hi' e1 f2 => ?_)
    · rw [zo_isI (by omega) hi] at b; cases b
    · have e1 := (nI_eq (by omega) (by omega)).mp e1
      subst e1
      exact ⟨rfl, TX, p, q, zG_zf g1 f2 (fun x hx => by simp at hx; unfold zSc; omega) (zN_e g1.2.2.2.2.2.2.2.1 (f2 749 (by decide)).1) (fun z => absurd z (by decide))⟩
theorem zL_route (hE : zm_ok E.2.2.1 E.2.2.2.2) (v w i : Int32) : zL E mX11_route mX12_route [.int v, .int w, .int i] := by
  intro M ⟨TX, p, q, h⟩
  have hA := h.1.1.1
  have n10 := hA.1.1
  obtain ⟨dd, d1, d2⟩ := hA.2.2.1.2.1
  have c0 : M.1 23 0 = nI dd := h.2.2.1.1.2.1.1.trans d2
  have m6 : M.1 1 6 = nI dd := h.2.2.2.1.1.2.1.1.trans d2
  have no : ∀ f t, f < zOn (zAV p) → t < zOn (zAV p) → zt_ab (zOb (zAV p)) t f = true → ¬ (zo_is (zOn (zAV p)) (nI f) = false ∨ zo_is (zOn (zAV p)) (nI t) = false ∨ ∃ f' t', f' < zOn (zAV p) ∧ t' < zOn (zAV p) ∧ nI f = nI f' ∧ nI t = nI t' ∧ zt_ab (zOb (zAV p)) t' f' = false) := fun f t hf ht ab z => by
    rcases z with z | z | ⟨f', t', a1, a2, a3, a4, a5⟩
    · rw [zo_isI (by omega) hf] at z; cases z
    · rw [zo_isI (by omega) ht] at z; cases z
    · have a3 := (nI_eq (by omega) (by omega)).mp a3
      have a4 := (nI_eq (by omega) (by omega)).mp a4
      subst a3 a4
      rw [ab] at a5; cases a5
  refine c11_route hE 84 v w i (tn := zAt p) (T := zT TX (zAy p)) h.2.2.1.1.1 h.2.2.1.1.2.2.2.1 h.2.2.2.2.2.2.2.1 h.1.2.1 h.2.2.1.2.1.1 (zG_T h.1 h.2.2.1) (hA.2.1 0 (by decide)) d1 c0 (fun b => ⟨_, rfl, ?_⟩) (fun f t M1 hf ht e1 e2 ab hN f1 => ⟨_, rfl, ?_⟩)
  · refine c_route hE 92 v w i ⟨h.2.2.2.1.1.1, h.2.2.2.1.1.2.2.2.1⟩ (zG_Tm h.1 h.2.2.2.1 0 (by decide)) (hA.2.1 0 (by decide)) d1 m6 (fun _ => ⟨rfl, TX, p, q, h⟩) (fun f t M2 hf ht e1 e2 ab _ _ => ?_)
    subst e1 e2
    exact absurd b (no f t hf ht ab)
  · subst e1 e2
    have g1 := zG_zf h f1 (fun x hx => by simp at hx; unfold zSc; omega) hN (fun z => absurd z (by decide))
    have m6' : M1.1 1 6 = nI dd := g1.2.2.2.1.1.2.1.1.trans d2
    refine c_route hE 92 _ _ i ⟨g1.2.2.2.1.1.1, g1.2.2.2.1.1.2.2.2.1⟩ (zG_Tm g1.1 g1.2.2.2.1 0 (by decide)) (hA.2.1 0 (by decide)) d1 m6' (fun b => absurd b (no f t hf ht ab)) (fun f' t' M2 hf' ht' e1 e2 _ f2 g2 => ?_)
    have e1 := (nI_eq (by omega) (by omega)).mp e1
    have e2 := (nI_eq (by omega) (by omega)).mp e2
    subst e1 e2
    exact ⟨rfl, TX, p, q, zG_zf g1 f2 (fun x hx => by simp at hx; unfold zSc; omega) (zN_e g1.2.2.2.2.2.2.2.1 (f2 749 (by decide)).1) (fun _ j hj => g2 j (by simp; omega))⟩
theorem zL_whose (hE : zm_ok E.2.2.1 E.2.2.2.2) : zL E mX11_whose mX12_whose [] := by
  intro M ⟨TX, p, q, h⟩
  have hA := h.1.1.1
  obtain ⟨dd, d1, d2⟩ := hA.2.2.1.2.1
  have c0 : M.1 23 0 = nI dd := h.2.2.1.1.2.1.1.trans d2
  have dn : ∀ t, t < zAt p → zDo 0 ((TX t).2.2.2.2.2 0) := fun t ht => h.1.2.2.2.1 t 0 ht (by decide)
  refine c11_whose hE 94 (TT := fun t w => (TX t).2.2.2.2.2 w) (ao := zAa p) (ab := zAb p) h.2.2.1.1.1 h.2.2.2.2.2.2.2.1 d1 c0 h.1.2.1 h.2.2.1.2.1.1 (fun t ht => (h.2.2.1.2.2.1 t ht).2 0 (by decide)) dn h.1.2.2.2.2.2.1 h.2.2.1.2.2.2.2.2.1 (fun i hi => ⟨(h.2.2.1.2.2.2.2.2.2 i hi).1, h.1.2.2.2.2.2.2 i hi, (h.2.2.1.2.2.2.2.2.2 i hi).2⟩) (fun M1 hN f1 => ⟨_, rfl, ?_⟩)
  have g1 := zG_zf h f1 (fun x hx => by simp at hx; unfold zSc; omega) hN (fun z => absurd z (by decide))
  have m6 : M1.1 1 6 = nI dd := g1.2.2.2.1.1.2.1.1.trans d2
  exact c_whose hE 93 (TT := fun t w => (TX t).2.2.2.2.2 w) (ao := zAa p) (ab := zAb p) g1.2.2.2.1.1.1 d1 m6 h.1.2.1 g1.2.2.2.1.2.1.1 (fun t ht => (g1.2.2.2.1.2.2.1 t ht).2 0 (by decide)) dn h.1.2.2.2.2.2.1 g1.2.2.2.1.2.2.2.2.2.1 (fun i hi => ⟨(g1.2.2.2.1.2.2.2.2.2.2 i hi).1, h.1.2.2.2.2.2.2 i hi, (g1.2.2.2.1.2.2.2.2.2.2 i hi).2⟩) (fun M2 f2 => ⟨rfl, TX, p, q, zG_zf g1 f2 (fun x hx => by simp at hx; unfold zSc; omega) (zN_e g1.2.2.2.2.2.2.2.1 (f2 749 (by decide)).1) (fun z => absurd z (by decide))⟩)
end
