/-! ===== calls that only ask ===== -/
theorem zo_isI {n i : Nat} (hn : n ≤ 100) (hi : i < n) : zo_is n (nI i) = true := by
  unfold zo_is
  refine decide_eq_true ?_
  rw [nI_toInt (by omega)]
  omega
theorem zG_18 {TX : zTX} {p q : zA} {M M1 : zm_M} (h : zG TX p q M) (h1 : zG TX p q M1) : zt_eq (zOn (zAV p)) (M.1 18) (fun i => M1.1 1 (90 + i)) := fun i hi => (h.2.2.1.1.1.2.2.1 i hi).trans (h1.2.2.2.1.1.1.2.2.1 i hi).symm
theorem zG_19 {TX : zTX} {p q : zA} {M M1 : zm_M} (h : zG TX p q M) (h1 : zG TX p q M1) : zt_eq (zOn (zAV p)) (M.1 19) (fun i => M1.1 1 (100 + i)) := fun i hi => (h.2.2.1.1.1.2.2.2.1 i hi).trans (h1.2.2.2.1.1.1.2.2.2.1 i hi).symm
section
variable {E : zm_E}
theorem zL_fault (hE : zm_ok E.2.2.1 E.2.2.2.2) (w : Int32) : zL E mX11_fault mX12_fault [.int w] := by
  intro M ⟨TX, p, q, h⟩
  refine zm_R_mono (c11_fault hE 99 w M) (fun r M1 h1 => ?_)
  obtain ⟨rfl, rfl⟩ := h1
  refine ⟨_, rfl, zm_R_mono (c_fault hE 99 w M1) (fun r M2 h2 => ?_)⟩
  obtain ⟨rfl, rfl⟩ := h2
  refine ⟨?_, TX, p, q, h⟩
  rcases h.2.2.2.2.2.2.2.2.2.2 with ⟨a, b, c⟩ | ⟨a, b, c⟩
  · rw [a, b, c, if_pos rfl]
    unfold zq_ft
    split
    · rfl
    · split <;> rfl
  · rw [a, b, c, if_neg (by decide)]
theorem zL_is (hE : zm_ok E.2.2.1 E.2.2.2.2) (w : Int32) : zL E mX11_is mX12_is [.int w] := by
  intro M ⟨TX, p, q, h⟩
  refine zm_R_mono (c11_is hE 99 w M) (fun r M1 h1 => ?_)
  obtain ⟨rfl, rfl⟩ := h1
  refine ⟨_, rfl, zm_R_mono (c_is hE 98 w M1) (fun r M2 h2 => ?_)⟩
  obtain ⟨rfl, rfl⟩ := h2
  refine ⟨?_, TX, p, q, h⟩
  have c := h.2.2.1.1.2.1
  have m := h.2.2.2.1.1.2.1
  unfold zq_is
  rw [c.1, c.2.1, c.2.2.1]
  show some (Value.int (if w = 0 then M2.1 1 (6 + 0) else if w = 1 then M2.1 1 (6 + 1) else if w = 2 then M2.1 1 (6 + 2) else -2)) = _
  have m0 : M2.1 1 (6 + 0) = zWd (zOS (zAV p)) := m.1
  have m1 : M2.1 1 (6 + 1) = zWx (zOS (zAV p)) := m.2.1
  have m2 : M2.1 1 (6 + 2) = nI (zWn (zOS (zAV p))) := m.2.2.1
  rw [m0, m1, m2]
theorem zL_about (hE : zm_ok E.2.2.1 E.2.2.2.2) (w : Int32) : zL E mX11_about mX12_about [.int w] := by
  intro M ⟨TX, p, q, h⟩
  refine zm_R_mono (c11_about hE 99 w M) (fun r M1 h1 => ?_)
  obtain ⟨rfl, rfl⟩ := h1
  refine ⟨_, rfl, zm_R_mono (c_about hE 98 w M1) (fun r M2 h2 => ?_)⟩
  obtain ⟨rfl, rfl⟩ := h2
  refine ⟨?_, TX, p, q, h⟩
  obtain ⟨_, _, c, m, _, _, _, _, _, ⟨tp, n, _, t1, t2⟩, _⟩ := h
  have e0 : zq_abc M2 0 = M2.1 1 0 := c.1.1.2.1.trans m.1.1.2.1.symm
  have e1 : zq_abc M2 1 = M2.1 1 1 := c.2.1.1.trans m.2.1.1.symm
  have e2 : zq_abc M2 2 = M2.1 1 2 := c.2.1.2.trans m.2.1.2.symm
  obtain ⟨cc, k⟩ := c.1.2.2.1
  have e3 : zq_abc M2 3 = M2.1 1 3 := k.2.2.1.trans m.1.2.2.1.1.symm
  have e4 : zq_abc M2 4 = M2.1 1 4 := c.2.2.2.1.1.trans m.2.2.2.1.1.symm
  have e5 : zq_abc M2 5 = M2.1 1 5 := c.2.2.2.2.2.1.trans m.2.2.2.2.2.1.symm
  have e6 : zq_abc M2 6 = M2.1 0 4 := t1.trans t2.2.1.symm
  unfold zq_ab
  rw [e0, e1, e2, e3, e4, e5, e6]
  rfl
theorem zL_meets (hE : zm_ok E.2.2.1 E.2.2.2.2) (x y : Int32) : zL E mX11_meets mX12_meets [.int x, .int y] := by
  intro M ⟨TX, p, q, h⟩
  have hw := h.2.2.1.1.1.1.1
  have hm := h.2.2.2.1.1.1
  have n10 := hw.1
  refine c11_meets hE 97 x y hw h.2.2.1.1.1.2.1 (fun b => ⟨_, rfl, ?_⟩) (fun i j hi hj e1 e2 => ⟨_, rfl, ?_⟩)
  · refine c_meets hE 96 x y hm.1 hm.2.1 (fun _ => ⟨rfl, TX, p, q, h⟩) (fun i j hi hj e1 e2 => ?_)
    subst e1 e2
    rw [zo_isI (by omega) hi, zo_isI (by omega) hj] at b
    rcases b with z | z <;> cases z
  · subst e1 e2
    refine c_meets hE 96 _ _ hm.1 hm.2.1 (fun b => ?_) (fun i' j' hi' hj' e1 e2 => ?_)
    · rw [zo_isI (by omega) hi, zo_isI (by omega) hj] at b
      rcases b with z | z <;> cases z
    · have e1 := (nI_eq (by omega) (by omega)).mp e1
      have e2 := (nI_eq (by omega) (by omega)).mp e2
      subst e1 e2
      exact ⟨by rw [zt_mt_c hw (zG_18 h h) hj i hi], TX, p, q, h⟩
theorem zL_steps (hE : zm_ok E.2.2.1 E.2.2.2.2) (x y : Int32) : zL E mX11_steps mX12_steps [.int x, .int y] := by
  intro M ⟨TX, p, q, h⟩
  have hw := h.2.2.1.1.1.1.1
  have hm := h.2.2.2.1.1.1
  have n10 := hw.1
  refine c11_steps hE 96 x y h.2.2.1.1.1.1 h.2.2.1.1.1.2.1 (fun b => ⟨_, rfl, ?_⟩) (fun i j hi hj e1 e2 => ⟨_, rfl, ?_⟩)
  · refine c_steps hE 95 x y hm.1 hm.2.1 (fun _ => ⟨rfl, TX, p, q, h⟩) (fun i j hi hj e1 e2 => ?_)
    subst e1 e2
    rw [zo_isI (by omega) hi, zo_isI (by omega) hj] at b
    rcases b with z | z <;> cases z
  · subst e1 e2
    refine c_steps hE 95 _ _ hm.1 hm.2.1 (fun b => ?_) (fun i' j' hi' hj' e1 e2 => ?_)
    · rw [zo_isI (by omega) hi, zo_isI (by omega) hj] at b
      rcases b with z | z <;> cases z
    · have e1 := (nI_eq (by omega) (by omega)).mp e1
      have e2 := (nI_eq (by omega) (by omega)).mp e2
      subst e1 e2
      exact ⟨by rw [zt_ds_c hw (zG_18 h h) hi hj], TX, p, q, h⟩
theorem zt_cn_c {n : Nat} {b c : Nat → Int32} (h : zt_wf n b) (e : zt_eq n b c) {i : Nat} (hi : i < n) : zt_cn b n i = zt_cn c n i := zc_n_c n (fun j hj => zt_ae_c h e hi hj)
theorem zL_orders (hE : zm_ok E.2.2.1 E.2.2.2.2) : zLj E mX11_orders mX12_orders [] := by
  intro M ⟨TX, p, q, h⟩
  refine zm_R_mono (c11_orders hE 96 h.2.2.1.1.1.1.1 h.2.2.1.1.1.2.1) (fun r M1 h1 => ?_)
  obtain ⟨rfl, f1⟩ := h1
  have g1 := zG_zf h f1 (fun x hx => by simp at hx; subst hx; unfold zSc; omega) (zN_e h.2.2.2.2.2.2.2.1 (f1 749 (by decide)).1) (fun z => absurd z (by decide))
  refine ⟨_, rfl, zm_R_mono (c_orders hE 97 g1.2.2.2.1.1.1.1 g1.2.2.2.1.1.1.2.1) (fun r M2 h2 => ?_)⟩
  obtain ⟨rfl, rfl⟩ := h2
  exact ⟨by rw [zo_q_c (zOn (zAV p)) (fun i hi => zt_cn_c h.2.2.1.1.1.1.1 (zG_18 h g1) hi)], TX, p, q, g1⟩
theorem zL_first (hE : zm_ok E.2.2.1 E.2.2.2.2) (o : Int32) : zL E mX11_first mX12_first [.int o] := by
  intro M ⟨TX, p, q, h⟩
  have hw := h.2.2.1.1.1.1.1
  have hm := h.2.2.2.1.1.1
  have n10 := hw.1
  refine c11_first hE 97 o hw h.2.2.1.1.1.2.1 (fun b => ⟨_, rfl, ?_⟩) (fun i hi e1 => ⟨_, rfl, ?_⟩)
  · refine c_first hE 97 o hm.1 hm.2.1 (fun _ => ⟨rfl, TX, p, q, h⟩) (fun i hi e1 => ?_)
    subst e1
    rw [zo_isI (by omega) hi] at b
    cases b
  · subst e1
    refine c_first hE 97 _ hm.1 hm.2.1 (fun b => ?_) (fun i' hi' e1 => ?_)
    · rw [zo_isI (by omega) hi] at b
      cases b
    · have e1 := (nI_eq (by omega) (by omega)).mp e1
      subst e1
      exact ⟨by rw [zp_H_c (zG_18 h h) (zG_19 h h), zp_nx_c (zG_18 h h) (zG_19 h h) _ (Nat.le_refl _)], TX, p, q, h⟩
theorem zL_middle (hE : zm_ok E.2.2.1 E.2.2.2.2) : zL E mX11_middle mX12_middle [] := by
  intro M ⟨TX, p, q, h⟩
  refine zm_R_mono (c11_middle hE 95 h.2.2.1.1.1.1 h.2.2.1.1.1.2.1) (fun r M1 h1 => ?_)
  obtain ⟨rfl, rfl⟩ := h1
  refine ⟨_, rfl, zm_R_mono (c_middle hE 95 h.2.2.2.1.1.1.1 h.2.2.2.1.1.1.2.1) (fun r M2 h2 => ?_)⟩
  obtain ⟨rfl, rfl⟩ := h2
  exact ⟨by rw [zl_mn_c (zOn (zAV p)) (fun i hi => zt_sum_c h.2.2.1.1.1.1.1 (zG_18 h h) hi)], TX, p, q, h⟩
theorem zL_longest (hE : zm_ok E.2.2.1 E.2.2.2.2) (l : Int32) : zL E mX11_longest mX12_longest [.int l] := by
  intro M ⟨TX, p, q, h⟩
  refine zm_R_mono (c11_longest hE 94 l h.2.2.1.1.1.1 h.2.2.1.1.1.2.1) (fun r M1 h1 => ?_)
  obtain ⟨rfl, rfl⟩ := h1
  refine ⟨_, rfl, zm_R_mono (c_longest hE 95 l h.2.2.2.1.1.1.1 h.2.2.2.1.1.1.2.1) (fun r M2 h2 => ?_)⟩
  obtain ⟨rfl, rfl⟩ := h2
  exact ⟨by rw [zl_fe_c (zOn (zAV p)) (fun i hi => zt_far_c h.2.2.1.1.1.1.1 (zG_18 h h) hi)], TX, p, q, h⟩
end
