/-! ===== days, years, a script, undo ===== -/
theorem zy_off_m {V : zO} {x y : Int32} : zOn V ≤ zOn (zy_off V x y).1 := by
  unfold zy_off
  split
  · exact Nat.le_refl _
  · exact Nat.le_succ _
theorem zy_do_m {T : Nat → Option zD} {V : zO} {kd a1 a2 a3 : Int32} : zOn V ≤ zOn (zy_do T kd a1 a2 a3 V).1 := by
  unfold zy_do
  by_cases c3 : kd = 3
  · rw [if_pos c3]; exact zy_off_m
  rw [if_neg c3]
  by_cases c4 : kd = 4
  · rw [if_pos c4]; show zOn V ≤ zOn (zy_cou V a1 a2).1; unfold zy_cou; split <;> exact Nat.le_refl _
  rw [if_neg c4]
  by_cases c5 : kd = 5
  · rw [if_pos c5]; show zOn V ≤ zOn (zy_wro V a1 a2 a3).1; unfold zy_wro; split <;> exact Nat.le_refl _
  rw [if_neg c5]
  by_cases c6 : kd = 6
  · rw [if_pos c6]; show zOn V ≤ zOn (zy_awa V a1 a2).1; unfold zy_awa; split <;> exact Nat.le_refl _
  rw [if_neg c6]
  by_cases c7 : kd = 7
  · rw [if_pos c7]; show zOn V ≤ zOn (zy_sid V a1 a2).1; unfold zy_sid; split <;> exact Nat.le_refl _
  rw [if_neg c7]
  (repeat' split) <;> exact Nat.le_refl _
theorem zy_pl_m {T : Nat → Option zD} {kd a1 a2 a3 : Nat → Int32} : ∀ (f k : Nat) (V : zO), zOn V ≤ zOn (zy_pl T kd a1 a2 a3 f k V).1 := by
  intro f
  induction f with
  | zero => intro k V; exact Nat.le_refl _
  | succ f ih =>
    intro k V
    simp only [zy_pl]
    split
    · exact Nat.le_trans zy_do_m (ih _ _)
    · exact zy_do_m
section
variable {E : zm_E}
theorem zL_played (hE : zm_ok E.2.2.1 E.2.2.2.2) (x : Int32) : zL E mX11_played mX12_played [.int x] := by
  intro M ⟨TX, p, q, h⟩
  have t4 := h.1.2.1
  refine c11_played hE 92 x (nc := fun t => (TX t).1) (kd := fun t => (TX t).2.1) (a1 := fun t => (TX t).2.2.1) (a2 := fun t => (TX t).2.2.2.1) (a3 := fun t => (TX t).2.2.2.2.1) t4 h.1.1 (zG_OC h.1 h.2.2.1 h.2.2.2.2.2.2.2.1) (fun t lt => (h.2.2.1.2.2.1 t lt).1) (fun b => ⟨_, rfl, ?_⟩) (fun t M1 lt e1 hC fC => ⟨_, rfl, ?_⟩)
  · refine c_played hE 90 x (nc := fun t => (TX t).1) (kd := fun t => (TX t).2.1) (a1 := fun t => (TX t).2.2.1) (a2 := fun t => (TX t).2.2.2.1) (a3 := fun t => (TX t).2.2.2.2.1) t4 h.1.1 (zG_OM h.1 h.2.2.2.1 h.2.2.2.2.2.2.2.2.1) (fun t lt => (h.2.2.2.1.2.2.1 t lt).1) (fun _ => ⟨rfl, TX, p, q, h⟩) (fun t M2 lt e1 _ _ => ?_)
    subst e1
    rw [zo_isI (by omega) lt] at b; cases b
  · subst e1
    have e3 : M1.1 3 = M.1 3 := (fC.1 3 (by unfold zP_q zP_d zP_c; omega)).1
    refine c_played hE 90 _ (nc := fun t => (TX t).1) (kd := fun t => (TX t).2.1) (a1 := fun t => (TX t).2.2.1) (a2 := fun t => (TX t).2.2.2.1) (a3 := fun t => (TX t).2.2.2.2.1) t4 h.1.1 (zG_m1 h fC) (fun t lt => (zX2_e h.2.2.2.1.2.2.1 (fun j _ => by rw [e3]) t lt).1) (fun b => ?_) (fun t' M2 lt' e1 hM fM => ?_)
    · rw [zo_isI (by omega) lt] at b; cases b
    · have e1 := (nI_eq (by omega) (by omega)).mp e1
      subst e1
      exact ⟨rfl, zG_off h (zy_pl_i _ _ _ h.1.1) (zy_pl_m _ _ _) hC fC hM fM⟩
theorem zL_day (hE : zm_ok E.2.2.1 E.2.2.2.2) (v : Int32) : zL E mX11_day mX12_day [.int v] := by
  intro M ⟨TX, p, q, h⟩
  have hA := h.1.1.1
  obtain ⟨dd, d1, d2⟩ := hA.2.2.1.2.1
  have hC := zG_OC h.1 h.2.2.1 h.2.2.2.2.2.2.2.1
  have no : ∀ f, 1 ≤ f → f ≤ 60 → dd + f ≤ 9999 → ¬ (zi_in (nI f) 1 60 = 0 ∨ ∃ f', f' ≤ 60 ∧ nI f = nI f' ∧ 9999 < dd + f') := fun f f1 f2 f3 z => by
    rcases z with z | ⟨f', a1, a2, a3⟩
    · exact (Eq.mp (zd_in (v := f) (l := 1) (h := 60) (by omega) (by omega) (by omega)) z) ⟨f1, f2⟩
    · have a2 := (nI_eq (by omega) (by omega)).mp a2
      omega
  refine c11_day hE 93 v h.1.2.1 hA d1 d2 hC.1 (fun b => ⟨_, rfl, ?_⟩) (fun f M1 f1 f2 e1 f3 hC1 fC => ⟨_, rfl, ?_⟩)
  · refine c_day hE 91 v hA d1 d2 (zG_OM h.1 h.2.2.2.1 h.2.2.2.2.2.2.2.2.1).1 (fun _ => ⟨rfl, TX, p, q, h⟩) (fun f M2 f1 f2 e1 f3 _ _ => ?_)
    subst e1
    exact absurd b (no f f1 f2 f3)
  · subst e1
    have hC2 : zOC (zAt p) (zT TX (zAy p)) (zO_dy (zT TX (zAy p)) (zAV p) f) M1 := ⟨hC1, fun i hi => by rw [(fC.1 21 (by unfold zP_d zP_c; omega)).1]; exact hC.2.1 i hi, fun i hi => by rw [(fC.1 22 (by unfold zP_d zP_c; omega)).1]; exact hC.2.2 i hi⟩
    have hm := zG_m1 h (zCp_g fC)
    refine c_day hE 91 _ hA d1 d2 hm.1 (fun b => absurd b (no f f1 f2 f3)) (fun f' M2 f1' f2' e1 f3' hM1 fM => ?_)
    have e1 := (nI_eq (by omega) (by omega)).mp e1
    subst e1
    have n10 := hA.1.1
    have hM2 : zOM (zAt p) (zT TX (zAy p)) (zO_dy (zT TX (zAy p)) (zAV p) f) M2 := ⟨hM1, fun i hi => by
      have hi : i < zOn (zAV p) := hi
      rw [fM.2.1 _ (by unfold zP_m; omega)]; exact hm.2.1 i hi, fun i hi => by rw [fM.2.1 _ (by unfold zP_m; omega)]; exact hm.2.2 i hi⟩
    exact ⟨rfl, zG_off h (zOi_dy h.1.1) (Nat.le_refl _) hC2 (zCp_g fC) hM2 (zMp_g fM)⟩
theorem zL_years (hE : zm_ok E.2.2.1 E.2.2.2.2) (v m : Int32) : zL E mX11_years mX12_years [.int v, .int m] := by
  intro M ⟨TX, p, q, h⟩
  have hA := h.1.1.1
  have hC := zG_OC h.1 h.2.2.1 h.2.2.2.2.2.2.2.1
  have no : ∀ x f, x ≤ 9999 → 1 ≤ f → f ≤ 40 → ¬ (zi_in (nI x) 0 9999 = 0 ∨ zi_in (nI f) 1 40 = 0) := fun x f x1 f1 f2 z => by
    rcases z with z | z
    · exact (Eq.mp (zd_in (v := x) (l := 0) (h := 9999) (by omega) (by omega) (by omega)) z) ⟨Nat.zero_le _, x1⟩
    · exact (Eq.mp (zd_in (v := f) (l := 1) (h := 40) (by omega) (by omega) (by omega)) z) ⟨f1, f2⟩
  refine c11_years hE 93 v m h.1.2.1 hA hC.1 (fun b => ⟨_, rfl, ?_⟩) (fun x f M1 x1 f1 f2 e1 e2 hC1 fC => ⟨_, rfl, ?_⟩)
  · refine c_years hE 91 v m hA (zG_OM h.1 h.2.2.2.1 h.2.2.2.2.2.2.2.2.1).1 (fun _ => ⟨rfl, TX, p, q, h⟩) (fun x f M2 x1 f1 f2 e1 e2 _ _ => ?_)
    subst e1 e2
    exact absurd b (no x f x1 f1 f2)
  · subst e1 e2
    have hS : zw_i (zOn (zAV p)) (zOb (zAV p)) (ze_yrs (zOn (zAV p)) (zOb (zAV p)) (zOp (zAV p)) (zT TX (zAy p)) f (ze_sx (zOS (zAV p)) (nI (x * 2 + 181)))) := ze_yrs_i hA.1 f _ (zw_i_sx hA.2.2.1 (by omega))
    have hC2 : zOC (zAt p) (zT TX (zAy p)) (zO_st (zAV p) (ze_yrs (zOn (zAV p)) (zOb (zAV p)) (zOp (zAV p)) (zT TX (zAy p)) f (ze_sx (zOS (zAV p)) (nI (x * 2 + 181))))) M1 := ⟨hC1, fun i hi => by rw [(fC.1 21 (by unfold zP_d zP_c; omega)).1]; exact hC.2.1 i hi, fun i hi => by rw [(fC.1 22 (by unfold zP_d zP_c; omega)).1]; exact hC.2.2 i hi⟩
    have hm := zG_m1 h (zCp_g fC)
    refine c_years hE 91 _ _ hA hm.1 (fun b => absurd b (no x f x1 f1 f2)) (fun x' f' M2 x1' f1' f2' e1 e2 hM1 fM => ?_)
    have e1 := (nI_eq (by omega) (by omega)).mp e1
    have e2 := (nI_eq (by omega) (by omega)).mp e2
    subst e1 e2
    have n10 := hA.1.1
    have hM2 : zOM (zAt p) (zT TX (zAy p)) (zO_st (zAV p) (ze_yrs (zOn (zAV p)) (zOb (zAV p)) (zOp (zAV p)) (zT TX (zAy p)) f (ze_sx (zOS (zAV p)) (nI (x * 2 + 181))))) M2 := ⟨hM1, fun i hi => by
      have hi : i < zOn (zAV p) := hi
      rw [fM.2.1 _ (by unfold zP_m; omega)]; exact hm.2.1 i hi, fun i hi => by rw [fM.2.1 _ (by unfold zP_m; omega)]; exact hm.2.2 i hi⟩
    exact ⟨rfl, zG_off h (zOi_st h.1.1 hS) (Nat.le_refl _) hC2 (zCp_g fC) hM2 (zMp_g fM)⟩
theorem zL_undo (hE : zm_ok E.2.2.1 E.2.2.2.2) : zL E mX11_undo mX12_undo [] := by
  intro M ⟨TX, p, q, h⟩
  have hA := h.1.1.1
  obtain ⟨c, hk⟩ := h.2.2.1.1.2.2.1
  have hH : ∀ i, i < zOs (zAV p) → zw_sz (zOH (zAV p) i) := fun i hi => (hA.2.2.2 i hi).1
  have hm := h.2.2.2.1.1.2.2.1
  refine c11_undo hE 97 hH hk (fun s0 => ⟨_, rfl, ?_⟩) (fun M1 t c' st hS hk1 fj => ⟨_, rfl, ?_⟩)
  · refine c_undo hE 99 hH hm (fun _ => ⟨rfl, TX, p, q, h⟩) (fun M2 t st _ _ _ _ _ => ?_)
    omega
  · have e1 : ∀ x, x ≠ 16 → (x < 23 ∨ 33 ≤ x) → M1.1 x = M.1 x := fun x a b => fj.1 x a b
    have hm1 : zk_m M1 1 (zOs (zAV p)) (zOH (zAV p)) := by
      unfold zk_m at hm ⊢
      rw [e1 1 (by omega) (by omega)]
      exact hm
    refine c_undo hE 99 hH hm1 (fun z => by omega) (fun M2 t' st' hS2 hk2 _ f2 g2 => ?_)
    have tt : t' = t := by omega
    subst tt
    have fC : zCp M M1 := by
      refine ⟨fun x hx => ?_, fj.2.2⟩
      have hx' : ¬ (x = 16 ∨ (23 ≤ x ∧ x < 33)) := fun z => hx (Or.inl (Or.inl (by unfold zP_c; omega)))
      exact ⟨e1 x (by omega) (by omega), by rw [fj.2.1], by rw [fj.2.1]⟩
    have fM : zMp M1 M2 := zMp_1 f2 (fun j hj => by
      unfold zP_mq zP_m at hj
      exact g2 j (by omega) (by unfold zh_in; omega))
    have iv : zOi (zT TX (zAy p)) (zOn (zAV p), zOb (zAV p), zOp (zAV p), zOc (zAV p), zOw (zAV p), zOH (zAV p) t', t', zOH (zAV p)) := ⟨⟨hA.1, hA.2.1, hA.2.2.2 t' (by omega), fun i hi => hA.2.2.2 i (by have hi : i < t' := hi; omega)⟩, by have := h.1.1.2.1; show t' ≤ 30; omega, h.1.1.2.2⟩
    have v1 := h.2.2.1.1
    have hm2 := zG_m1 h fC
    have n10 := hA.1.1
    refine ⟨rfl, zG_off (V := (zOn (zAV p), zOb (zAV p), zOp (zAV p), zOc (zAV p), zOw (zAV p), zOH (zAV p) t', t', zOH (zAV p))) h iv (Nat.le_refl _) ⟨⟨zc_s9_e v1.1 (by rw [e1 17 (by omega) (by omega)]) (fun x j a b _ => by rw [e1 x (by omega) (by omega)]), zN_e h.2.2.2.2.2.2.2.1 (e1 749 (by omega) (by omega)), ?_, ?_, hS, c', hk1⟩, fun i hi => by rw [e1 21 (by omega) (by omega)]; exact v1.2.2.2.1 i hi, fun i hi => by rw [e1 22 (by omega) (by omega)]; exact v1.2.2.2.2 i hi⟩ fC ⟨⟨?_, ?_, fun w hw => ?_, hS2, hk2, ?_⟩, fun i hi => ?_, fun i hi => ?_⟩ fM⟩
    · rw [fj.2.2 6 (by decide)]; exact h.2.2.1.2.1.1
    · have k6 : M1.1 16 6 = M.1 16 6 := fj.2.2 6 (by decide)
      have k7 : M1.1 16 7 = M.1 16 7 := fj.2.2 7 (by decide)
      have z := zG_T h.1 h.2.2.1
      unfold zr_law at z ⊢
      rw [k6, k7]
      rcases z with z | ⟨L, z1, z2, z3⟩
      · exact Or.inl z
      · have l := z2.1.1
        exact Or.inr ⟨L, z1, z2, fun w hw => zl_law_c (z3 w hw) (fun j _ _ => e1 _ (by omega) (by omega))⟩
    · show zm_s9 (zOn (zAV p)) (zOb (zAV p)) (zOp (zAV p)) M2
      obtain ⟨x1, x2, x3, x4, x5⟩ := hm2.1.1
      have ge : ∀ j, (j = 0 ∨ (90 ≤ j ∧ j < 120)) → M2.1 1 j = M1.1 1 j := fun j hj => g2 j (by omega) (by unfold zh_in; omega)
      exact ⟨zt_wf_c x1 (fun i hi => (ge _ (by omega)).symm), by rw [ge _ (by omega)]; exact x2, fun i hi => by rw [ge _ (by omega)]; exact x3 i hi, fun i hi => by rw [ge _ (by omega)]; exact x4 i hi, x5⟩
    · rw [fM.2.1 1 (by unfold zP_mq zP_m; omega)]; exact hm2.1.2.1
    · rw [fM.2.1 2 (by unfold zP_mq zP_m; omega)]
      exact zm_T_c (hm2.1.2.2.1 w hw) (fM.1 3 (by decide)).1
    · rw [fM.2.2 23 (by decide) (by decide)]; exact hm2.1.2.2.2.2.2
    · have hi : i < zOn (zAV p) := hi
      rw [g2 _ (by omega) (by unfold zh_in; omega)]; exact hm2.2.1 i hi
    · rw [g2 _ (by omega) (by unfold zh_in; omega)]; exact hm2.2.2 i hi
end
