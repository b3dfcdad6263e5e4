/-! ===== calls that only ask, second ===== -/
theorem zd_ap_c {n : Nat} {b c : Nat → Int32} {S : Nat} (e : zt_eq n b c) : ∀ k, k ≤ n → zd_ap b S k = zd_ap c S k := by
  intro k
  induction k with
  | zero => intro _; rfl
  | succ k ih =>
    intro hk
    simp only [zd_ap]
    rw [ih (by omega)]
    have : zd_q b k = zd_q c k := by unfold zd_q; rw [e k (by omega)]
    rw [this]
theorem zd_best_c {n : Nat} {b c : Nat → Int32} {g : Nat → Nat} (e : zt_eq n b c) (N : Nat) : zd_best b g n N = zd_best c g n N := by
  unfold zd_best
  congr 1
  funext S
  exact zd_ap_c e n (Nat.le_refl _)
theorem zt_pt_c {n p : Nat} {b c : Nat → Int32} (h : zt_wf n b) (e : zt_eq n b c) (hp : p < n) : ∀ k, k ≤ n → zt_pt b n p k = zt_pt c n p k := by
  intro k
  induction k with
  | zero => intro _; simp only [zt_pt]; rw [zt_cn_c h e hp]
  | succ k ih =>
    intro hk
    simp only [zt_pt]
    rw [ih (by omega), zt_cn_c h e (show k < n by omega), e k (by omega)]
theorem zv_sf_c {n : Nat} {b c : Nat → Int32} {S : Nat} (e : zt_eq n b c) : ∀ k, k ≤ n → zv_sf b S k = zv_sf c S k := by
  intro k
  induction k with
  | zero => intro _; rfl
  | succ k ih =>
    intro hk
    simp only [zv_sf]
    have : zd_q b k = zd_q c k := by unfold zd_q; rw [e k (by omega)]
    rw [ih (by omega), this]
theorem zv_best_c {n : Nat} {b c : Nat → Int32} (h : zt_wf n b) (e : zt_eq n b c) (k : Nat) : zv_best b n k = zv_best c n k := by
  unfold zv_best
  congr 1
  funext S
  unfold zv_P
  congr 2
  exact zv_sf_c e n (Nat.le_refl _)
section
variable {E : zm_E}
theorem zL_apart (hE : zm_ok E.2.2.1 E.2.2.2.2) (l : Int32) : zL E mX11_apart mX12_apart [.int l] := by
  intro M ⟨TX, p, q, h⟩
  have hw := h.2.2.1.1.1.1.1
  have n10 := hw.1
  have gg : ∀ i, i < 10 → zOw (zAV p) i = nI (zOw (zAV p) i).toNatClampNeg ∧ (zOw (zAV p) i).toNatClampNeg ≤ 99 := fun i hi => by
    obtain ⟨g, g1, g2⟩ := h.1.1.2.2.2.1 i hi
    rw [g2, nI_clamp (by omega)]
    exact ⟨rfl, g1⟩
  refine zm_R_mono (c11_apart hE 98 l hw h.2.2.1.1.1.2.1 (g := fun i => (zOw (zAV p) i).toNatClampNeg) (fun i hi => ⟨(h.2.2.1.1.2.2.2.2 i hi).trans (gg i (by omega)).1, (gg i (by omega)).2⟩)) (fun r M1 h1 => ?_)
  obtain ⟨rfl, f1⟩ := h1
  have g1 := zG_zf h f1 (fun x hx => by simp at hx; unfold zSc; omega) (zN_e h.2.2.2.2.2.2.2.1 (f1 749 (by decide)).1) (fun z => absurd z (by decide))
  refine ⟨_, rfl, zm_R_mono (c_apart hE 97 l g1.2.2.2.1.1.1.1 g1.2.2.2.1.1.1.2.1 (g := fun i => (zOw (zAV p) i).toNatClampNeg) (fun i hi => ⟨(g1.2.2.2.1.1.2.2.2.2 i (by omega)).trans (gg i (by omega)).1, (gg i (by omega)).2⟩)) (fun r M2 h2 => ?_)⟩
  obtain ⟨rfl, rfl⟩ := h2
  exact ⟨by rw [zd_best_c (zG_18 h g1)], TX, p, q, g1⟩
theorem zL_parts (hE : zm_ok E.2.2.1 E.2.2.2.2) (o : Int32) : zL E mX11_parts mX12_parts [.int o] := by
  intro M ⟨TX, p, q, h⟩
  have hw := h.2.2.1.1.1.1.1
  have hm := h.2.2.2.1.1.1
  have n10 := hw.1
  refine c11_parts hE 96 o hw h.2.2.1.1.1.2.1 (fun b => ⟨_, rfl, ?_⟩) (fun i M1 hi e1 f1 => ⟨_, rfl, ?_⟩)
  · refine c_parts hE 97 o hm.1 hm.2.1 (fun _ => ⟨rfl, TX, p, q, h⟩) (fun i hi e1 => ?_)
    subst e1
    rw [zo_isI (by omega) hi] at b
    cases b
  · subst e1
    have g1 := zG_zf h f1 (fun x hx => by simp at hx; unfold zSc; omega) (zN_e h.2.2.2.2.2.2.2.1 (f1 749 (by decide)).1) (fun z => absurd z (by decide))
    refine c_parts hE 97 _ g1.2.2.2.1.1.1.1 g1.2.2.2.1.1.1.2.1 (fun b => ?_) (fun i' hi' e1 => ?_)
    · rw [zo_isI (by omega) hi] at b
      cases b
    · have e1 := (nI_eq (by omega) (by omega)).mp e1
      subst e1
      exact ⟨by rw [zt_pt_c hw (zG_18 h g1) hi _ (Nat.le_refl _)], TX, p, q, g1⟩
theorem zL_deputies (hE : zm_ok E.2.2.1 E.2.2.2.2) : zL E mX11_deputies mX12_deputies [] := by
  intro M ⟨TX, p, q, h⟩
  have hw := h.2.2.1.1.1.1.1
  refine zm_R_mono (c11_deputies hE 98 hw h.2.2.1.1.1.2.1) (fun r M1 h1 => ?_)
  obtain ⟨rfl, f1⟩ := h1
  have g1 := zG_zf h f1 (fun x hx => by simp at hx; unfold zSc; omega) (zN_e h.2.2.2.2.2.2.2.1 (f1 749 (by decide)).1) (fun z => absurd z (by decide))
  refine ⟨_, rfl, zm_R_mono (c_deputies hE 97 g1.2.2.2.1.1.1.1 g1.2.2.2.1.1.1.2.1) (fun r M2 h2 => ?_)⟩
  obtain ⟨rfl, rfl⟩ := h2
  exact ⟨by rw [zv_best_c hw (zG_18 h g1)], TX, p, q, g1⟩
theorem zL_play (hE : zm_ok E.2.2.1 E.2.2.2.2) (o l : Int32) : zL E mX11_play mX12_play [.int o, .int l] := by
  intro M ⟨TX, p, q, h⟩
  have ee : ∀ i, i < 10 → M.1 38 i = M.1 1 (138 + i) := fun i hi => (h.2.2.1.2.2.2.2.1 i hi).trans (h.2.2.2.1.2.2.2.2.1 i hi).symm
  refine c11_play hE 98 o l (fun b => ⟨_, rfl, ?_⟩) (fun i hi e1 => ⟨_, rfl, ?_⟩)
  · refine c_play hE 98 o l (fun _ => ⟨rfl, TX, p, q, h⟩) (fun i hi e1 => ?_)
    subst e1
    exact absurd b (fun z => (Eq.mp (zd_in (v := i) (l := 0) (h := 1) (by omega) (by omega) (by omega)) z) ⟨Nat.zero_le _, hi⟩)
  · subst e1
    refine c_play hE 98 _ l (fun z => absurd ⟨Nat.zero_le _, hi⟩ (Eq.mp (zd_in (v := i) (l := 0) (h := 1) (by omega) (by omega) (by omega)) z)) (fun i' hi' e1 => ?_)
    have e1 := (nI_eq (by omega) (by omega)).mp e1
    subst e1
    exact ⟨by rw [zl_pl_c ee hi], TX, p, q, h⟩
theorem zG_ap {TX : zTX} {p q : zA} {M : zm_M} (h : zG TX p q M) {f k : Nat} (hf : f < 7) (hk : k < zWn (zOS (zAV p))) : M.1 (24 + f) k = zp M f k := by
  have c := h.2.2.1.1.2.1.2.2.2.2.1 f k hf hk
  rw [show 23 + (1 + f) = 24 + f by omega] at c
  exact c.trans (zw_m_ap h.2.2.2.1.1.2.1 hf hk).symm
theorem zL_stuck (hE : zm_ok E.2.2.1 E.2.2.2.2) : zL E mX11_stuck mX12_stuck [] := by
  intro M ⟨TX, p, q, h⟩
  have n10 := h.2.2.1.1.1.1.1.1
  have m10 : zWn (zOS (zAV p)) ≤ 10 := h.1.1.1.2.2.1.1.1
  refine zm_R_mono (c11_stuck hE 98 n10 m10 h.2.2.1.1.1.2.1 h.2.2.1.1.2.1.2.2.1) (fun r M1 h1 => ?_)
  obtain ⟨rfl, rfl⟩ := h1
  have m8 : M1.1 1 8 = nI (zWn (zOS (zAV p))) := h.2.2.2.1.1.2.1.2.2.1
  refine ⟨_, rfl, zm_R_mono (c_stuck hE 97 n10 m10 h.2.2.2.1.1.1.2.1 m8) (fun r M2 h2 => ?_)⟩
  obtain ⟨rfl, rfl⟩ := h2
  refine ⟨?_, TX, p, q, h⟩
  rw [zl_max_c (zOn (zAV p)) (fun i hi => ?_)]
  rw [zc_n_c (zWn (zOS (zAV p))) (fun k hk => ?_)]
  have e2 : M2.1 26 k = zp M2 2 k := zG_ap h (f := 2) (by decide) hk
  have e4 : M2.1 28 k = zp M2 4 k := zG_ap h (f := 4) (by decide) hk
  unfold zc_desk
  rw [e2, e4, decide_eq_true (show ¬ nI k = -1 from zt_ne (by omega)), Bool.true_and]
theorem zL_eldest (hE : zm_ok E.2.2.1 E.2.2.2.2) : zL E mX11_eldest mX12_eldest [] := by
  intro M ⟨TX, p, q, h⟩
  have m10 : zWn (zOS (zAV p)) ≤ 10 := h.1.1.1.2.2.1.1.1
  refine zm_R_mono (c11_eldest hE 99 m10 h.2.2.1.1.2.1.2.2.1) (fun r M1 h1 => ?_)
  obtain ⟨rfl, rfl⟩ := h1
  have m8 : M1.1 1 8 = nI (zWn (zOS (zAV p))) := h.2.2.2.1.1.2.1.2.2.1
  refine ⟨_, rfl, zm_R_mono (c_eldest hE 98 m10 m8) (fun r M2 h2 => ?_)⟩
  obtain ⟨rfl, rfl⟩ := h2
  exact ⟨by rw [(zl_eld_c _ m10 (fun k hk => (zG_ap h (f := 4) (by decide) hk : M2.1 28 k = zp M2 4 k)) (fun k hk => (zG_ap h (f := 5) (by decide) hk : M2.1 29 k = zp M2 5 k))).1], TX, p, q, h⟩
theorem zL_sry (hE : zm_ok E.2.2.1 E.2.2.2.2) (x : Int32) : zL E mX11_sorry mX12_sorry [.int x] := by
  intro M ⟨TX, p, q, h⟩
  have n10 := h.2.2.1.1.1.1.1.1
  have m10 : zWn (zOS (zAV p)) ≤ 10 := h.1.1.1.2.2.1.1.1
  have m8 : M.1 1 8 = nI (zWn (zOS (zAV p))) := h.2.2.2.1.1.2.1.2.2.1
  refine c11_sry hE 98 n10 m10 x h.2.2.1.1.1.2.1 h.2.2.1.1.2.1.2.2.1 (fun a b => ⟨_, rfl, ?_⟩) (fun b => ⟨_, rfl, ?_⟩)
  · refine c_sry hE 97 n10 m10 x h.2.2.2.1.1.1.2.1 m8 (fun _ _ => ⟨rfl, TX, p, q, h⟩) (fun z => ?_)
    rcases z with z | z
    · exact absurd z a
    · rw [b] at z; cases z
  · refine c_sry hE 97 n10 m10 x h.2.2.2.1.1.1.2.1 m8 (fun a z => ?_) (fun _ => ⟨?_, TX, p, q, h⟩)
    · rcases b with b | b
      · exact absurd b a
      · rw [b] at z; cases z
    · rw [zc_s_c (zWn (zOS (zAV p))) (fun k hk => ?_)]
      unfold zc_sry
      have e0 : M.1 24 k = zp M 0 k := zG_ap h (f := 0) (by decide) hk
      have e3 : M.1 27 k = zp M 3 k := zG_ap h (f := 3) (by decide) hk
      have e4 : M.1 28 k = zp M 4 k := zG_ap h (f := 4) (by decide) hk
      rw [e0, e3, e4]
theorem zL_ofApology (hE : zm_ok E.2.2.1 E.2.2.2.2) (a w : Int32) : zL E mX11_ofApology mX12_ofApology [.int a, .int w] := by
  intro M ⟨TX, p, q, h⟩
  have m10 : zWn (zOS (zAV p)) ≤ 10 := h.1.1.1.2.2.1.1.1
  have m8 : M.1 1 8 = nI (zWn (zOS (zAV p))) := h.2.2.2.1.1.2.1.2.2.1
  have no : ∀ k f, k < zWn (zOS (zAV p)) → f ≤ 6 → ¬ (zo_is (zWn (zOS (zAV p))) (nI k) = false ∨ zi_in (nI f) 0 6 = 0) := fun k f hk hf z => by
    rcases z with z | z
    · rw [zo_isI (by omega) hk] at z; cases z
    · exact (Eq.mp (zd_in (v := f) (l := 0) (h := 6) (by omega) (by omega) (by omega)) z) ⟨Nat.zero_le _, hf⟩
  refine c11_ofApology hE 98 m10 a w h.2.2.1.1.2.1.2.2.1 (fun b => ⟨_, rfl, ?_⟩) (fun k f hk hf e1 e2 => ⟨_, rfl, ?_⟩)
  · refine c_ofApology hE 97 m10 a w m8 (fun _ => ⟨rfl, TX, p, q, h⟩) (fun k f hk hf e1 e2 => ?_)
    subst e1 e2
    exact absurd b (no k f hk hf)
  · subst e1 e2
    refine c_ofApology hE 97 m10 _ _ m8 (fun b => absurd b (no k f hk hf)) (fun k' f' hk' hf' e1 e2 => ?_)
    have e1 := (nI_eq (by omega) (by omega)).mp e1
    have e2 := (nI_eq (by omega) (by omega)).mp e2
    subst e1 e2
    exact ⟨by rw [zG_ap h (by omega) hk], TX, p, q, h⟩
end
