/-! ===== calls that only ask, third ===== -/
/-- what an entry of the reference's book holds -/
theorem zG_bk {TX : zTX} {p q : zA} {M : zm_M} (h : zG TX p q M) {i : Nat} (hi : i < zWm (zOS (zAV p))) : ∀ w, w < 4 → zk_bk (M.1 1 (4484 + 2 * i)) (M.1 1 (4484 + 2 * i + 1)) (nI w) = M.1 32 (4 * i + w) := by
  intro w hw
  have c := h.2.2.1.1.2.1.2.2.2.2.2.2 i w hi hw
  have c : M.1 32 (4 * i + w) = zWb (zOS (zAV p)) i w := c
  have m := h.2.2.2.1.1.2.1.2.2.2.2.2.2 i hi
  have m0 : M.1 1 (4484 + 2 * i) = zWb (zOS (zAV p)) i 0 := m.1
  have m1 : M.1 1 (4484 + 2 * i + 1) = (zWb (zOS (zAV p)) i 1 * 4 + zWb (zOS (zAV p)) i 2) * 10000 + zWb (zOS (zAV p)) i 3 := m.2
  obtain ⟨k, x, s, b1, b2, b3, k1, x1, s1⟩ := h.1.1.1.2.2.1.2.2.2.2 i hi
  have ev : (nI k * 4 + nI x) * 10000 + nI s = nI ((k * 4 + x) * 10000 + s) := by
    rw [show nI k * 4 = nI (k * 4) from pk_mul k 4, nI_add, show nI (k * 4 + x) * 10000 = nI ((k * 4 + x) * 10000) from pk_mul _ 10000, nI_add]
  have d4 : nI ((k * 4 + x) * 10000 + s) / 40000 = nI k := by
    rw [show (40000 : Int32) = nI 40000 from rfl, pk_div (by omega) (by decide) (by decide)]
    congr 1
    omega
  have d1 : nI ((k * 4 + x) * 10000 + s) / 10000 = nI (k * 4 + x) := by
    rw [show (10000 : Int32) = nI 10000 from rfl, pk_div (by omega) (by decide) (by decide)]
    congr 1
    omega
  have d2 : nI (k * 4 + x) - nI (k * 4 + x) / 4 * 4 = nI x := by
    rw [show (4 : Int32) = nI 4 from rfl, pk_rem (by omega) (by decide) (by decide)]
    congr 1
    omega
  have d3 : nI ((k * 4 + x) * 10000 + s) - nI (k * 4 + x) * 10000 = nI s := by
    rw [show nI (k * 4 + x) * 10000 = nI ((k * 4 + x) * 10000) from pk_mul _ 10000, zk_sub (by omega)]
    congr 1
    omega
  rw [c, m0, m1, b1, b2, b3, ev]
  unfold zk_bk
  rw [d4, d1, d2, d3]
  rcases (show w = 0 ∨ w = 1 ∨ w = 2 ∨ w = 3 by omega) with rfl | rfl | rfl | rfl
  · rfl
  · exact b1.symm
  · exact b2.symm
  · exact b3.symm
section
variable {E : zm_E}
theorem zL_book (hE : zm_ok E.2.2.1 E.2.2.2.2) (i w : Int32) : zL E mX11_book mX12_book [.int i, .int w] := by
  intro M ⟨TX, p, q, h⟩
  have m30 : zWm (zOS (zAV p)) ≤ 30 := h.1.1.1.2.2.1.1.2
  have c11 : M.1 23 11 = nI (zWm (zOS (zAV p))) := h.2.2.1.1.2.1.2.2.2.1
  have m9 : M.1 1 9 = nI (zWm (zOS (zAV p))) := h.2.2.2.1.1.2.1.2.2.2.1
  refine c11_book hE 98 m30 i w c11 (fun e => ⟨_, rfl, ?_⟩) (fun e b => ⟨_, rfl, ?_⟩) (fun k f hk hf e1 e2 => ⟨_, rfl, ?_⟩)
  · exact c_book hE 98 m30 i w m9 (fun _ => ⟨rfl, TX, p, q, h⟩) (fun z => absurd e z) (fun k hk e1 => by subst e1; exact absurd e (zt_ne (by omega)))
  · refine c_book hE 98 m30 i w m9 (fun z => absurd z e) (fun _ _ => ⟨rfl, TX, p, q, h⟩) (fun k hk e1 => ⟨?_, TX, p, q, h⟩)
    subst e1
    rcases b with b | b
    · rw [zo_isI (by omega) hk] at b; cases b
    · unfold zk_bk
      have nw : ∀ x, x ≤ 3 → ¬ w = nI x := fun x hx z => by
        rw [z] at b
        exact (Eq.mp (zd_in (v := x) (l := 0) (h := 3) (by omega) (by omega) (by omega)) b) ⟨Nat.zero_le _, hx⟩
      rw [if_neg (show ¬ w = 0 from nw 0 (by omega)), if_neg (show ¬ w = 1 from nw 1 (by omega)), if_neg (show ¬ w = 2 from nw 2 (by omega)), if_neg (show ¬ w = 3 from nw 3 (by omega))]
  · subst e1 e2
    refine c_book hE 98 m30 _ _ m9 (fun z => absurd z (zt_ne (by omega))) (fun _ z => ?_) (fun k' hk' e1 => ⟨?_, TX, p, q, h⟩)
    · rw [zo_isI (by omega) hk] at z; cases z
    · have e1 := (nI_eq (by omega) (by omega)).mp e1
      subst e1
      rw [zG_bk h hk f (by omega)]
theorem zL_befell (hE : zm_ok E.2.2.1 E.2.2.2.2) (w : Int32) : zL E mX11_befell mX12_befell [.int w] := by
  intro M ⟨TX, p, q, h⟩
  have m30 : zWm (zOS (zAV p)) ≤ 30 := h.1.1.1.2.2.1.1.2
  have c11 : M.1 23 11 = nI (zWm (zOS (zAV p))) := h.2.2.1.1.2.1.2.2.2.1
  have m9 : M.1 1 9 = nI (zWm (zOS (zAV p))) := h.2.2.2.1.1.2.1.2.2.2.1
  refine c11_befell hE 98 m30 w c11 (fun b => ⟨_, rfl, ?_⟩) (fun b => ⟨_, rfl, ?_⟩)
  · exact c_befell hE 97 m30 w m9 (fun _ => ⟨rfl, TX, p, q, h⟩) (fun z => absurd b z)
  · refine c_befell hE 97 m30 w m9 (fun z => absurd z b) (fun _ => ⟨?_, TX, p, q, h⟩)
    rw [zc_n_c (zWm (zOS (zAV p))) (fun i hi => ?_)]
    have e := zG_bk h hi 2 (by decide)
    rw [← e]; rfl
theorem zs_t_c {f g : Nat → Int32} {n : Nat} (h : ∀ i, i < n → f i = g i) (t : Int32) (N : Nat) : zs_f f n t N = zs_f g n t N := by unfold zs_f; rw [zs_is_c h t]
theorem zs_w_c {f g : Nat → Int32} {n : Nat} (h : ∀ i, i < n → f i = g i) (t : Int32) (k N : Nat) : zs_w f n t k N = zs_w g n t k N := by unfold zs_w; rw [zs_is_c h t]
theorem zG_pl {TX : zTX} {p q : zA} {M : zm_M} (h : zG TX p q M) : ∀ i, i < zAn p → M.1 36 i = M.1 1 (120 + i) := fun i hi => (h.2.2.1.2.2.2.1.2 i hi).trans (h.2.2.2.1.2.2.2.1.2 i hi).symm
/-- the class lays its counts, the reference its own -/
theorem zG_lay1 {TX : zTX} {p q : zA} {M M1 : zm_M} {m n N : Nat} {sz : Nat → Int32} {t : Int32} (h : zG TX p q M) (l : zs_lay M M1 35 1 37 m sz n t N) : zG TX p q M1 := by
  obtain ⟨f, g, _, _⟩ := l
  have e : ∀ x, x ≠ 35 → x ≠ 37 → M1.1 x = M.1 x := fun x a b => (f x (by simp; omega)).1
  obtain ⟨h1, h2, h3, h4, h5, h6, h7, h8, h9, h10, h11⟩ := h
  refine ⟨h1, h2, zGc_e h1 h3 (fun x j z => ?_), zGm_e h1 h4 (fun j _ => by rw [e 1 (by omega) (by omega)]) (fun j _ => by rw [e 3 (by omega) (by omega)]), zGk_e h2 h5 (fun x a b => e x (by omega) (by omega)), zGl_e h2 h6 (e 2 (by omega) (by omega)) (fun j _ => by rw [e 3 (by omega) (by omega)]), h7, zN_e h8 (e 749 (by omega) (by omega)), by rw [e 0 (by omega) (by omega)]; exact h9, zTp_e h10 (by rw [e 15 (by omega) (by omega)]) (e 765 (by omega) (by omega)) (by rw [e 0 (by omega) (by omega)]) (e 4 (by omega) (by omega)), zFt_e h11 (fun j _ => by rw [e 761 (by omega) (by omega)]) (by rw [e 0 (by omega) (by omega)]) (by rw [e 0 (by omega) (by omega)])⟩
  by_cases c : x = 35
  · subst c
    refine g j ?_
    intro y
    have y : j = 1 := by simpa using y
    subst y
    have := z.2.2
    unfold zV_in zW_in zL_in at this
    omega
  · by_cases c2 : x = 37
    · subst c2
      have := z.2.2
      unfold zV_in zW_in zL_in at this
      omega
    · rw [e x c c2]
theorem zG_lay2 {TX : zTX} {p q : zA} {M M1 : zm_M} {m n N : Nat} {sz : Nat → Int32} {t : Int32} (h : zG TX p q M) (l : zs_lay M M1 0 34 14 m sz n t N) : zG TX p q M1 := by
  obtain ⟨f, g, _, _⟩ := l
  exact zG_zf h f (fun x hx => by simp at hx; unfold zSc; omega) (zN_e h.2.2.2.2.2.2.2.1 (f 749 (by decide)).1) (fun _ j hj => g j (by simp; omega))
theorem zL_piles (hE : zm_ok E.2.2.1 E.2.2.2.2) (t w : Int32) : zL E mX11_piles mX12_piles [.int t, .int w] := by
  intro M ⟨TX, p, q, h⟩
  have n8 := h.1.2.2.2.2.1
  refine c11_piles hE 97 n8 t w h.2.2.1.2.2.2.1.1 (fun b => ⟨_, rfl, ?_⟩) (fun b M1 l1 => ⟨_, rfl, ?_⟩)
  · exact c_piles hE 97 n8 t w h.2.2.2.1.2.2.2.1.1 (fun _ => ⟨rfl, TX, p, q, h⟩) (fun z => absurd b z)
  · have g1 := zG_lay1 h l1
    refine c_piles hE 97 n8 t w g1.2.2.2.1.2.2.2.1.1 (fun z => ⟨?_, TX, p, q, g1⟩) (fun _ z M2 l2 => ⟨?_, TX, p, q, zG_lay2 g1 l2⟩)
    · rcases z with z | z
      · exact absurd z b
      · rw [if_pos z]
    · rw [if_neg z]
      have e : ∀ i, i < zAn p → M.1 36 i = M1.1 1 (120 + i) := fun i hi => (h.2.2.1.2.2.2.1.2 i hi).trans (g1.2.2.2.1.2.2.2.1.2 i hi).symm
      unfold zs_pl zs_bits
      rw [zs_t_c e]
      have e2 : ∀ x, zb_set (fun k => decide (zs_w (M.1 36) (zAn p) t k (2 ^ zAn p) = x)) (zAn p) = zb_set (fun k => decide (zs_w (fun k => M1.1 1 (120 + k)) (zAn p) t k (2 ^ zAn p) = x)) (zAn p) := fun x => zb_set_c _ (fun k _ => by rw [zs_w_c e])
      rw [e2]
theorem zL_ask (hE : zm_ok E.2.2.1 E.2.2.2.2) (t : Int32) : zL E mX11_ask mX12_ask [.int t] := by
  intro M ⟨TX, p, q, h⟩
  have n8 := h.1.2.2.2.2.1
  refine c11_ask hE 97 n8 t h.2.2.1.2.2.2.1.1 (fun b => ⟨_, rfl, ?_⟩) (fun b M1 l1 => ⟨_, rfl, ?_⟩)
  · exact c_ask hE 97 n8 t h.2.2.2.1.2.2.2.1.1 (fun _ => ⟨rfl, TX, p, q, h⟩) (fun z => absurd b z)
  · have g1 := zG_lay1 h l1
    refine c_ask hE 97 n8 t g1.2.2.2.1.2.2.2.1.1 (fun z => absurd z b) (fun _ M2 l2 => ⟨?_, TX, p, q, zG_lay2 g1 l2⟩)
    have e : ∀ i, i < zAn p → M.1 36 i = M1.1 1 (120 + i) := fun i hi => (h.2.2.1.2.2.2.1.2 i hi).trans (g1.2.2.2.1.2.2.2.1.2 i hi).symm
    unfold zs_ask
    rw [zs_t_c e, zs_b_c _ (fun k _ => zs_w_c e t k _)]
/-- the reference lays the World back -/
theorem zG_mh {TX : zTX} {p q : zA} {M M1 : zm_M} (h : zG TX p q M) (mh : zmh M M1) (hS : zw_m M1 (zOS (zAV p))) : zG TX p q M1 := by
  obtain ⟨h1, h2, h3, h4, h5, h6, h7, h8, h9, h10, h11⟩ := h
  obtain ⟨f, g, g0⟩ := mh
  have e : ∀ x, x ∉ [0, 1, 6, 7, 8, 9] → M1.1 x = M.1 x := fun x hx => (f x hx).1
  obtain ⟨v1, v2, v3, v4, v5⟩ := h4.1
  obtain ⟨m2, m3, m4, m5, m6, m7⟩ := h4.2
  have n10 := v1.1.1
  have n8 := h1.2.2.2.2.1
  have k8 := h1.2.2.2.2.2.1
  unfold zh_in at g
  have nV : zV2 (zAV p) M1 := by
    refine ⟨⟨zt_wf_c v1.1 (fun i hi => (g _ (by omega)).symm), by rw [g _ (by omega)]; exact v1.2.1, fun i hi => by rw [g _ (by omega)]; exact v1.2.2.1 i hi, fun i hi => by rw [g _ (by omega)]; exact v1.2.2.2.1 i hi, v1.2.2.2.2⟩, hS, ⟨by rw [g _ (by omega)]; exact v3.1, v3.2.1, fun i hi => zw_r_c (h1.1.1.2.2.2 i hi).1 (v3.2.2 i hi) (fun k hk => g _ (by have := v3.2.1; omega)) (fun k hk => g _ (by have := v3.2.1; omega))⟩, fun i hi => by rw [g _ (by omega)]; exact v4 i hi, fun i hi => by rw [g _ (by omega)]; exact v5 i hi⟩
  have k3 : M1.1 3 = M.1 3 := e 3 (by decide)
  refine ⟨h1, h2, zGc_e h1 h3 (fun x j z => by have := z.1; rw [e x (by simp; omega)]), ⟨nV, ⟨by rw [g _ (by omega)]; exact m2.1, by rw [g _ (by omega)]; exact m2.2⟩, zX2_e m3 (fun j _ => by rw [k3]), ⟨by rw [g _ (by omega)]; exact m4.1, fun i hi => by rw [g _ (by omega)]; exact m4.2 i hi⟩, fun i hi => by rw [g _ (by omega)]; exact m5 i hi, by rw [g _ (by omega)]; exact m6, fun i hi => by rw [g _ (by omega), g _ (by omega)]; exact m7 i hi⟩, zGk_e h2 h5 (fun x a b => e x (by simp; omega)), zGl_e h2 h6 (e 2 (by decide)) (fun j _ => by rw [k3]), h7, zN_e h8 (e 749 (by decide)), by rw [g0 23 (by decide) (by decide)]; exact h9, zTp_e h10 (by rw [e 15 (by decide)]) (e 765 (by decide)) (g0 4 (by decide) (by decide)) (e 4 (by decide)), zFt_e h11 (fun j _ => by rw [e 761 (by decide)]) (g0 5 (by decide) (by decide)) (g0 6 (by decide) (by decide))⟩
theorem zL_foretold (hE : zm_ok E.2.2.1 E.2.2.2.2) (v a w : Int32) : zL E mX11_foretold mX12_foretold [.int v, .int a, .int w] := by
  intro M ⟨TX, p, q, h⟩
  have hC := (zG_OC h.1 h.2.2.1 h.2.2.2.2.2.2.2.1).1
  have hM := (zG_OM h.1 h.2.2.2.1 h.2.2.2.2.2.2.2.2.1).1
  have hA := h.1.1.1
  have m10 : zWn (zOS (zAV p)) ≤ 10 := hA.2.2.1.1.1
  refine c11_foretold hE 94 v a w h.1.2.1 hA hC (fun b => ⟨_, rfl, ?_⟩) (fun f k M1 f1 f2 hk e1 e2 hN ff => ⟨_, rfl, ?_⟩)
  · refine c_foretold hE 92 v a w hA hM (fun _ => ⟨rfl, TX, p, q, h⟩) (fun f k M1 f1 f2 hk e1 e2 _ _ _ => ?_)
    subst e1 e2
    rcases b with b | b
    · exact absurd ⟨f1, f2⟩ (Eq.mp (zd_in (v := f) (l := 1) (h := 60) (by omega) (by omega) (by omega)) b)
    · rw [zo_isI (by omega) hk] at b; cases b
  · subst e1 e2
    have g1 := zG_zf h ff (fun x hx => ?_) hN (fun z => absurd z (by decide))
    · have hM1 := (zG_OM g1.1 g1.2.2.2.1 g1.2.2.2.2.2.2.2.2.1).1
      refine c_foretold hE 92 _ _ w hA hM1 (fun b => ⟨?_, TX, p, q, g1⟩) (fun f' k' M2 f1' f2' hk' e1 e2 _ mh hS => ?_)
      · rcases b with b | b | b
        · exact absurd ⟨f1, f2⟩ (Eq.mp (zd_in (v := f) (l := 1) (h := 60) (by omega) (by omega) (by omega)) b)
        · rw [zo_isI (by omega) hk] at b; cases b
        · have nw : ∀ x, x ≤ 2 → ¬ w = nI x := fun x hx z => by
            rw [z] at b
            exact (Eq.mp (zd_in (v := x) (l := 0) (h := 2) (by omega) (by omega) (by omega)) b) ⟨Nat.zero_le _, hx⟩
          unfold zq_fo
          rw [if_neg (show ¬ w = 0 from nw 0 (by omega)), if_neg (show ¬ w = 1 from nw 1 (by omega)), if_neg (show ¬ w = 2 from nw 2 (by omega))]
      · have e1 := (nI_eq (by omega) (by omega)).mp e1
        have e2 := (nI_eq (by omega) (by omega)).mp e2
        subst e1 e2
        exact ⟨rfl, TX, p, q, zG_mh g1 mh hS⟩
    · unfold zF zw_L at hx
      simp at hx
      unfold zSc
      omega
theorem zL_pardoned (hE : zm_ok E.2.2.1 E.2.2.2.2) (a : Int32) : zL E mX11_pardoned mX12_pardoned [.int a] := by
  intro M ⟨TX, p, q, h⟩
  have hC := (zG_OC h.1 h.2.2.1 h.2.2.2.2.2.2.2.1).1
  have hM := (zG_OM h.1 h.2.2.2.1 h.2.2.2.2.2.2.2.2.1).1
  have hA := h.1.1.1
  have m10 : zWn (zOS (zAV p)) ≤ 10 := hA.2.2.1.1.1
  refine c11_pardoned hE 94 a h.1.2.1 hA hC (fun b => ⟨_, rfl, ?_⟩) (fun k M1 hk e1 hN ff => ⟨_, rfl, ?_⟩)
  · refine c_pardoned hE 92 a hA hM (fun _ => ⟨rfl, TX, p, q, h⟩) (fun k M1 hk e1 _ _ => ?_)
    subst e1
    rw [zo_isI (by omega) hk] at b; cases b
  · subst e1
    have g1 := zG_zf h ff (fun x hx => ?_) hN (fun z => absurd z (by decide))
    · have hM1 := (zG_OM g1.1 g1.2.2.2.1 g1.2.2.2.2.2.2.2.2.1).1
      refine c_pardoned hE 92 _ hA hM1 (fun b => ?_) (fun k' M2 hk' e1 mh hS => ?_)
      · rw [zo_isI (by omega) hk] at b; cases b
      · have e1 := (nI_eq (by omega) (by omega)).mp e1
        subst e1
        exact ⟨rfl, TX, p, q, zG_mh g1 mh hS⟩
    · unfold zF zw_L at hx
      simp at hx
      unfold zSc
      omega
end
