/-! ===== a day, as a function of a World ===== -/
def ze_dk (S : zW) (k p : Nat) : Nat := zc_n (fun j => decide (¬ nI j = nI k) && zc_desk (zWa S 2) (zWa S 4) (nI p) j) (zWn S)
def ze_nm (b pr : Nat → Int32) (S : zW) (k p : Nat) : Nat → Int32 := zn_l (zWd S) (zWa S 3 k) (nI p) (pr p) (nI (zt_rk b p)) (zWa S 0 k) (zWa S 1 k) (zWd S - zWa S 5 k) (nI (ze_dk S k p))
def ze_sy (n : Nat) (b : Nat → Int32) (T : Nat → Option zD) (w : Nat) (f : Nat → Int32) : Int := zq_said (T w) w (fun i => (f i).toInt) (zq_rk n b)
def ze_mn (v : Int) : Int32 := nI (if 9999 < v then 9999 else v).toNat
def ze_wr (wr : Bool) (S : zW) (k : Nat) (what : Int32) : zW := if wr then zw_wr S k what else S
/-- one went up to p -/
def ze_u1 (n : Nat) (b pr : Nat → Int32) (T : Nat → Option zD) (S : zW) (k p : Nat) : zW := zw_pt (zw_pt S 3 k (ze_mn ((zWa S 3 k).toInt + ze_sy n b T 0 (ze_nm b pr S k p)))) 2 k (nI p)
def ze_us (wr : Bool) (S : zW) (k : Nat) : zW := ze_wr wr (zw_pt (zw_drw S) 4 k 1) k 0
def ze_uf (wr : Bool) (S : zW) (k : Nat) : zW := ze_wr wr (zw_pt (zw_pt (zw_drw S) 3 k (ze_mn ((zWa S 3 k).toInt * 2))) 2 k (zWa S 0 k)) k 1
def ze_pd (n : Nat) (b pr : Nat → Int32) (T : Nat → Option zD) (S : zW) (k p : Nat) : Bool := decide ((zWx S).toInt % 10 < ze_sy n b T 1 (ze_nm b pr S k p))
def ze_bs (b : Nat → Int32) (S : zW) (k : Nat) : Nat := (b (zWa S 2 k).toNatClampNeg).toNatClampNeg
def ze_up (wr : Bool) (n : Nat) (b pr : Nat → Int32) (T : Nat → Option zD) (S : zW) (k : Nat) : zW × Bool :=
  if nI (ze_bs b S k) = zWa S 1 k then (if ze_pd n b pr T (ze_u1 n b pr T S k (ze_bs b S k)) k (ze_bs b S k) then (ze_us wr (ze_u1 n b pr T S k (ze_bs b S k)) k, true) else (ze_uf wr (ze_u1 n b pr T S k (ze_bs b S k)) k, false))
  else (ze_u1 n b pr T S k (ze_bs b S k), false)
def ze_ds (b : Nat → Int32) (S : zW) (k : Nat) : Nat := zt_dn b (zWa S 2 k).toNatClampNeg (zWa S 0 k).toNatClampNeg
def ze_d1 (n : Nat) (b pr : Nat → Int32) (T : Nat → Option zD) (S : zW) (k p : Nat) : zW := zw_pt (zw_pt S 3 k (nI (ze_sy n b T 2 (ze_nm b pr S k p)).toNat)) 2 k (nI p)
def ze_dn (wr : Bool) (n : Nat) (b pr : Nat → Int32) (T : Nat → Option zD) (S : zW) (k : Nat) : zW × Nat :=
  if nI (ze_ds b S k) = zWa S 0 k then (ze_wr wr (zw_pt (ze_d1 n b pr T S k (ze_ds b S k)) 4 k 2) k 2, 1) else (ze_d1 n b pr T S k (ze_ds b S k), 0)
def ze_st (wr : Bool) (n : Nat) (b pr : Nat → Int32) (T : Nat → Option zD) (S : zW) (k : Nat) : zW × Nat × Bool :=
  if zw_mv S k then (if zWa S 4 k = 0 then ((ze_up wr n b pr T S k).1, 0, (ze_up wr n b pr T S k).2) else ((ze_dn wr n b pr T S k).1, (ze_dn wr n b pr T S k).2, false)) else (S, 0, false)
def ze_l1 (wr : Bool) (n : Nat) (b pr : Nat → Int32) (T : Nat → Option zD) : Nat → Nat → zW → zW × Nat × Nat
  | 0, _, S => (S, 0, 0)
  | f + 1, k, S => ((ze_l1 wr n b pr T f (k + 1) (ze_st wr n b pr T S k).1).1, (ze_st wr n b pr T S k).2.1 + (ze_l1 wr n b pr T f (k + 1) (ze_st wr n b pr T S k).1).2.1, (if (ze_st wr n b pr T S k).2.2 then 2 ^ k else 0) ||| (ze_l1 wr n b pr T f (k + 1) (ze_st wr n b pr T S k).1).2.2)
def ze_mv (S : zW) (k e : Nat) : Int := if (zWa S 3 e).toInt < (zWa S 3 k).toInt then (zWa S 3 k).toInt + (zWa S 3 e).toInt.tdiv 2 else (zWa S 3 e).toInt + (zWa S 3 k).toInt.tdiv 2
def ze_mg (wr : Bool) (S : zW) (k e : Nat) : zW := ze_wr wr (zw_pt (zw_pt (zw_pt S 3 k (ze_mn (ze_mv S k e))) 3 e 0) 4 e 2) e 3
def ze_mc (S : zW) (k e : Nat) : Bool := decide (zWa S 4 k = 0) && decide (zWa S 4 e = 0) && decide (zWa S 1 k = zWa S 1 e) && decide (zWa S 2 k = zWa S 2 e)
def ze_l3 (wr : Bool) (k : Nat) : Nat → Nat → zW → zW × Nat
  | 0, _, S => (S, 0)
  | f + 1, e, S => if ze_mc S k e then ((ze_l3 wr k f (e + 1) (ze_mg wr S k e)).1, 1 + (ze_l3 wr k f (e + 1) (ze_mg wr S k e)).2) else ze_l3 wr k f (e + 1) S
def ze_l2 (wr : Bool) (m : Nat) : Nat → Nat → zW → zW × Nat
  | 0, _, S => (S, 0)
  | f + 1, k, S => ((ze_l2 wr m f (k + 1) (ze_l3 wr k (m - (k + 1)) (k + 1) S).1).1, (ze_l3 wr k (m - (k + 1)) (k + 1) S).2 + (ze_l2 wr m f (k + 1) (ze_l3 wr k (m - (k + 1)) (k + 1) S).1).2)
def ze_dy (S : zW) : zW := (zWd S + 1, zWx S, zWn S, zWm S, zWa S, zWo S, zWb S)
def ze_p1 (wr : Bool) (n : Nat) (b pr : Nat → Int32) (T : Nat → Option zD) (S : zW) : zW × Nat × Nat := ze_l1 wr n b pr T (zWn S) 0 S
def ze_p2 (wr : Bool) (n : Nat) (b pr : Nat → Int32) (T : Nat → Option zD) (S : zW) : zW × Nat := ze_l2 wr (zWn S) (zWn S) 0 (ze_p1 wr n b pr T S).1
def ze_ps (wr : Bool) (n : Nat) (b pr : Nat → Int32) (T : Nat → Option zD) (S : zW) : zW := ze_dy (ze_p2 wr n b pr T S).1
def ze_pn (wr : Bool) (n : Nat) (b pr : Nat → Int32) (T : Nat → Option zD) (S : zW) : Nat := (ze_p1 wr n b pr T S).2.1 + (ze_p2 wr n b pr T S).2
/-! what holds of a World -/
def zw_ik (n : Nat) (b : Nat → Int32) (S : zW) (k : Nat) : Prop := ∃ f t a s h g, zWa S 0 k = nI f ∧ zWa S 1 k = nI t ∧ zWa S 2 k = nI a ∧ zWa S 3 k = nI s ∧ zWa S 4 k = nI h ∧ zWa S 5 k = nI g ∧ f < n ∧ t < n ∧ a < n ∧ s ≤ 9999 ∧ h ≤ 2 ∧ g ≤ 9999 ∧ zt_ab b t f = true ∧ (h = 0 → zt_ab b t a = true) ∧ (h = 1 → zt_ab b a f = true)
def zw_bk (S : zW) (i : Nat) : Prop := ∃ k w s, zWb S i 1 = nI k ∧ zWb S i 2 = nI w ∧ zWb S i 3 = nI s ∧ k < 10 ∧ w < 4 ∧ s ≤ 9999
def zw_i (n : Nat) (b : Nat → Int32) (S : zW) : Prop := zw_sz S ∧ (∃ dd, dd ≤ 9999 ∧ zWd S = nI dd) ∧ (∃ X, X < 30539 ∧ zWx S = nI X) ∧ (∀ k, k < zWn S → zw_ik n b S k) ∧ ∀ i, i < zWm S → zw_bk S i
theorem zw_i_k {n : Nat} {b : Nat → Int32} {S S' : zW} (k : Nat) (h : zw_i n b S) (hn : zWn S' = zWn S) (hd : zWd S' = zWd S) (hx : ∃ X, X < 30539 ∧ zWx S' = nI X) (hm : zWm S' = zWm S) (hb : zWb S' = zWb S) (ho : ∀ j, j ≠ k → ∀ x, zWa S' x j = zWa S x j) (hk : k < zWn S → zw_ik n b S' k) : zw_i n b S' := by
  obtain ⟨h1, h2, h3, h4, h5⟩ := h
  refine ⟨⟨by rw [hn]; exact h1.1, by rw [hm]; exact h1.2⟩, by rw [hd]; exact h2, hx, fun j hj => ?_, fun i hi => ?_⟩
  · rw [hn] at hj
    by_cases c : j = k
    · subst c; exact hk hj
    · obtain ⟨f, t, a, s, hh, g, q⟩ := h4 j hj
      refine ⟨f, t, a, s, hh, g, ?_⟩
      rw [ho j c, ho j c, ho j c, ho j c, ho j c, ho j c]; exact q
  · rw [hm] at hi
    obtain ⟨kk, w, s, q⟩ := h5 i hi
    refine ⟨kk, w, s, ?_⟩
    rw [hb]; exact q
theorem zw_i_wr {n : Nat} {b : Nat → Int32} {S : zW} {k w : Nat} (h : zw_i n b S) (hk : k < zWn S) (hw : w < 4) : zw_i n b (zw_wr S k (nI w)) := by
  obtain ⟨h1, h2, h3, h4, h5⟩ := h
  have hm := h1.2
  have hn := h1.1
  refine ⟨⟨hn, ?_⟩, h2, h3, fun j hj => h4 j hj, fun i hi => ?_⟩
  · show zw_wm S + 1 ≤ 30
    unfold zw_wm; split <;> omega
  · have hi : i < zw_wm S + 1 := hi
    by_cases c : i = zw_wm S
    · obtain ⟨f, t, a, s, hh, g, q⟩ := h4 k hk
      have e : ∀ j, zWb (zw_wr S k (nI w)) i j = zw_nt S k (nI w) j := fun j => if_pos c
      refine ⟨k, w, s, by rw [e]; rfl, by rw [e]; rfl, by rw [e]; exact q.2.2.2.1, by omega, hw, q.2.2.2.2.2.2.2.2.2.1⟩
    · have e : ∀ j, zWb (zw_wr S k (nI w)) i j = zw_wb S i j := fun j => if_neg c
      unfold zw_bk
      rw [e, e, e]
      unfold zw_wm at hi c
      unfold zw_wb
      by_cases c3 : zWm S = 30
      · rw [if_pos c3] at hi c ⊢
        obtain ⟨kk, w', s, q⟩ := h5 (i + 1) (by omega)
        exact ⟨kk, w', s, q⟩
      · rw [if_neg c3] at hi c ⊢
        obtain ⟨kk, w', s, q⟩ := h5 i (by omega)
        exact ⟨kk, w', s, q⟩
theorem ze_wr_i {n : Nat} {b : Nat → Int32} {wr : Bool} {S : zW} {k w : Nat} (h : zw_i n b S) (hk : k < zWn S) (hw : w < 4) : zw_i n b (ze_wr wr S k (nI w)) := by
  unfold ze_wr
  split
  · exact zw_i_wr h hk hw
  · exact h
theorem ze_mn_of {v : Int} (h : 0 ≤ v) : ∃ s, s ≤ 9999 ∧ ze_mn v = nI s := ⟨_, by split <;> omega, rfl⟩
theorem zw_pt_a {S : zW} {x k y j : Nat} {v : Int32} : zWa (zw_pt S x k v) y j = if y = x ∧ j = k then v else zWa S y j := rfl
theorem zw_pt_n {S : zW} {x k : Nat} {v : Int32} : zWn (zw_pt S x k v) = zWn S := rfl
theorem ze_sy_in (n : Nat) (b : Nat → Int32) (T : Nat → Option zD) (w : Nat) (f : Nat → Int32) : 0 ≤ ze_sy n b T w f ∧ ze_sy n b T w f ≤ zq_top w := zq_bd_in _ _
theorem ze_u1_i {n : Nat} {b pr : Nat → Int32} {T : Nat → Option zD} {S : zW} {k : Nat} (hw : zt_wf n b) (h : zw_i n b S) (hk : k < zWn S) (h0 : zWa S 4 k = 0) : (∃ p, ze_bs b S k = p ∧ p < n ∧ b (zWa S 2 k).toNatClampNeg = nI p ∧ (¬ nI p = zWa S 1 k → zw_i n b (ze_u1 n b pr T S k p)) ∧ zWn (ze_u1 n b pr T S k p) = zWn S ∧ ∃ f s g t, zWa (ze_u1 n b pr T S k p) 3 k = nI s ∧ s ≤ 9999 ∧ zWa S 0 k = nI f ∧ f < n ∧ zWa S 1 k = nI t ∧ t < n ∧ zWa S 5 k = nI g ∧ g ≤ 9999 ∧ zt_ab b t f = true) := by
  have hn := hw.1
  obtain ⟨f, t, a, s, hh, g, e0, e1, e2, e3, e4, e5, bf, bt_, ba, bs, bh, bg, ab1, ab2, ab3⟩ := h.2.2.2.1 k hk
  have hh0 : hh = 0 := by
    rw [e4] at h0
    exact (nI_eq (b := 0) (by omega) (by decide)).mp h0
  have hab := ab2 hh0
  rcases hw.at ba with z | ⟨p, hp1, hp2, hp3⟩
  · rw [zt_ab_none z] at hab; cases hab
  · have ep : ze_bs b S k = p := by unfold ze_bs; rw [e2, nI_clamp (by omega), hp3, nI_clamp (by omega)]
    have hsy := ze_sy_in n b T 0 (ze_nm b pr S k p)
    have s3 : (zWa S 3 k).toInt = s := by rw [e3, nI_toInt (by omega)]
    obtain ⟨s', hs', es'⟩ := ze_mn_of (v := (zWa S 3 k).toInt + ze_sy n b T 0 (ze_nm b pr S k p)) (by rw [s3]; omega)
    have v3 : zWa (ze_u1 n b pr T S k p) 3 k = nI s' := by
      unfold ze_u1; rw [zw_pt_a, if_neg (by omega), zw_pt_a, if_pos ⟨rfl, rfl⟩]; exact es'
    refine ⟨p, ep, hp2, by rw [e2, nI_clamp (by omega)]; exact hp3, fun hne => ?_, rfl, f, s', g, t, v3, hs', e0, bf, e1, bt_, e5, bg, ab1⟩
    have hpt : zt_ab b t p = true := by
      rw [zt_ab_boss hw ba hp1 hp3 bt_] at hab
      rcases Bool.or_eq_true _ _ |>.mp hab with z | z
      · exact absurd (by rw [e1, of_decide_eq_true z]) hne
      · exact z
    refine zw_i_k k h rfl rfl h.2.2.1 rfl rfl (fun j hj x => ?_) (fun _ => ⟨f, t, p, s', 0, g, ?_, ?_, ?_, v3, ?_, ?_, bf, bt_, hp2, hs', by omega, bg, ab1, fun _ => hpt, fun z => absurd z (by omega)⟩)
    · unfold ze_u1; rw [zw_pt_a, if_neg (by omega), zw_pt_a, if_neg (by omega)]
    · unfold ze_u1; rw [zw_pt_a, if_neg (by omega), zw_pt_a, if_neg (by omega)]; exact e0
    · unfold ze_u1; rw [zw_pt_a, if_neg (by omega), zw_pt_a, if_neg (by omega)]; exact e1
    · unfold ze_u1; rw [zw_pt_a, if_pos ⟨rfl, rfl⟩]
    · unfold ze_u1; rw [zw_pt_a, if_neg (by omega), zw_pt_a, if_neg (by omega)]; rw [h0]; rfl
    · unfold ze_u1; rw [zw_pt_a, if_neg (by omega), zw_pt_a, if_neg (by omega)]; exact e5
theorem zw_dr_lt {X : Nat} (hX : X < 30539) : ∃ Y, Y < 30539 ∧ zw_dr (nI X) = nI Y := ⟨(X * 421 + 307) % 30539, Nat.mod_lt _ (by decide), zw_dr_n hX⟩
theorem ze_up_i {wr : Bool} {n : Nat} {b pr : Nat → Int32} {T : Nat → Option zD} {S : zW} {k : Nat} (hw : zt_wf n b) (h : zw_i n b S) (hk : k < zWn S) (h0 : zWa S 4 k = 0) : zw_i n b (ze_up wr n b pr T S k).1 ∧ zWn (ze_up wr n b pr T S k).1 = zWn S := by
  have hn := hw.1
  obtain ⟨p, ep, hp, hb, hi, hn1, f, s, g, t, e3, bs, e0, bf, e1, bt_, e5, bg, ab⟩ := ze_u1_i (pr := pr) (T := T) hw h hk h0
  obtain ⟨X, hX, eX⟩ := h.2.2.1
  obtain ⟨Y, hY, eY⟩ := zw_dr_lt hX
  unfold ze_up
  rw [ep]
  have a0 : ∀ x j, ¬ (x = 2 ∧ j = k) → ¬ (x = 3 ∧ j = k) → zWa (ze_u1 n b pr T S k p) x j = zWa S x j := fun x j c1 c2 => by
    unfold ze_u1; rw [zw_pt_a, if_neg c1, zw_pt_a, if_neg c2]
  have a2 : zWa (ze_u1 n b pr T S k p) 2 k = nI p := by unfold ze_u1; rw [zw_pt_a, if_pos ⟨rfl, rfl⟩]
  split
  · next ept =>
    have tp : t = p := by
      rw [e1] at ept
      exact ((nI_eq (by omega) (by omega)).mp ept).symm
    split
    · refine ⟨?_, ?_⟩
      · show zw_i n b (ze_us wr (ze_u1 n b pr T S k p) k)
        unfold ze_us
        refine ze_wr_i (w := 0) ?_ hk (by decide)
        have d0 : ∀ x j, ¬ (x = 4 ∧ j = k) → zWa (zw_pt (zw_drw (ze_u1 n b pr T S k p)) 4 k 1) x j = zWa (ze_u1 n b pr T S k p) x j := fun x j c => by rw [zw_pt_a, if_neg c]; rfl
        refine zw_i_k k h rfl rfl ⟨Y, hY, by show zw_dr (zWx S) = nI Y; rw [eX]; exact eY⟩ rfl rfl (fun j hj x => ?_) (fun _ => ⟨f, t, p, s, 1, g, ?_, ?_, ?_, ?_, ?_, ?_, bf, bt_, hp, bs, by omega, bg, ab, fun z => absurd z (by omega), fun _ => by rw [← tp]; exact ab⟩)
        · rw [d0 _ _ (by omega), a0 _ _ (by omega) (by omega)]
        · rw [d0 _ _ (by omega), a0 _ _ (by omega) (by omega)]; exact e0
        · rw [d0 _ _ (by omega), a0 _ _ (by omega) (by omega)]; exact e1
        · rw [d0 _ _ (by omega)]; exact a2
        · rw [d0 _ _ (by omega)]; exact e3
        · rw [zw_pt_a, if_pos ⟨rfl, rfl⟩]; rfl
        · rw [d0 _ _ (by omega), a0 _ _ (by omega) (by omega)]; exact e5
      · show zWn (ze_us wr (ze_u1 n b pr T S k p) k) = zWn S
        unfold ze_us ze_wr
        split <;> rfl
    · refine ⟨?_, ?_⟩
      · show zw_i n b (ze_uf wr (ze_u1 n b pr T S k p) k)
        unfold ze_uf
        refine ze_wr_i (w := 1) ?_ hk (by decide)
        have s3 : (zWa (ze_u1 n b pr T S k p) 3 k).toInt = s := by rw [e3, nI_toInt (by omega)]
        obtain ⟨s', hs', es'⟩ := ze_mn_of (v := (zWa (ze_u1 n b pr T S k p) 3 k).toInt * 2) (by rw [s3]; omega)
        have f0 : zWa (ze_u1 n b pr T S k p) 0 k = nI f := by rw [a0 _ _ (by omega) (by omega)]; exact e0
        have d0 : ∀ x j, ¬ (x = 2 ∧ j = k) → ¬ (x = 3 ∧ j = k) → zWa (zw_pt (zw_pt (zw_drw (ze_u1 n b pr T S k p)) 3 k (ze_mn ((zWa (ze_u1 n b pr T S k p) 3 k).toInt * 2))) 2 k (zWa (ze_u1 n b pr T S k p) 0 k)) x j = zWa (ze_u1 n b pr T S k p) x j := fun x j c1 c2 => by rw [zw_pt_a, if_neg c1, zw_pt_a, if_neg c2]; rfl
        refine zw_i_k k h rfl rfl ⟨Y, hY, by show zw_dr (zWx S) = nI Y; rw [eX]; exact eY⟩ rfl rfl (fun j hj x => ?_) (fun _ => ⟨f, t, f, s', 0, g, ?_, ?_, ?_, ?_, ?_, ?_, bf, bt_, bf, hs', by omega, bg, ab, fun _ => ab, fun z => absurd z (by omega)⟩)
        · rw [d0 _ _ (by omega) (by omega), a0 _ _ (by omega) (by omega)]
        · rw [d0 _ _ (by omega) (by omega)]; exact f0
        · rw [d0 _ _ (by omega) (by omega), a0 _ _ (by omega) (by omega)]; exact e1
        · rw [zw_pt_a, if_pos ⟨rfl, rfl⟩]; exact f0
        · rw [zw_pt_a, if_neg (by omega), zw_pt_a, if_pos ⟨rfl, rfl⟩]; exact es'
        · rw [d0 _ _ (by omega) (by omega), a0 _ _ (by omega) (by omega), h0]; rfl
        · rw [d0 _ _ (by omega) (by omega), a0 _ _ (by omega) (by omega)]; exact e5
      · show zWn (ze_uf wr (ze_u1 n b pr T S k p) k) = zWn S
        unfold ze_uf ze_wr
        split <;> rfl
  · next hne => exact ⟨hi hne, rfl⟩
theorem ze_ds_of {n : Nat} {b : Nat → Int32} {S : zW} {k : Nat} (hw : zt_wf n b) (h : zw_i n b S) (hk : k < zWn S) (h1 : zWa S 4 k = 1) : ∃ a f, zWa S 2 k = nI a ∧ zWa S 0 k = nI f ∧ a < n ∧ f < n ∧ zt_ab b a f = true ∧ ze_ds b S k = zt_dn b a f ∧ zt_dn b a f < n := by
  have hn := hw.1
  obtain ⟨f, t, a, s, hh, g, e0, e1, e2, e3, e4, e5, bf, bt_, ba, bs, bh, bg, ab1, ab2, ab3⟩ := h.2.2.2.1 k hk
  have hh0 : hh = 1 := by
    rw [e4] at h1
    exact (nI_eq (b := 1) (by omega) (by decide)).mp h1
  have hab := ab3 hh0
  exact ⟨a, f, e2, e0, ba, bf, hab, by unfold ze_ds; rw [e2, e0, nI_clamp (by omega), nI_clamp (by omega)], (zt_dn_spec hw ba f bf hab).1⟩
theorem zt_dn_ab {n : Nat} {b : Nat → Int32} (h : zt_wf n b) {p : Nat} (hp : p < n) : ∀ q, q < n → zt_ab b p q = true → zt_dn b p q = q ∨ zt_ab b (zt_dn b p q) q = true := by
  intro q
  induction q using Nat.strongRecOn with
  | _ q ih =>
    intro hq ha
    rcases h.at hq with e | ⟨j, h1, h2, e⟩
    · rw [zt_ab_none e] at ha; cases ha
    · have hn := h.1
      have st : zt_dn b p q = if b q = nI p then q else zt_dn b p j := by
        unfold zt_dn
        rw [zt_dnf]
        by_cases c : b q = nI p
        · rw [if_pos c, if_pos c]
        · rw [if_neg c, if_neg c, e, nI_clamp (by omega)]
          have hab : zt_ab b p j = true := by
            rw [zt_ab_boss h hq h1 e hp] at ha
            rcases Bool.or_eq_true _ _ |>.mp ha with z | z
            · exact absurd (by rw [e, of_decide_eq_true z]) c
            · exact z
          exact zt_dnf_ge h hp j q (j + 1) h2 hab h1 (by omega)
      rw [st]
      split
      · exact Or.inl rfl
      · next c =>
        have hab : zt_ab b p j = true := by
          rw [zt_ab_boss h hq h1 e hp] at ha
          rcases Bool.or_eq_true _ _ |>.mp ha with z | z
          · exact absurd (by rw [e, of_decide_eq_true z]) c
          · exact z
        right
        have hd := zt_dn_spec h hp j h2 hab
        rw [zt_ab_boss h hq h1 e hd.1]
        rcases ih j h1 h2 hab with z | z
        · rw [z]; simp
        · rw [z]; simp
theorem ze_dn_i {wr : Bool} {n : Nat} {b pr : Nat → Int32} {T : Nat → Option zD} {S : zW} {k : Nat} (hw : zt_wf n b) (h : zw_i n b S) (hk : k < zWn S) (h1 : zWa S 4 k = 1) : zw_i n b (ze_dn wr n b pr T S k).1 ∧ zWn (ze_dn wr n b pr T S k).1 = zWn S := by
  have hn := hw.1
  obtain ⟨a, f0, ea, ef, ba, bf0, hab, eds, hdl⟩ := ze_ds_of hw h hk h1
  obtain ⟨f, t, a', s, hh, g, e0, e1, e2, e3, e4, e5, bf, bt_, ba', bs, bh, bg, ab1, ab2, ab3⟩ := h.2.2.2.1 k hk
  obtain rfl : f = f0 := (nI_eq (by omega) (by omega)).mp (e0.symm.trans ef)
  have hsy := ze_sy_in n b T 2 (ze_nm b pr S k (zt_dn b a f))
  have top : zq_top 2 = 9999 := rfl
  rw [top] at hsy
  obtain ⟨s', hs'⟩ : ∃ s' : Nat, (ze_sy n b T 2 (ze_nm b pr S k (zt_dn b a f))).toNat = s' := ⟨_, rfl⟩
  have bs' : s' ≤ 9999 := by omega
  unfold ze_dn
  rw [eds]
  have a0 : ∀ x j, ¬ (x = 2 ∧ j = k) → ¬ (x = 3 ∧ j = k) → zWa (ze_d1 n b pr T S k (zt_dn b a f)) x j = zWa S x j := fun x j c1 c2 => by
    unfold ze_d1; rw [zw_pt_a, if_neg c1, zw_pt_a, if_neg c2]
  have a2 : zWa (ze_d1 n b pr T S k (zt_dn b a f)) 2 k = nI (zt_dn b a f) := by unfold ze_d1; rw [zw_pt_a, if_pos ⟨rfl, rfl⟩]
  have a3 : zWa (ze_d1 n b pr T S k (zt_dn b a f)) 3 k = nI s' := by unfold ze_d1; rw [zw_pt_a, if_neg (by omega), zw_pt_a, if_pos ⟨rfl, rfl⟩, hs']
  split
  · next c =>
    refine ⟨?_, ?_⟩
    · show zw_i n b (ze_wr wr (zw_pt (ze_d1 n b pr T S k (zt_dn b a f)) 4 k 2) k 2)
      refine ze_wr_i (w := 2) ?_ hk (by decide)
      have d0 : ∀ x j, ¬ (x = 4 ∧ j = k) → zWa (zw_pt (ze_d1 n b pr T S k (zt_dn b a f)) 4 k 2) x j = zWa (ze_d1 n b pr T S k (zt_dn b a f)) x j := fun x j c => by rw [zw_pt_a, if_neg c]
      refine zw_i_k k h rfl rfl h.2.2.1 rfl rfl (fun j hj x => ?_) (fun _ => ⟨f, t, zt_dn b a f, s', 2, g, ?_, ?_, ?_, ?_, ?_, ?_, bf, bt_, hdl, bs', by omega, bg, ab1, fun z => absurd z (by omega), fun z => absurd z (by omega)⟩)
      · rw [d0 _ _ (by omega), a0 _ _ (by omega) (by omega)]
      · rw [d0 _ _ (by omega), a0 _ _ (by omega) (by omega)]; exact e0
      · rw [d0 _ _ (by omega), a0 _ _ (by omega) (by omega)]; exact e1
      · rw [d0 _ _ (by omega)]; exact a2
      · rw [d0 _ _ (by omega)]; exact a3
      · rw [zw_pt_a, if_pos ⟨rfl, rfl⟩]; rfl
      · rw [d0 _ _ (by omega), a0 _ _ (by omega) (by omega)]; exact e5
    · show zWn (ze_wr wr _ k 2) = zWn S
      unfold ze_wr
      split <;> rfl
  · next c =>
    refine ⟨?_, rfl⟩
    have nd : zt_ab b (zt_dn b a f) f = true := by
      rcases zt_dn_ab hw ba f bf hab with z | z
      · exact absurd (by rw [z]; exact e0.symm) c
      · exact z
    refine zw_i_k k h rfl rfl h.2.2.1 rfl rfl (fun j hj x => ?_) (fun _ => ⟨f, t, zt_dn b a f, s', 1, g, ?_, ?_, a2, a3, ?_, ?_, bf, bt_, hdl, bs', by omega, bg, ab1, fun z => absurd z (by omega), fun _ => nd⟩)
    · rw [a0 _ _ (by omega) (by omega)]
    · rw [a0 _ _ (by omega) (by omega)]; exact e0
    · rw [a0 _ _ (by omega) (by omega)]; exact e1
    · rw [a0 _ _ (by omega) (by omega), h1]; rfl
    · rw [a0 _ _ (by omega) (by omega)]; exact e5
theorem zw_mv_h {n : Nat} {b : Nat → Int32} {S : zW} {k : Nat} (h : zw_i n b S) (hk : k < zWn S) (hm : zw_mv S k = true) (h0 : ¬ zWa S 4 k = 0) : zWa S 4 k = 1 := by
  obtain ⟨f, t, a, s, hh, g, e0, e1, e2, e3, e4, e5, bf, bt_, ba, bs, bh, bg, ab1, ab2, ab3⟩ := h.2.2.2.1 k hk
  unfold zw_mv at hm
  simp only [Bool.and_eq_true, decide_eq_true_eq] at hm
  have h2 := hm.1.1
  rcases (show hh = 0 ∨ hh = 1 ∨ hh = 2 by omega) with rfl | rfl | rfl
  · exact absurd e4 h0
  · exact e4
  · exact absurd e4 h2
theorem ze_st_i {wr : Bool} {n : Nat} {b pr : Nat → Int32} {T : Nat → Option zD} {S : zW} {k : Nat} (hw : zt_wf n b) (h : zw_i n b S) (hk : k < zWn S) : zw_i n b (ze_st wr n b pr T S k).1 ∧ zWn (ze_st wr n b pr T S k).1 = zWn S := by
  unfold ze_st
  split
  · next c =>
    split
    · next c0 => exact ze_up_i hw h hk c0
    · next c0 => exact ze_dn_i hw h hk (zw_mv_h h hk c c0)
  · exact ⟨h, rfl⟩
theorem ze_l1_i {wr : Bool} {n : Nat} {b pr : Nat → Int32} {T : Nat → Option zD} (hw : zt_wf n b) : ∀ (f k : Nat) (S : zW), zw_i n b S → k + f = zWn S → zw_i n b (ze_l1 wr n b pr T f k S).1 ∧ zWn (ze_l1 wr n b pr T f k S).1 = zWn S := by
  intro f
  induction f with
  | zero => intro k S h _; exact ⟨h, rfl⟩
  | succ f ih =>
    intro k S h hk
    obtain ⟨h1, h2⟩ := ze_st_i (wr := wr) (pr := pr) (T := T) hw h (k := k) (by omega)
    obtain ⟨h3, h4⟩ := ih (k + 1) _ h1 (by rw [h2]; omega)
    exact ⟨h3, h4.trans h2⟩
theorem ze_mg_i {wr : Bool} {n : Nat} {b : Nat → Int32} {S : zW} {k e : Nat} (h : zw_i n b S) (hk : k < e) (he : e < zWn S) : zw_i n b (ze_mg wr S k e) ∧ zWn (ze_mg wr S k e) = zWn S := by
  obtain ⟨f, t, a, s, hh, g, e0, e1, e2, e3, e4, e5, bf, bt_, ba, bs, bh, bg, ab1, ab2, ab3⟩ := h.2.2.2.1 k (by omega)
  obtain ⟨f', t', a', s', hh', g', e0', e1', e2', e3', e4', e5', bf', bt', ba', bs', bh', bg', ab1', ab2', ab3'⟩ := h.2.2.2.1 e he
  refine ⟨?_, ?_⟩
  · unfold ze_mg
    refine ze_wr_i (w := 3) ?_ he (by decide)
    have hv : 0 ≤ ze_mv S k e := by
      unfold ze_mv
      rw [e3, e3', nI_toInt (by omega), nI_toInt (by omega)]
      have p1 := Int.tdiv_nonneg (a := (s : Int)) (b := 2) (by omega) (by omega)
      have p2 := Int.tdiv_nonneg (a := (s' : Int)) (b := 2) (by omega) (by omega)
      split <;> omega
    obtain ⟨z, hz, ez⟩ := ze_mn_of hv
    have i1 : zw_i n b (zw_pt S 3 k (ze_mn (ze_mv S k e))) := zw_i_k k h rfl rfl h.2.2.1 rfl rfl (fun j hj x => by rw [zw_pt_a, if_neg (by omega)]) (fun _ => ⟨f, t, a, z, hh, g, by rw [zw_pt_a, if_neg (by omega)]; exact e0, by rw [zw_pt_a, if_neg (by omega)]; exact e1, by rw [zw_pt_a, if_neg (by omega)]; exact e2, by rw [zw_pt_a, if_pos ⟨rfl, rfl⟩]; exact ez, by rw [zw_pt_a, if_neg (by omega)]; exact e4, by rw [zw_pt_a, if_neg (by omega)]; exact e5, bf, bt_, ba, hz, bh, bg, ab1, ab2, ab3⟩)
    have d0 : ∀ x j, j = e → x ≠ 3 → x ≠ 4 → zWa (zw_pt (zw_pt (zw_pt S 3 k (ze_mn (ze_mv S k e))) 3 e 0) 4 e 2) x j = zWa S x j := fun x j c c2 c3 => by rw [zw_pt_a, if_neg (by omega), zw_pt_a, if_neg (by omega), zw_pt_a, if_neg (by omega)]
    refine zw_i_k e i1 rfl rfl h.2.2.1 rfl rfl (fun j hj x => by rw [zw_pt_a, if_neg (by omega), zw_pt_a, if_neg (by omega)]) (fun _ => ⟨f', t', a', 0, 2, g', ?_, ?_, ?_, ?_, ?_, ?_, bf', bt', ba', by omega, by omega, bg', ab1', fun z => absurd z (by omega), fun z => absurd z (by omega)⟩)
    · rw [d0 _ _ rfl (by decide) (by decide)]; exact e0'
    · rw [d0 _ _ rfl (by decide) (by decide)]; exact e1'
    · rw [d0 _ _ rfl (by decide) (by decide)]; exact e2'
    · rw [zw_pt_a, if_neg (by omega), zw_pt_a, if_pos ⟨rfl, rfl⟩]; rfl
    · rw [zw_pt_a, if_pos ⟨rfl, rfl⟩]; rfl
    · rw [d0 _ _ rfl (by decide) (by decide)]; exact e5'
  · unfold ze_mg ze_wr
    split <;> rfl
theorem ze_l3_i {wr : Bool} {n k : Nat} {b : Nat → Int32} : ∀ (f e : Nat) (S : zW), zw_i n b S → k < e → e + f = zWn S → zw_i n b (ze_l3 wr k f e S).1 ∧ zWn (ze_l3 wr k f e S).1 = zWn S := by
  intro f
  induction f with
  | zero => intro e S h _ _; exact ⟨h, rfl⟩
  | succ f ih =>
    intro e S h hk he
    simp only [ze_l3]
    split
    · obtain ⟨h1, h2⟩ := ze_mg_i (wr := wr) h hk (by omega)
      obtain ⟨h3, h4⟩ := ih (e + 1) _ h1 (by omega) (by rw [h2]; omega)
      exact ⟨h3, h4.trans h2⟩
    · exact ih (e + 1) S h (by omega) (by omega)
theorem ze_l2_i {wr : Bool} {n m : Nat} {b : Nat → Int32} : ∀ (f k : Nat) (S : zW), zw_i n b S → m = zWn S → k + f = m → zw_i n b (ze_l2 wr m f k S).1 ∧ zWn (ze_l2 wr m f k S).1 = zWn S := by
  intro f
  induction f with
  | zero => intro k S h _ _; exact ⟨h, rfl⟩
  | succ f ih =>
    intro k S h hm hk
    obtain ⟨h1, h2⟩ := ze_l3_i (wr := wr) (k := k) (m - (k + 1)) (k + 1) S h (by omega) (by omega)
    obtain ⟨h3, h4⟩ := ih (k + 1) _ h1 (by rw [h2]; exact hm) (by omega)
    exact ⟨h3, h4.trans h2⟩
theorem ze_p1_i {wr : Bool} {n : Nat} {b pr : Nat → Int32} {T : Nat → Option zD} {S : zW} (hw : zt_wf n b) (h : zw_i n b S) : zw_i n b (ze_p1 wr n b pr T S).1 ∧ zWn (ze_p1 wr n b pr T S).1 = zWn S := ze_l1_i hw _ 0 S h (by omega)
theorem ze_p2_i {wr : Bool} {n : Nat} {b pr : Nat → Int32} {T : Nat → Option zD} {S : zW} (hw : zt_wf n b) (h : zw_i n b S) : zw_i n b (ze_p2 wr n b pr T S).1 ∧ zWn (ze_p2 wr n b pr T S).1 = zWn S := by
  obtain ⟨h1, h2⟩ := ze_p1_i (wr := wr) (pr := pr) (T := T) hw h
  obtain ⟨h3, h4⟩ := ze_l2_i (wr := wr) (m := zWn S) (zWn S) 0 _ h1 h2.symm (by omega)
  exact ⟨h3, h4.trans h2⟩
theorem ze_st_d (wr : Bool) (n : Nat) (b pr : Nat → Int32) (T : Nat → Option zD) (S : zW) (k : Nat) : zWd (ze_st wr n b pr T S k).1 = zWd S := by
  unfold ze_st
  split
  · split
    · unfold ze_up
      split
      · split
        · show zWd (ze_us wr _ k) = _
          unfold ze_us ze_wr; split <;> rfl
        · show zWd (ze_uf wr _ k) = _
          unfold ze_uf ze_wr; split <;> rfl
      · rfl
    · unfold ze_dn
      split
      · show zWd (ze_wr wr _ k 2) = _
        unfold ze_wr; split <;> rfl
      · rfl
  · rfl
theorem ze_l1_d (wr : Bool) (n : Nat) (b pr : Nat → Int32) (T : Nat → Option zD) : ∀ (f k : Nat) (S : zW), zWd (ze_l1 wr n b pr T f k S).1 = zWd S := by
  intro f
  induction f with
  | zero => intro k S; rfl
  | succ f ih => intro k S; exact (ih (k + 1) _).trans (ze_st_d wr n b pr T S k)
theorem ze_l3_d (wr : Bool) (k : Nat) : ∀ (f e : Nat) (S : zW), zWd (ze_l3 wr k f e S).1 = zWd S := by
  intro f
  induction f with
  | zero => intro e S; rfl
  | succ f ih =>
    intro e S
    simp only [ze_l3]
    split
    · rw [ih]; unfold ze_mg ze_wr; split <;> rfl
    · exact ih _ _
theorem ze_l2_d (wr : Bool) (m : Nat) : ∀ (f k : Nat) (S : zW), zWd (ze_l2 wr m f k S).1 = zWd S := by
  intro f
  induction f with
  | zero => intro k S; rfl
  | succ f ih => intro k S; exact (ih (k + 1) _).trans (ze_l3_d wr k _ _ S)
theorem ze_ps_d (wr : Bool) (n : Nat) (b pr : Nat → Int32) (T : Nat → Option zD) (S : zW) : zWd (ze_ps wr n b pr T S) = zWd S + 1 := by
  show zWd (ze_p2 wr n b pr T S).1 + 1 = _
  rw [show zWd (ze_p2 wr n b pr T S).1 = zWd S from (ze_l2_d _ _ _ _ _).trans (ze_l1_d _ _ _ _ _ _ _ _)]
theorem ze_ps_i {wr : Bool} {n : Nat} {b pr : Nat → Int32} {T : Nat → Option zD} {S : zW} {dd : Nat} (hw : zt_wf n b) (h : zw_i n b S) (hd : zWd S = nI dd) (hdd : dd < 9999) : zw_i n b (ze_ps wr n b pr T S) ∧ zWn (ze_ps wr n b pr T S) = zWn S := by
  obtain ⟨h1, h2⟩ := ze_p2_i (wr := wr) (pr := pr) (T := T) hw h
  refine ⟨⟨h1.1, ⟨dd + 1, by omega, by rw [ze_ps_d, hd, nI_1]⟩, h1.2.2.1, h1.2.2.2.1, h1.2.2.2.2⟩, h2⟩
