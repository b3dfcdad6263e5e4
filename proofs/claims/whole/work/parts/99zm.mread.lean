/-! ===== the reference: a text is read ===== -/
theorem zp_fnd_22 {o v : Nat} {nm : Nat → Int} {rk : Int → Int} {s t : zS} (h : zp_fnd o v nm rk s = some t) : o ≤ 22 := by
  rcases Nat.lt_or_ge 22 o with z | z
  · exfalso
    unfold zp_fnd at h
    rw [if_neg (by omega), if_neg (by omega), if_neg (by omega), if_neg (by omega), if_neg (by omega), if_neg (by omega), if_neg (by omega), if_neg (by omega), if_neg (by omega), if_neg (by omega)] at h
    cases h
  · exact z
theorem zp_ls_22 {nm : Nat → Int} {rk : Int → Int} : ∀ (cs : List (Nat × Nat)) (s t : zS), zp_ls nm rk cs s = some t → ∀ i, i < cs.length → (cs.getD i (0, 0)).1 ≤ 22 := by
  intro cs
  induction cs with
  | nil => intro s t _ i hi; exact absurd hi (by simp)
  | cons x cs ih =>
    intro s t h i hi
    simp only [zp_ls, Option.bind_eq_some_iff] at h
    obtain ⟨u, h1, h2⟩ := h
    cases i with
    | zero => exact zp_fnd_22 h1
    | succ i => exact ih u t h2 i (by simpa using hi)
theorem zp_run_ls {nm : Nat → Int} {rk : Int → Int} {co cv : Nat → Nat} : ∀ (cs : List (Nat × Nat)) (i0 : Nat) (s : zS), (∀ i, i < cs.length → co (i0 + i) = (cs.getD i (0, 0)).1 ∧ cv (i0 + i) = (cs.getD i (0, 0)).2) → zp_run co cv nm rk cs.length i0 s = zp_ls nm rk cs s := by
  intro cs
  induction cs with
  | nil => intro i0 s _; rfl
  | cons x cs ih =>
    intro i0 s h
    have h0 := h 0 (by simp)
    simp only [List.length_cons, zp_run, zp_ls]
    rw [Nat.add_zero] at h0
    rw [h0.1, h0.2]
    show (zp_fnd x.1 x.2 nm rk s).bind _ = (zp_fnd x.1 x.2 nm rk s).bind _
    cases zp_fnd x.1 x.2 nm rk s with
    | none => rfl
    | some u =>
      refine ih (i0 + 1) u (fun i hi => ?_)
      have := h (i + 1) (by simpa using hi)
      rw [show i0 + 1 + i = i0 + (i + 1) by omega]
      exact this
def zu_lw (M : zm_M) (t w nn c : Nat) (D : Option zD) : Prop := match D with
  | none => ∀ i, i < nn → ¬ M.1 3 (705 * t + 1 + 4 * i) = nI w
  | some D => zD_ok w D ∧ ∃ i i0 cs, i < nn ∧ M.1 3 (705 * t + 1 + 4 * i) = nI w ∧ (∀ j, j < i → ¬ M.1 3 (705 * t + 1 + 4 * j) = nI w) ∧ M.1 3 (705 * t + 1 + 4 * i + 1) = nI i0 ∧ M.1 3 (705 * t + 1 + 4 * i + 2) = nI (i0 + cs.length) ∧ i0 + cs.length ≤ c ∧ zh_cs (705 * t + 97 + 2 * i0) cs (M.1 3) ∧ zs_mn cs D
theorem zu_lw_m {M : zm_M} {t w nn c : Nat} {D : Option zD} (h : zu_lw M t w nn c D) (hn : M.1 3 (705 * t) = nI nn) (h24 : nn ≤ 24) (hc : c ≤ 300) : zl_m M t w D ∧ zDo w D := by
  cases D with
  | none => exact ⟨⟨nn, hn, h24, h⟩, fun f z => by cases z⟩
  | some D =>
    obtain ⟨ok, i, i0, cs, a1, a2, a3, a4, a5, a6, a7, a8⟩ := h
    have c22 := zp_ls_22 cs _ _ (a8 (fun _ => 0) (fun _ => 0) [] [] (fun _ _ => ⟨by decide, by decide⟩) (fun _ => ⟨by decide, by decide⟩))
    refine ⟨⟨nn, hn, h24, i, i0, i0 + cs.length, fun j => (cs.getD (j - i0) (0, 0)).1, fun j => (cs.getD (j - i0) (0, 0)).2, a1, by omega, a2, a3, a4, a5, fun j j1 j2 => ?_, by omega, fun nm rk vs ts p q => ?_⟩, fun f z => by cases z; exact ok⟩
    · have := a7 (j - i0) (by omega)
      rw [show 705 * t + 97 + 2 * i0 + 2 * (j - i0) = 705 * t + 97 + 2 * j by omega] at this
      exact ⟨this.1, this.2, c22 _ (by omega)⟩
    · rw [show i0 + cs.length - i0 = cs.length by omega, zp_run_ls cs i0 (vs, ts) (fun j hj => by rw [show i0 + j - i0 = j by omega]; exact ⟨rfl, rfl⟩)]
      exact a8 nm rk vs ts p q
def zu_S (tp : Nat → Nat) (n m t k nn c : Nat) (X : zt_X) (mk : Nat) (M : zm_M) : Prop := (zk_tm tp n M ∧ zk_at tp n (zk_st tp n k) M) ∧ k ≤ m ∧ M.1 0 12 = nI (705 * t) ∧ M.1 0 13 = nI c ∧ c ≤ k ∧ M.1 0 19 = nI mk ∧ mk < 8 ∧ (∀ w, w < 3 → mk.testBit w = (X.2.2.2.2 w).isSome) ∧ zl_cm M t nn X.1 X.2.1 X.2.2.1 X.2.2.2.1 ∧ ∀ w, w < 3 → zu_lw M t w nn c (X.2.2.2.2 w)
def zu_F (t : Nat) (M M' : zm_M) : Prop := zf [0, 3, 5] M M' ∧ zg 0 [7, 8, 9, 10, 12, 13, 14, 16, 17, 18, 19] M M' ∧ (∀ j, j < 705 * t ∨ 705 * t + 705 ≤ j → M'.1 3 j = M.1 3 j) ∧ ∀ j, j ≠ 11 → M'.2.1 0 j = M.2.1 0 j
theorem zu_F_refl {t : Nat} {M : zm_M} : zu_F t M M := ⟨zf_refl, zg_refl, fun _ _ => rfl, fun _ _ => rfl⟩
theorem zu_F_trans {t : Nat} {M M' M'' : zm_M} (h : zu_F t M M') (h2 : zu_F t M' M'') : zu_F t M M'' := ⟨zf_trans h.1 h2.1, zg_trans h.2.1 h2.2.1, fun j hj => (h2.2.2.1 j hj).trans (h.2.2.1 j hj), fun j hj => (h2.2.2.2 j hj).trans (h.2.2.2 j hj)⟩
theorem zu_F_33 {tp : Nat → Nat} {n t k nn w mk : Nat} {M M' : zm_M} (h : zu_33 tp n t k nn w mk M M') (hn : nn < 24) : zu_F t M M' := by
  obtain ⟨_, _, _, _, h5, h6, h7, h8⟩ := h
  exact ⟨zf_sub h6 (by simp), zg_sub h7 (by simp), fun j hj => by rw [h5, if_neg (by omega)], h8⟩
theorem zu_F_A {t nn : Nat} {M M' : zm_M} (h : zu_A (705 * t + 1 + 4 * nn) M M') (hn : nn < 24) : zu_F t M M' := ⟨zf_sub h.1 (by simp), zg_sub h.2.1 (by simp), fun j hj => h.2.2.1 j (by omega), h.2.2.2⟩
theorem zu_F_L {t c nn : Nat} {M M' : zm_M} (h : zu_L (705 * t) c (705 * t + 1 + 4 * nn) M M') (hn : nn < 24) : zu_F t M M' := ⟨h.1, zg_sub h.2.1 (by simp), fun j hj => h.2.2.1 j (by omega) (by omega) (by omega), h.2.2.2⟩
theorem zu_F_f {t : Nat} {M M' : zm_M} (h : zk_f M M') : zu_F t M M' := ⟨zf_sub h.1 (by simp), zg_sub h.2.1 (by simp), fun j _ => by rw [(h.1 3 (by decide)).1], h.2.2.1⟩
theorem zu_F_w {t : Nat} {v : Int32} {M : zm_M} : zu_F t M (zm_wi M 3 (705 * t) v) := ⟨zf_wi zf_refl (by decide), fun j _ => by rw [zm_wi_other (by decide)], fun j hj => by rw [zm_wi_same, if_neg (by omega)], fun _ _ => rfl⟩
/-- the next clause -/
theorem zu_next {tp : Nat → Nat} {n m t k k' nn c c' w mk : Nat} {X : zt_X} {D : zD} {V : Nat → Nat} {M M3 M4 M6 : zm_M} (hw : w < 9) (lt : nn < 24) (hS : zu_S tp n m t k nn c X mk M) (hnone : w ≤ 2 → X.2.2.2.2 w = none) (h3 : zu_33 tp n t k nn w mk M M3) (hkm : k' ≤ m) (hck : c' ≤ k') (hcc : c ≤ c') (a12 : M4.1 0 12 = nI (705 * t)) (a13 : M4.1 0 13 = nI c') (a19 : M4.1 0 19 = M3.1 0 19) (hfr : ∀ j, ¬ (705 * t + 1 + 4 * nn + 1 ≤ j ∧ j ≤ 705 * t + 1 + 4 * nn + 3) → j < 705 * t + 97 + 2 * c → M4.1 3 j = M3.1 3 j) (hy : zy_a (nI w) (nI (V (k + 1))) (nI (V (k + 1 + 2))) (nI (V (k + 1 + 4))) (M4.1 3 (705 * t + 1 + 4 * nn + 1)) (M4.1 3 (705 * t + 1 + 4 * nn + 2)) (M4.1 3 (705 * t + 1 + 4 * nn + 3))) (hlaw : w ≤ 2 → zD_ok w D ∧ ∃ cs, M4.1 3 (705 * t + 1 + 4 * nn + 1) = nI c ∧ M4.1 3 (705 * t + 1 + 4 * nn + 2) = nI (c + cs.length) ∧ c + cs.length ≤ c' ∧ zh_cs (705 * t + 97 + 2 * c) cs (M4.1 3) ∧ zs_mn cs D) (f6 : zk_f (zm_wi M4 3 (705 * t) (nI (nn + 1))) M6) (t6 : zk_tm tp n M6) (at6 : zk_at tp n (zk_st tp n (k' + 1)) M6) (hkm2 : k' + 1 ≤ m) : zu_S tp n m t (k' + 1) (nn + 1) c' (zt_u V nn w (k + 1) D X) (if w ≤ 2 then mk + 2 ^ w else mk) M6 := by
  obtain ⟨s1, s2, s3, s4, s5, s6, s7, s8, s9, s10⟩ := hS
  obtain ⟨u1, u2, u3, u4, u5, u6, u7, u8⟩ := h3
  have e3 : ∀ j, M6.1 3 j = if j = 705 * t then nI (nn + 1) else M4.1 3 j := fun j => by rw [(f6.1 3 (by decide)).1, zm_wi_same]
  have e0 : ∀ j, j ∉ [7, 8, 9, 10] → M6.1 0 j = M4.1 0 j := fun j hj => by rw [f6.2.1 j hj, zm_wi_other (by decide)]
  -- what stood there
  have old : ∀ j, j ≠ 705 * t → ¬ (705 * t + 1 + 4 * nn ≤ j ∧ j ≤ 705 * t + 1 + 4 * nn + 3) → j < 705 * t + 97 + 2 * c → M6.1 3 j = M.1 3 j := by
    intro j j1 j2 j3
    rw [e3, if_neg j1, hfr j (by omega) j3, u5, if_neg (by omega)]
  have kind : M6.1 3 (705 * t + 1 + 4 * nn) = nI w := by rw [e3, if_neg (by omega), hfr _ (by omega) (by omega), u5, if_pos rfl]
  have ne : ∀ x : Nat, x < 10 → w ≠ x → nI w ≠ nI x := fun x hx h z => h ((nI_eq (by omega) (by omega)).mp z)
  refine ⟨⟨t6, at6⟩, hkm2, ?_, ?_, by omega, ?_, ?_, fun v hv => ?_, ⟨?_, by omega, fun i hi => ⟨?_, ?_⟩⟩, fun v hv => ?_⟩
  · rw [e0 12 (by decide)]; exact a12
  · rw [e0 13 (by decide)]; exact a13
  · rw [e0 19 (by decide), a19]; exact u4
  · by_cases w2 : w ≤ 2
    · rw [if_pos w2]
      exact (zu_bt mk s7 w (by omega) (by rw [s8 w (by omega), hnone w2]; rfl)).1
    · rw [if_neg w2]; exact s7
  · show _ = Option.isSome (if v = w ∧ w ≤ 2 then some D else X.2.2.2.2 v)
    by_cases w2 : w ≤ 2
    · rw [if_pos w2, (zu_bt mk s7 w (by omega) (by rw [s8 w (by omega), hnone w2]; rfl)).2 v hv]
      by_cases e : v = w
      · rw [if_pos ⟨e, w2⟩, decide_eq_true e, Bool.true_or]; rfl
      · rw [if_neg (fun z => e z.1), decide_eq_false e, Bool.false_or]; exact s8 v hv
    · rw [if_neg w2, if_neg (fun z => w2 z.2)]; exact s8 v hv
  · rw [e3, if_pos rfl]
  · show _ = if i = nn then nI w else X.1 i
    by_cases e : i = nn
    · rw [if_pos e, e]; exact kind
    · rw [if_neg e, old _ (by omega) (by omega) (by omega)]; exact (s9.2.2 i (by omega)).1
  · show zy_a (if i = nn then nI w else X.1 i) (if i = nn then nI (V (k + 1)) else X.2.1 i) (if i = nn then nI (V (k + 1 + 2)) else X.2.2.1 i) (if i = nn then nI (V (k + 1 + 4)) else X.2.2.2.1 i) _ _ _
    by_cases e : i = nn
    · rw [if_pos e, if_pos e, if_pos e, if_pos e, e, e3, if_neg (by omega), e3, if_neg (by omega), e3, if_neg (by omega)]; exact hy
    · rw [if_neg e, if_neg e, if_neg e, if_neg e, old _ (by omega) (by omega) (by omega), old _ (by omega) (by omega) (by omega), old _ (by omega) (by omega) (by omega)]
      exact (s9.2.2 i (by omega)).2
  · show zu_lw M6 t v (nn + 1) c' (if v = w ∧ w ≤ 2 then some D else X.2.2.2.2 v)
    by_cases e : v = w
    · by_cases w2 : w ≤ 2
      · rw [if_pos ⟨e, w2⟩, e]
        obtain ⟨ok, cs, b1, b2, b3, b4, b5⟩ := hlaw w2
        have nn0 := s10 w (by omega)
        rw [hnone w2] at nn0
        refine ⟨ok, nn, c, cs, by omega, kind, fun j hj => ?_, ?_, ?_, b3, zh_cs_c b4 (fun j j1 j2 => by rw [e3, if_neg (by omega)]), b5⟩
        · rw [old _ (by omega) (by omega) (by omega)]; exact nn0 j hj
        · rw [e3, if_neg (by omega)]; exact b1
        · rw [e3, if_neg (by omega)]; exact b2
      · omega
    · rw [if_neg (fun z => e z.1)]
      have o := s10 v hv
      generalize X.2.2.2.2 v = Dv at o
      cases Dv with
      | none =>
        intro i hi
        by_cases e2 : i = nn
        · rw [e2, kind]; exact ne v (by omega) (fun z => e z.symm)
        · rw [old _ (by omega) (by omega) (by omega)]; exact o i (by omega)
      | some Dv =>
        obtain ⟨ok, i, i0, cs, a1, a2, a3, a4, a5, a6, a7, a8⟩ := o
        refine ⟨ok, i, i0, cs, by omega, ?_, fun j hj => ?_, ?_, ?_, by omega, zh_cs_c a7 (fun j j1 j2 => ?_), a8⟩
        · rw [old _ (by omega) (by omega) (by omega)]; exact a2
        · rw [old _ (by omega) (by omega) (by omega)]; exact a3 j hj
        · rw [old _ (by omega) (by omega) (by omega)]; exact a4
        · rw [old _ (by omega) (by omega) (by omega)]; exact a5
        · rw [old _ (by omega) (by omega) (by omega)]
