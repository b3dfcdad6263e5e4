/-! ===== feed, text ===== -/
theorem zy_b_lt (x : Int32) : ∃ b, b < 256 ∧ x &&& 255 = nI b := by
  refine ⟨(x &&& 255).toBitVec.toNat, ?_, ?_⟩
  · rw [Int32.toBitVec_and, BitVec.toNat_and]
    exact Nat.lt_of_le_of_lt Nat.and_le_right (by decide)
  · apply Int32.toBitVec_inj.mp
    apply BitVec.eq_of_toNat_eq
    rw [Int32.toBitVec_and, BitVec.toNat_and]
    have h : x.toBitVec.toNat &&& (255 : Int32).toBitVec.toNat < 256 := Nat.lt_of_le_of_lt Nat.and_le_right (by decide)
    generalize x.toBitVec.toNat &&& (255 : Int32).toBitVec.toNat = b at *
    show b = (BitVec.ofNat 32 b).toNat
    rw [BitVec.toNat_ofNat, Nat.mod_eq_of_lt (by omega)]
theorem zy_fd_at {p o f : Nat} (hp : p ≠ o) : ∀ (xs : List Int32) (M : zm_M) (t j : Nat), (zy_fd p o f M t xs).1 p j = if t ≤ j ∧ j < t + xs.length then xs.getD (j - t) 0 else M.1 p j := by
  intro xs
  induction xs with
  | nil => intro M t j; rw [if_neg (by simp only [List.length_nil]; omega)]; rfl
  | cons x xs ih =>
    intro M t j
    simp only [zy_fd]
    rw [ih]
    by_cases c1 : t + 1 ≤ j ∧ j < t + 1 + xs.length
    · rw [if_pos c1, if_pos (by simp only [List.length_cons]; omega), show j - t = (j - (t + 1)) + 1 by omega]; rfl
    · rw [if_neg c1, zm_wi_other hp, zm_wi_same]
      by_cases c2 : j = t
      · subst c2
        rw [if_pos rfl, if_pos (by simp only [List.length_cons]; omega), Nat.sub_self]; rfl
      · rw [if_neg c2, if_neg (by simp only [List.length_cons]; omega)]
theorem zy_fd_o {p o f : Nat} : ∀ (xs : List Int32) (M : zm_M) (t q : Nat), q ≠ p → q ≠ o → (zy_fd p o f M t xs).1 q = M.1 q := by
  intro xs
  induction xs with
  | nil => intro M t q _ _; rfl
  | cons x xs ih =>
    intro M t q h1 h2
    simp only [zy_fd]
    rw [ih _ _ q h1 h2]
    funext j
    rw [zm_wi_other h2, zm_wi_other h1]
theorem zy_fd_f {p o f : Nat} (hp : p ≠ o) : ∀ (xs : List Int32) (M : zm_M) (t j : Nat), j ≠ f → (zy_fd p o f M t xs).1 o j = M.1 o j := by
  intro xs
  induction xs with
  | nil => intro M t j _; rfl
  | cons x xs ih =>
    intro M t j hj
    simp only [zy_fd]
    rw [ih _ _ j hj, zm_wi_same, if_neg hj, zm_wi_other (fun z => hp z.symm)]
theorem zy_bs_in (v : Int32) : ∀ x, x ∈ zy_bs v → ∃ b, b < 256 ∧ x = nI b := by
  intro x hx
  unfold zy_bs at hx
  simp at hx
  rcases hx with rfl | rfl | rfl | rfl <;> exact zy_b_lt _
theorem zy_20_in (a b c d e : Int32) : ∀ i, i < 20 → ∃ y, y < 256 ∧ (zy_20 a b c d e).getD i 0 = nI y := by
  intro i hi
  have l : (zy_20 a b c d e).length = 20 := rfl
  have m : (zy_20 a b c d e).getD i 0 ∈ zy_20 a b c d e := by
    rw [List.getD_eq_getElem?_getD, List.getElem?_eq_getElem (by omega)]
    exact List.getElem_mem _
  generalize (zy_20 a b c d e).getD i 0 = x at m
  unfold zy_20 at m
  simp only [List.mem_append] at m
  rcases m with m | m | m | m | m <;> exact zy_bs_in _ x m
section
variable {E : zm_E}
theorem zL_feed (hE : zm_ok E.2.2.1 E.2.2.2.2) (a b c d e : Int32) : zL E mX11_feed mX12_feed [.int a, .int b, .int c, .int d, .int e] := by
  intro M ⟨TX, p, q, h⟩
  obtain ⟨tp, t, ⟨t1, t2, t3⟩, t4, ⟨t5, t6, t7, t8⟩⟩ := h.2.2.2.2.2.2.2.2.2.1
  refine c11_feed hE 98 t1 a b c d e t4 (fun z => ⟨_, rfl, ?_⟩) (fun z => ⟨_, rfl, ?_⟩)
  · exact c_feed hE 98 t1 a b c d e t6 (fun _ => ⟨rfl, TX, p, q, h⟩) (fun y => by omega)
  · have g1 : ∀ j, (zy_fd 765 15 9 M t (zy_20 a b c d e)).1 765 j = if t ≤ j ∧ j < t + 20 then (zy_20 a b c d e).getD (j - t) 0 else M.1 765 j := fun j => zy_fd_at (by decide) _ M t j
    have g2 : (zy_fd 765 15 9 M t (zy_20 a b c d e)).1 15 9 = nI (t + 20) := zy_fd_len _ M t t4
    have g3 : ∀ y, y ≠ 765 → y ≠ 15 → (zy_fd 765 15 9 M t (zy_20 a b c d e)).1 y = M.1 y := fun y u v => zy_fd_o _ M t y u v
    generalize zy_fd 765 15 9 M t (zy_20 a b c d e) = M1 at *
    refine c_feed hE 98 t1 a b c d e (by rw [g3 0 (by decide) (by decide)]; exact t6) (fun y => by omega) (fun _ => ⟨rfl, ?_⟩)
    have f1 : ∀ j, (zy_fd 4 0 4 M1 t (zy_20 a b c d e)).1 4 j = if t ≤ j ∧ j < t + 20 then (zy_20 a b c d e).getD (j - t) 0 else M1.1 4 j := fun j => zy_fd_at (by decide) _ M1 t j
    have f2 : (zy_fd 4 0 4 M1 t (zy_20 a b c d e)).1 0 4 = nI (t + 20) := zy_fd_len _ M1 t (by rw [g3 0 (by decide) (by decide)]; exact t6)
    have f3 : ∀ y, y ≠ 4 → y ≠ 0 → (zy_fd 4 0 4 M1 t (zy_20 a b c d e)).1 y = M1.1 y := fun y u v => zy_fd_o _ M1 t y u v
    have f4 : ∀ j, j ≠ 4 → (zy_fd 4 0 4 M1 t (zy_20 a b c d e)).1 0 j = M1.1 0 j := fun j hj => zy_fd_f (by decide) _ M1 t j hj
    generalize zy_fd 4 0 4 M1 t (zy_20 a b c d e) = M2 at *
    have cl : ∀ i, i < 20 → (zy_20 a b c d e).getD i 0 = nI ((zy_20 a b c d e).getD i 0).toNatClampNeg ∧ ((zy_20 a b c d e).getD i 0).toNatClampNeg < 256 := fun i hi => by
      obtain ⟨y, y1, y2⟩ := zy_20_in a b c d e i hi
      rw [y2, nI_clamp (by omega)]
      exact ⟨rfl, y1⟩
    refine zG_t h (fun y u v w x => by rw [f3 y v u, g3 y x w]) (fun j hj => by rw [f4 j hj, g3 0 (by decide) (by decide)]) ⟨fun j => if t ≤ j ∧ j < t + 20 then ((zy_20 a b c d e).getD (j - t) 0).toNatClampNeg else tp j, t + 20, ⟨z, fun i hi => ?_, fun i => ?_⟩, by rw [f3 15 (by decide) (by decide)]; exact g2, ⟨z, f2, fun i hi => ?_, fun i => ?_⟩⟩
    · rw [f3 765 (by decide) (by decide), g1]
      show _ = nI (if t ≤ i ∧ i < t + 20 then _ else _)
      by_cases k : t ≤ i ∧ i < t + 20
      · rw [if_pos k, if_pos k]; exact (cl _ (by omega)).1
      · rw [if_neg k, if_neg k]; exact t2 i (by omega)
    · show (if t ≤ i ∧ i < t + 20 then _ else _) < 256
      by_cases k : t ≤ i ∧ i < t + 20
      · rw [if_pos k]; exact (cl _ (by omega)).2
      · rw [if_neg k]; exact t3 i
    · rw [f1]
      show _ = nI (if t ≤ i ∧ i < t + 20 then _ else _)
      by_cases k : t ≤ i ∧ i < t + 20
      · rw [if_pos k, if_pos k]; exact (cl _ (by omega)).1
      · rw [if_neg k, if_neg k, g3 4 (by decide) (by decide)]; exact t7 i (by omega)
    · show (if t ≤ i ∧ i < t + 20 then _ else _) < 256
      by_cases k : t ≤ i ∧ i < t + 20
      · rw [if_pos k]; exact (cl _ (by omega)).2
      · rw [if_neg k]; exact t3 i
end
/-! a new text changes no older one -/
theorem zT_u {TX TX' : zTX} {p : zA} (hi : zGi TX p) (e : ∀ t, t < zAt p → TX' t = TX t) : zT TX' (zAy p) = zT TX (zAy p) := by
  funext w
  unfold zT
  rcases hi.2.2.1 with y | ⟨t, lt, y⟩
  · rw [if_pos y, if_pos y]
  · have t4 := hi.2.1
    rw [y, nI_clamp (by omega), e t lt]
theorem zGi_u {TX TX' : zTX} {p : zA} (hi : zGi TX p) (e : ∀ t, t < zAt p → TX' t = TX t) : zGi TX' p := ⟨by rw [zT_u hi e]; exact hi.1, hi.2.1, hi.2.2.1, fun t w lt hw => by rw [e t lt]; exact hi.2.2.2.1 t w lt hw, hi.2.2.2.2⟩
theorem zGc_u {TX TX' : zTX} {p : zA} {M : zm_M} (h : zGc TX p M) (e : ∀ t, t < zAt p → TX' t = TX t) : zGc TX' p M := ⟨h.1, h.2.1, fun t lt => by rw [e t lt]; exact h.2.2.1 t lt, h.2.2.2⟩
theorem zGm_u {TX TX' : zTX} {p : zA} {M : zm_M} (h : zGm TX p M) (e : ∀ t, t < zAt p → TX' t = TX t) : zGm TX' p M := ⟨h.1, h.2.1, fun t lt => by rw [e t lt]; exact h.2.2.1 t lt, h.2.2.2⟩
section
variable {E : zm_E}
theorem c_text4 (hE : zm_ok E.2.2.1 E.2.2.2.2) (d : Nat) {M : zm_M} (h1 : M.1 1 1 = nI 4) : zm_R E (d + 1) mX12_text [.ref 0] M (fun r M' => r = some (.int (-1)) ∧ M' = M) := by
  refine zX12_text hE rfl (fun G h0 h12 h32 h36 h53 => ?_)
  show G 0 [some (.ref 0)] [] M
  have h1 : M.1 1 1 = 4 := h1
  refine h0 _ _ _ ?_
  simp only [bX12_text_0, zw_0, zw_1, zs_aloadn0, zs_aloadNn0, zg_12_7, zs_iconst, zs_iaload, zs_icne, zs_ireturn, zn_int, zn_b0, zn_b1, zb_0, za_1, za_2, za_3, za_4, za_5, za_6, za_7, za_8, za_9, za_10, za_11, za_12, za_13, za_14, zu_0, zu_1, zu_2, zu_3, zu_4, zu_5, zu_6, zu_7, zu_8, zu_9, zu_10, zu_11, zu_12, zu_13, zu_14, zu_15, zu_16, zu_17, zu_18, zu_19, zu_20, zu_21, zu_22, zu_23, zu_24, zu_25, zu_26, zu_27, zu_28, zu_29, zu_30, zu_90, zv_0_9, zv_1_9, zv_2_9, zv_3_9, zv_4_9, zv_5_9, zv_6_9, zv_7_9, zv_8_9, zv_0_330, zv_0_4544, zv_1_4544, zv_2_4544, zv_3_4544, zv_4_4544, zv_5_4544, zv_6_4544, zv_7_4544, zv_8_4544, zv_9_4544, zv_10_4544, zv_11_4544, zv_12_4544, zv_13_4544, zv_14_4544, zv_15_4544, zv_16_4544, zv_17_4544, zv_18_4544, zv_19_4544, zv_20_4544, zv_21_4544, zv_22_4544, zv_23_4544, zv_24_4544, zv_25_4544, zv_26_4544, zv_27_4544, zv_28_4544, zv_29_4544, zv_0_11, zv_1_11, zv_0_160, true_and, and_true, Nat.reduceAdd, h1]
  exact ⟨fun h => absurd trivial h, fun _ => trivial⟩
theorem zL_text (hE : zm_ok E.2.2.1 E.2.2.2.2) (hW : zk_W E) : zL E mX11_text mX12_text [] := by
  intro M ⟨TX, p, q, h⟩
  obtain ⟨tp, n, t1, t2, t3⟩ := h.2.2.2.2.2.2.2.2.2.1
  have t4 : zAt p ≤ 4 := h.1.2.1
  refine c11_text hE hW 4 t1 t2 t4 h.2.2.1.2.1.1 (fun e => ⟨_, rfl, ?_⟩) (fun lt m nc X M1 hm m3 ok a0 a1 a2 cl lw H => ⟨_, rfl, ?_⟩) (fun lt m f j M1 hm m3 bad f1 a0 a1 a2 H => ⟨_, rfl, ?_⟩)
  · refine zm_R_mono (c_text4 hE 99 (by rw [h.2.2.2.1.2.1.1, e])) (fun r M2 h2 => ?_)
    obtain ⟨rfl, rfl⟩ := h2
    exact ⟨rfl, TX, p, q, h⟩
  · have k : ∀ x, x ≠ 15 → x ≠ 16 → ¬ (761 ≤ x ∧ x ≤ 764) → ¬ (41 + 9 * zAt p ≤ x ∧ x ≤ 41 + 9 * zAt p + 8) → M1.1 x = M.1 x := fun x a b c d => by
      rw [(H x (by simp; omega)).1]
      funext j
      rw [zm_wi_other b, zm_wi_other a]
    have k15 : M1.1 15 9 = 0 := by rw [(H 15 (by simp; omega)).1, zm_wi_other (by decide), zm_wi_same, if_pos rfl]
    have k16 : ∀ j, M1.1 16 j = if j = 6 then nI (zAt p + 1) else M.1 16 j := fun j => by rw [(H 16 (by simp; omega)).1, zm_wi_same, zm_wi_other (by decide)]
    have T3 : zk_tm tp n M1 := ⟨t3.1, by rw [k 0 (by omega) (by omega) (by omega) (by omega)]; exact t3.2.1, fun i hi => by rw [k 4 (by omega) (by omega) (by omega) (by omega)]; exact t3.2.2.1 i hi, t3.2.2.2⟩
    have k1 : M1.1 1 = M.1 1 := k 1 (by omega) (by omega) (by omega) (by omega)
    refine zm_R_mono (c_text hE 88 (m := m) t4 hm m3 T3 (by rw [k1]; exact h.2.2.2.1.2.1.1) (Fa := fun _ _ => False) (Fi := fun nc' X' => nc' = nc ∧ X' = X) (fun _ G hr => ok G _ _ hr ⟨rfl, rfl⟩)) (fun r M2 h2 => ?_)
    rcases h2 with ⟨z, _⟩ | ⟨_, f2, g2, g3, r4, h2⟩
    · omega
    rcases h2 with ⟨f, j, _, z, _⟩ | ⟨nc', X', ⟨rfl, rfl⟩, rfl, r5, r6, r1, cm, lm⟩
    · exact absurd z id
    refine ⟨rfl, ?_⟩
    have e2 : ∀ x, x ∉ [0, 1, 3, 5] → M2.1 x = M1.1 x := fun x hx => (f2 x hx).1
    have ke : ∀ x, x ∉ [0, 1, 3, 5] → x ≠ 15 → x ≠ 16 → ¬ (761 ≤ x ∧ x ≤ 764) → ¬ (41 + 9 * zAt p ≤ x ∧ x ≤ 41 + 9 * zAt p + 8) → M2.1 x = M.1 x := fun x z a b c d => (e2 x z).trans (k x a b c d)
    have m1 : ∀ y, y ≠ 1 → M2.1 1 y = M.1 1 y := fun y hy => by rw [r1, if_neg hy, k1]
    have k3 : M1.1 3 = M.1 3 := k 3 (by omega) (by omega) (by omega) (by omega)
    have k0 : M1.1 0 = M.1 0 := k 0 (by omega) (by omega) (by omega) (by omega)
    obtain ⟨h1, h2, h3, h4, h5, h6, h7, h8, h9, h10, h11⟩ := h
    have hs := h1.1.1.2.2.1.1
    have hH := fun i hi => (h1.1.1.2.2.2 i hi).1
    have eT : ∀ s, s < zAt p → (fun s => if s = zAt p then (nc', X') else TX s : zTX) s = TX s := fun s hs => if_neg (by omega)
    have eN : (fun s => if s = zAt p then (nc', X') else TX s : zTX) (zAt p) = (nc', X') := if_pos rfl
    generalize (fun s => if s = zAt p then (nc', X') else TX s : zTX) = TX' at eT eN
    have n8 : zAn p ≤ 8 := h1.2.2.2.2.1
    have a8 : zAk p ≤ 8 := h1.2.2.2.2.2.1
    have gi0 := zGi_u h1 eT
    have gi : zGi TX' (p.1, p.2.1, zAt p + 1, p.2.2.2) := ⟨gi0.1, by show zAt p + 1 ≤ 4; omega, gi0.2.2.1.imp id (fun ⟨s, a, b⟩ => ⟨s, by show s < zAt p + 1; omega, b⟩), fun s w hs hw => by
      have hs : s < zAt p + 1 := hs
      by_cases c : s = zAt p
      · rw [c, eN]; exact (lm w (by omega)).2
      · exact gi0.2.2.2.1 s w (by show s < zAt p; omega) hw, gi0.2.2.2.2⟩
    have gq := zGi_u h2 (fun s hs => eT s (by omega))
    refine ⟨TX', (p.1, p.2.1, zAt p + 1, p.2.2.2), q, gi, gq, ⟨zV1_f hs hH h3.1 (fun y hy => ke y (by simp; omega) (by omega) (by omega) (by omega) (by omega)) (by rw [e2 16 (by decide), k16]; rfl) (by rw [e2 16 (by decide), k16]; rfl), ⟨by rw [e2 16 (by decide), k16]; rfl, by rw [e2 16 (by decide), k16]; exact h3.2.1.2⟩, fun s hs => ?_, ⟨by rw [ke 35 (by decide) (by omega) (by omega) (by omega) (by omega)]; exact h3.2.2.2.1.1, fun i hi => by rw [ke 36 (by decide) (by omega) (by omega) (by omega) (by omega)]; exact h3.2.2.2.1.2 i hi⟩, fun i hi => by rw [ke 38 (by decide) (by omega) (by omega) (by omega) (by omega)]; exact h3.2.2.2.2.1 i hi, by rw [e2 16 (by decide), k16]; exact h3.2.2.2.2.2.1, fun i hi => by rw [ke 39 (by decide) (by omega) (by omega) (by omega) (by omega), ke 40 (by decide) (by omega) (by omega) (by omega) (by omega)]; exact h3.2.2.2.2.2.2 i hi⟩, ⟨zV2_f hs hH h4.1 (fun j hj => m1 j (by omega)), ⟨by rw [r1]; rfl, by rw [m1 2 (by decide)]; exact h4.2.1.2⟩, fun s hs => ?_, ⟨by rw [m1 4 (by decide)]; exact h4.2.2.2.1.1, fun i hi => by rw [m1 _ (by omega)]; exact h4.2.2.2.1.2 i hi⟩, fun i hi => by rw [m1 _ (by omega)]; exact h4.2.2.2.2.1 i hi, by rw [m1 5 (by decide)]; exact h4.2.2.2.2.2.1, fun i hi => by rw [m1 _ (by omega), m1 _ (by omega)]; exact h4.2.2.2.2.2.2 i hi⟩, zGk_e gq (zGc_u h5 (fun s hs => eT s (by omega))) (fun x a b => ke x (by simp; omega) (by omega) (by omega) (by omega) (by omega)), zGl_e gq (zGm_u h6 (fun s hs => eT s (by omega))) (ke 2 (by decide) (by omega) (by omega) (by omega) (by omega)) (fun j hj => by rw [g3 j (by omega), k3]), by show zAt q ≤ zAt p + 1; omega, zN_e h8 (ke 749 (by decide) (by omega) (by omega) (by omega) (by omega)), by rw [g2 23 (by decide), k0]; exact h9, ⟨tp, 0, ⟨by decide, fun i hi => absurd hi (Nat.not_lt_zero i), t1.2.2⟩, by rw [e2 15 (by decide)]; exact k15, ⟨by decide, r4, fun i hi => absurd hi (Nat.not_lt_zero i), t1.2.2⟩⟩, Or.inr ⟨by rw [e2 761 (by decide)]; exact a0, by rw [e2 761 (by decide), a1, r5], by rw [e2 761 (by decide), a2, r6]⟩⟩
    · have hs : s < zAt p + 1 := hs
      by_cases c : s = zAt p
      · rw [c, eN]
        refine ⟨zl_cl_c cl (fun j hj => e2 _ (by simp; omega)), fun w hw => zl_law_c (lw w hw) (fun j _ _ => e2 _ (by simp; omega))⟩
      · rw [eT s (by omega)]
        have o := h3.2.2.1 s (by omega)
        exact ⟨zl_cl_c o.1 (fun j hj => ke _ (by simp; omega) (by omega) (by omega) (by omega) (by omega)), fun w hw => zl_law_c (o.2 w hw) (fun j _ _ => ke _ (by simp; omega) (by omega) (by omega) (by omega) (by omega))⟩
    · have hs : s < zAt p + 1 := hs
      by_cases c : s = zAt p
      · rw [c, eN]
        exact ⟨cm, fun w hw => (lm w (by omega)).1⟩
      · rw [eT s (by omega)]
        exact zX2_e h4.2.2.1 (fun j hj => by rw [g3 j (by omega), k3]) s (by omega)
  · have k : ∀ x, x ≠ 15 → ¬ (761 ≤ x ∧ x ≤ 764) → ¬ (41 + 9 * zAt p ≤ x ∧ x ≤ 41 + 9 * zAt p + 8) → M1.1 x = M.1 x := fun x a c d => by
      rw [(H x (by simp; omega)).1]
      funext j
      rw [zm_wi_other a]
    have k15 : M1.1 15 9 = 0 := by rw [(H 15 (by simp; omega)).1, zm_wi_same, if_pos rfl]
    have T3 : zk_tm tp n M1 := ⟨t3.1, by rw [k 0 (by omega) (by omega) (by omega)]; exact t3.2.1, fun i hi => by rw [k 4 (by omega) (by omega) (by omega)]; exact t3.2.2.1 i hi, t3.2.2.2⟩
    have k1 : M1.1 1 = M.1 1 := k 1 (by omega) (by omega) (by omega)
    refine zm_R_mono (c_text hE 88 (m := m) t4 hm m3 T3 (by rw [k1]; exact h.2.2.2.1.2.1.1) (Fa := fun f' j' => f' = f ∧ j' = j) (Fi := fun _ _ => False) (fun _ G hr => bad G _ _ hr ⟨rfl, rfl⟩)) (fun r M2 h2 => ?_)
    rcases h2 with ⟨z, _⟩ | ⟨_, f2, g2, g3, r4, h2⟩
    · omega
    rcases h2 with ⟨f', j', _, ⟨rfl, rfl⟩, rfl, r5, r6, r1⟩ | ⟨_, _, z, _⟩
    rotate_left
    · exact absurd z id
    refine ⟨rfl, ?_⟩
    have e2 : ∀ x, x ∉ [0, 1, 3, 5] → M2.1 x = M1.1 x := fun x hx => (f2 x hx).1
    have ke : ∀ x, x ∉ [0, 1, 3, 5] → x ≠ 15 → ¬ (761 ≤ x ∧ x ≤ 764) → ¬ (41 + 9 * zAt p ≤ x ∧ x ≤ 41 + 9 * zAt p + 8) → M2.1 x = M.1 x := fun x z a c d => (e2 x z).trans (k x a c d)
    have k3 : M1.1 3 = M.1 3 := k 3 (by omega) (by omega) (by omega)
    have k0 : M1.1 0 = M.1 0 := k 0 (by omega) (by omega) (by omega)
    obtain ⟨h1, h2, h3, h4, h5, h6, h7, h8, h9, h10, h11⟩ := h
    have hs := h1.1.1.2.2.1.1
    have hH := fun i hi => (h1.1.1.2.2.2 i hi).1
    refine ⟨TX, p, q, h1, h2, ⟨zV1_f hs hH h3.1 (fun y hy => ke y (by simp; omega) (by omega) (by omega) (by omega)) (by rw [ke 16 (by decide) (by omega) (by omega) (by omega)]) (by rw [ke 16 (by decide) (by omega) (by omega) (by omega)]), ⟨by rw [ke 16 (by decide) (by omega) (by omega) (by omega)]; exact h3.2.1.1, by rw [ke 16 (by decide) (by omega) (by omega) (by omega)]; exact h3.2.1.2⟩, fun s hs => ?_, ⟨by rw [ke 35 (by decide) (by omega) (by omega) (by omega)]; exact h3.2.2.2.1.1, fun i hi => by rw [ke 36 (by decide) (by omega) (by omega) (by omega)]; exact h3.2.2.2.1.2 i hi⟩, fun i hi => by rw [ke 38 (by decide) (by omega) (by omega) (by omega)]; exact h3.2.2.2.2.1 i hi, by rw [ke 16 (by decide) (by omega) (by omega) (by omega)]; exact h3.2.2.2.2.2.1, fun i hi => by rw [ke 39 (by decide) (by omega) (by omega) (by omega), ke 40 (by decide) (by omega) (by omega) (by omega)]; exact h3.2.2.2.2.2.2 i hi⟩, zGm_e h1 h4 (fun y _ => by rw [r1, k1]) (fun y hy => by rw [g3 y (by omega), k3]), zGk_e h2 h5 (fun x a b => ke x (by simp; omega) (by omega) (by omega) (by omega)), zGl_e h2 h6 (ke 2 (by decide) (by omega) (by omega) (by omega)) (fun y hy => by rw [g3 y (by omega), k3]), h7, zN_e h8 (ke 749 (by decide) (by omega) (by omega) (by omega)), by rw [g2 23 (by decide), k0]; exact h9, ⟨tp, 0, ⟨by decide, fun i hi => absurd hi (Nat.not_lt_zero i), t1.2.2⟩, by rw [e2 15 (by decide)]; exact k15, ⟨by decide, r4, fun i hi => absurd hi (Nat.not_lt_zero i), t1.2.2⟩⟩, Or.inr ⟨by rw [e2 761 (by decide)]; exact a0, by rw [e2 761 (by decide), a1, r5], by rw [e2 761 (by decide), a2, r6]⟩⟩
    have o := h3.2.2.1 s hs
    exact ⟨zl_cl_c o.1 (fun j hj => ke _ (by simp; omega) (by omega) (by omega) (by omega)), fun w hw => zl_law_c (o.2 w hw) (fun j _ _ => ke _ (by simp; omega) (by omega) (by omega) (by omega))⟩
end
