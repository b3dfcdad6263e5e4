/-! ===== the reference's sums as a pure machine: one step ===== -/
abbrev zs_X : Type := (Nat × List Nat × Nat × Bool × List (Nat × Nat)) ⊕ (Nat × Nat)
def zs_on : List Nat → Nat
  | [] => 0
  | c :: ws => if 40 ≤ c then c else zs_on ws
def zh_aa (ws : List Nat) : Bool := decide (zs_on ws = 42) && (decide (40 ≤ ws.headD 0) || decide (1 ≤ zs_tr ws ∧ zs_tr ws ≤ 3))
def zs_end (T : Nat → Nat) (k : Nat) (z : List Nat × Nat × List (Nat × Nat)) : zs_X :=
  match z.1 with
  | [] => .inl (k, [], z.2.1, true, z.2.2)
  | c :: us => if c = 41 then (if T k = 19 then .inl (k + 1, 4 :: us, z.2.1, false, z.2.2) else .inr (1, k)) else .inl (k, c :: us, z.2.1, true, z.2.2)
def zs_eo (T : Nat → Nat) (k : Nat) (ws : List Nat) (o : Nat) (cs : List (Nat × Nat)) : zs_X := zs_end T k (zs_se 7 ws o cs)
def zs_opn (k c : Nat) (ws : List Nat) (o : Nat) (cs : List (Nat × Nat)) : zs_X := if o = 8 then .inr (3, k) else .inl (k + 1, c :: ws, o + 1, false, cs)
def zs_beg (T V : Nat → Nat) (cl k : Nat) (ws : List Nat) (o : Nat) (cs : List (Nat × Nat)) : zs_X :=
  if T k = 41 ∧ 9999 < V k then .inr (2, k)
  else if (8 ≤ T k ∧ T k ≤ 16) ∧ ¬ (¬ (T k - 8 = 7 ∧ cl = 2) ∧ ¬ (T k - 8 = 8 ∧ ¬ cl = 0)) then .inr (5, k)
  else if T k = 41 then zs_eo T (k + 1) ws o (cs ++ [(0, V k)])
  else if 8 ≤ T k ∧ T k ≤ 16 then zs_eo T (k + 1) ws o (cs ++ [(1, T k - 8)])
  else if T k = 38 then zs_opn k 40 ws o cs
  else if T k = 35 then zs_opn k 5 ws o cs
  else if T k = 18 then zs_opn k 41 ws o cs
  else if T k = 20 then zs_opn k 2 ws o cs
  else if T k = 21 then zs_opn k 42 ws o cs
  else if T k = 27 ∧ zh_aa ws = true then zs_opn k 20 ws o cs
  else .inr (1, k)
def zs_bet (T : Nat → Nat) (k : Nat) (ws : List Nat) : Nat :=
  if T k = 34 then 6 else if T k = 35 then 7 else if T k = 36 then 8 else if T k = 37 then 9
  else if ¬ zs_on ws = 42 then 0
  else if zh_cm ws = false then (if 28 ≤ T k ∧ T k ≤ 33 then T k - 18 else 0)
  else if T k = 26 then 21 else if T k = 25 then 22 else 0
def zs_par (T : Nat → Nat) (k : Nat) (ws : List Nat) : Nat :=
  if zs_on ws = 40 then (if T k = 39 then 0 else 100)
  else if zs_on ws = 42 then (if T k = 22 ∧ zh_cm ws = true then 43 else 100)
  else if zs_on ws = 43 then (if T k = 23 then 44 else 100)
  else if zs_on ws = 44 then (if T k = 24 then 0 else 100)
  else 100
def zs_pu (k c : Nat) (z : List Nat × Nat × List (Nat × Nat)) : zs_X := .inl (k, c :: z.1, z.2.1, false, z.2.2)
def zs_cl (T : Nat → Nat) (k on pa : Nat) (z : List Nat × Nat × List (Nat × Nat)) : zs_X :=
  if pa = 0 then zs_eo T (k + 1) z.1.tail (z.2.1 - 1) (if on = 44 then z.2.2 ++ [(3, 0)] else z.2.2)
  else .inl (k + 1, pa :: z.1.tail, z.2.1, false, z.2.2)
def zs_beh (T : Nat → Nat) (k : Nat) (ws : List Nat) (o : Nat) (cs : List (Nat × Nat)) : zs_X :=
  if ¬ zs_bet T k ws = 0 then zs_pu (k + 1) (zs_bet T k ws) (zs_se (if zk_rk (zs_bet T k ws) = 4 then 5 else zk_rk (zs_bet T k ws)) ws o cs)
  else if zs_par T k ws = 100 then .inr (0, k)
  else zs_cl T k (zs_on ws) (zs_par T k ws) (zs_se 1 ws o cs)
/-! the memory behind a step -/
def zs_T (tp : Nat → Nat) (n k : Nat) : Nat := zk_w tp n (zk_st tp n k)
def zs_N (tp : Nat → Nat) (n k : Nat) : Nat := zk_nc tp (zk_en tp n (zk_st tp n k) - zk_st tp n k) (zk_st tp n k) 0
def zh_X (tp : Nat → Nat) (n m b c0 cl : Nat) (x : zs_X) (M : zm_M) (r : Option Value) (M' : zm_M) : Prop := zh_F b c0 M M' ∧ match x with
  | .inl (k, ws, o, wh, cs) => r = some (.int 0) ∧ zh_S tp n b c0 cl k ws o wh cs M' ∧ zs_V m c0 k ws o cs
  | .inr (f, k) => r = some (.int (if f = 0 then -1 else nI f)) ∧ zk_tm tp n M' ∧ zk_at tp n (zk_st tp n k) M' ∧ (f = 0 → M' = M)
theorem zh_S_f {tp : Nat → Nat} {n b c0 cl k k' : Nat} {ws : List Nat} {o : Nat} {wh : Bool} {cs : List (Nat × Nat)} {M M' : zm_M} (h : zh_S tp n b c0 cl k ws o wh cs M) (f : zk_f M M') (a : zk_at tp n (zk_st tp n k') M') : zh_S tp n b c0 cl k' ws o wh cs M' := by
  obtain ⟨s1, s2, s3, s4, s5, s6, s7, s8⟩ := h
  have g := f.2.1
  have e3 : M'.1 3 = M.1 3 := (f.1 3 (by decide)).1
  have e5 : M'.1 5 = M.1 5 := (f.1 5 (by decide)).1
  exact ⟨⟨zk_tm_f s1.1 f, a⟩, ⟨by rw [g 16 (by decide)]; exact s2.1, s2.2.1, by rw [e5]; exact s2.2.2⟩, by rw [g 17 (by decide)]; exact s3, by rw [g 18 (by decide)]; exact s4, by rw [g 12 (by decide)]; exact s5, by rw [g 13 (by decide)]; exact s6, by rw [g 14 (by decide)]; exact s7, by rw [e3]; exact s8⟩
theorem zs_T_lt {tp : Nat → Nat} {n m k : Nat} (hm : zk_st tp n m = n) (ht : ∀ j, tp j < 256) (hk : k ≤ m) (h : ¬ zs_T tp n k = 43) : k < m ∧ zk_st tp n k < n := by
  have e := (zk_stop (n := n) (s := zk_st tp n k) ht).2
  unfold zs_T at h
  rw [e] at h
  refine ⟨?_, by omega⟩
  rcases Nat.lt_or_ge k m with z | z
  · exact z
  · have : k = m := by omega
    subst this
    omega
theorem c_nx {E : zm_E} (hE : zm_ok E.2.2.1 E.2.2.2.2) (d : Nat) {tp : Nat → Nat} {n m b c0 cl k o : Nat} {ws : List Nat} {wh : Bool} {cs : List (Nat × Nat)} {M : zm_M} (hm : zk_st tp n m = n) (hk : k ≤ m) (hT : ¬ zs_T tp n k = 43) (hS : zh_S tp n b c0 cl k ws o wh cs M) {Q : Option Value → zm_M → Prop} (q : ∀ M', zh_S tp n b c0 cl (k + 1) ws o wh cs M' → zh_F b c0 M M' → Q none M') : zm_R E (d + 2) mX12_nextToken [.ref 0] M Q := by
  have l := zs_T_lt hm hS.1.1.2.2.2 hk hT
  refine c_nextToken hE d hS.1.1 hS.1.2.2.1 (zk_en_in l.2).2 (fun M1 a1 f1 => ?_)
  exact q M1 (zh_S_f hS f1 a1) (zh_F_f f1)
theorem zh_S_o {tp : Nat → Nat} {n b c0 cl k : Nat} {ws : List Nat} {o : Nat} {wh : Bool} {cs : List (Nat × Nat)} {M : zm_M} (h : zh_S tp n b c0 cl k ws o wh cs M) (o' : Nat) : zh_S tp n b c0 cl k ws o' wh cs (zm_wi M 0 17 (nI o')) := by
  obtain ⟨s1, s2, s3, s4, s5, s6, s7, s8⟩ := h
  refine ⟨zh_tk s1 (zh_F_0 (b := b) (c0 := c0) zh_F_refl (by decide)) (fun j hj => ?_) rfl, ⟨?_, s2.2.1, s2.2.2⟩, ?_, ?_, ?_, ?_, ?_, s8⟩
  · rw [zm_wi_same, if_neg (by simp at hj; omega)]
  · rw [zm_wi_same, if_neg (by decide)]; exact s2.1
  · rw [zm_wi_same, if_pos rfl]
  · rw [zm_wi_same, if_neg (by decide)]; exact s4
  · rw [zm_wi_same, if_neg (by decide)]; exact s5
  · rw [zm_wi_same, if_neg (by decide)]; exact s6
  · rw [zm_wi_same, if_neg (by decide)]; exact s7
theorem zh_S_wh {tp : Nat → Nat} {n b c0 cl k : Nat} {ws : List Nat} {o : Nat} {wh : Bool} {cs : List (Nat × Nat)} {M : zm_M} (h : zh_S tp n b c0 cl k ws o wh cs M) (w : Bool) : zh_S tp n b c0 cl k ws o w cs (zm_wi M 0 18 (zi_b w)) := by
  obtain ⟨s1, s2, s3, s4, s5, s6, s7, s8⟩ := h
  refine ⟨zh_tk s1 (zh_F_0 (b := b) (c0 := c0) zh_F_refl (by decide)) (fun j hj => ?_) rfl, ⟨?_, s2.2.1, s2.2.2⟩, ?_, ?_, ?_, ?_, ?_, s8⟩
  · rw [zm_wi_same, if_neg (by simp at hj; omega)]
  · rw [zm_wi_same, if_neg (by decide)]; exact s2.1
  · rw [zm_wi_same, if_neg (by decide)]; exact s3
  · rw [zm_wi_same, if_pos rfl]
  · rw [zm_wi_same, if_neg (by decide)]; exact s5
  · rw [zm_wi_same, if_neg (by decide)]; exact s6
  · rw [zm_wi_same, if_neg (by decide)]; exact s7
theorem zh_S_pop {tp : Nat → Nat} {n b c0 cl k c : Nat} {ws : List Nat} {o : Nat} {wh : Bool} {cs : List (Nat × Nat)} {M : zm_M} (h : zh_S tp n b c0 cl k (c :: ws) o wh cs M) : zh_S tp n b c0 cl k ws o wh cs (zm_wi M 0 16 (nI ws.length)) := by
  obtain ⟨s1, s2, s3, s4, s5, s6, s7, s8⟩ := h
  have l : ws.length + 1 ≤ 160 := s2.2.1
  refine ⟨zh_tk s1 (zh_F_0 (b := b) (c0 := c0) zh_F_refl (by decide)) (fun j hj => ?_) rfl, ⟨?_, by omega, s2.2.2.2.2⟩, ?_, ?_, ?_, ?_, ?_, s8⟩
  · rw [zm_wi_same, if_neg (by simp at hj; omega)]
  · rw [zm_wi_same, if_pos rfl]
  · rw [zm_wi_same, if_neg (by decide)]; exact s3
  · rw [zm_wi_same, if_neg (by decide)]; exact s4
  · rw [zm_wi_same, if_neg (by decide)]; exact s5
  · rw [zm_wi_same, if_neg (by decide)]; exact s6
  · rw [zm_wi_same, if_neg (by decide)]; exact s7
theorem zh_S_top {tp : Nat → Nat} {n b c0 cl k c : Nat} {ws : List Nat} {o : Nat} {wh : Bool} {cs : List (Nat × Nat)} {M : zm_M} (h : zh_S tp n b c0 cl k (c :: ws) o wh cs M) (c' : Nat) (hc : c' < 100) : zh_S tp n b c0 cl k (c' :: ws) o wh cs (zm_wi M 5 ws.length (nI c')) := by
  obtain ⟨s1, s2, s3, s4, s5, s6, s7, s8⟩ := h
  refine ⟨zh_tk s1 (zh_F_5 (b := b) (c0 := c0) zh_F_refl) (fun j hj => rfl) rfl, ⟨s2.1, s2.2.1, ?_, hc, ?_⟩, s3, s4, s5, s6, s7, s8⟩
  · rw [zm_wi_same, if_pos rfl]
  · exact zh_wc ws (M.1 5) _ s2.2.2.2.2 (fun i hi => by rw [zm_wi_same, if_neg (by omega)])
theorem zh_S_push {tp : Nat → Nat} {n b c0 cl k : Nat} {ws : List Nat} {o : Nat} {wh : Bool} {cs : List (Nat × Nat)} {M : zm_M} (h : zh_S tp n b c0 cl k ws o wh cs M) (hl : ws.length < 160) (c' : Nat) (hc : c' < 100) : zh_S tp n b c0 cl k (c' :: ws) o wh cs (zm_wi (zm_wi M 5 ws.length (nI c')) 0 16 (nI (ws.length + 1))) := by
  obtain ⟨s1, s2, s3, s4, s5, s6, s7, s8⟩ := h
  refine ⟨zh_tk s1 (zh_F_0 (b := b) (c0 := c0) (zh_F_5 zh_F_refl) (by decide)) (fun j hj => ?_) rfl, ⟨?_, by simp only [List.length_cons]; omega, ?_, hc, ?_⟩, ?_, ?_, ?_, ?_, ?_, s8⟩
  · rw [zm_wi_same, if_neg (by simp at hj; omega)]; rfl
  · rw [zm_wi_same, if_pos rfl]; rfl
  · rw [zm_wi_other (by decide), zm_wi_same, if_pos rfl]
  · exact zh_wc ws (M.1 5) _ s2.2.2 (fun i hi => by rw [zm_wi_other (by decide), zm_wi_same, if_neg (by omega)])
  · rw [zm_wi_same, if_neg (by decide)]; exact s3
  · rw [zm_wi_same, if_neg (by decide)]; exact s4
  · rw [zm_wi_same, if_neg (by decide)]; exact s5
  · rw [zm_wi_same, if_neg (by decide)]; exact s6
  · rw [zm_wi_same, if_neg (by decide)]; exact s7
theorem zh_S_emit {tp : Nat → Nat} {n b c0 cl k : Nat} {ws : List Nat} {o : Nat} {wh : Bool} {cs : List (Nat × Nat)} {M : zm_M} (h : zh_S tp n b c0 cl k ws o wh cs M) (hb : b + 97 + 2 * (c0 + cs.length) + 1 < b + 705) (x y : Nat) : zh_S tp n b c0 cl k ws o wh (cs ++ [(x, y)]) (zm_wi (zm_wi (zm_wi M 3 (b + 97 + 2 * (c0 + cs.length)) (nI x)) 3 (b + 97 + 2 * (c0 + cs.length) + 1) (nI y)) 0 13 (nI (c0 + cs.length + 1))) ∧ zh_F b c0 M (zm_wi (zm_wi (zm_wi M 3 (b + 97 + 2 * (c0 + cs.length)) (nI x)) 3 (b + 97 + 2 * (c0 + cs.length) + 1) (nI y)) 0 13 (nI (c0 + cs.length + 1))) := by
  obtain ⟨s1, s2, s3, s4, s5, s6, s7, s8⟩ := h
  have F : zh_F b c0 M (zm_wi (zm_wi (zm_wi M 3 (b + 97 + 2 * (c0 + cs.length)) (nI x)) 3 (b + 97 + 2 * (c0 + cs.length) + 1) (nI y)) 0 13 (nI (c0 + cs.length + 1))) := zh_F_0 (zh_F_3 (zh_F_3 zh_F_refl (by omega) (by omega)) (by omega) (by omega)) (by decide)
  have b0 : ∀ j, (zm_wi (zm_wi (zm_wi M 3 (b + 97 + 2 * (c0 + cs.length)) (nI x)) 3 (b + 97 + 2 * (c0 + cs.length) + 1) (nI y)) 0 13 (nI (c0 + cs.length + 1))).1 0 j = if j = 13 then nI (c0 + cs.length + 1) else M.1 0 j := by
    intro j
    rw [zm_wi_same]; rfl
  refine ⟨⟨zh_tk s1 F (fun j hj => ?_) rfl, ⟨by rw [b0]; exact s2.1, s2.2.1, s2.2.2⟩, by rw [b0]; exact s3, by rw [b0]; exact s4, by rw [b0]; exact s5, by rw [b0, if_pos rfl, List.length_append]; rfl, by rw [b0]; exact s7, ?_⟩, F⟩
  · rw [b0, if_neg (by simp at hj; omega)]
  · refine zh_cs_s (zh_cs_c s8 (fun j j1 j2 => ?_)) ?_ ?_
    · rw [zm_wi_other (by decide), zm_wi_same, if_neg (by omega), zm_wi_same, if_neg (by omega)]
    · rw [zm_wi_other (by decide), zm_wi_same, if_neg (by omega), zm_wi_same, if_pos (by omega)]
    · rw [zm_wi_other (by decide), zm_wi_same, if_pos (by omega)]
