/-! ===== what holds between calls: class and reference ===== -/
/-- a snapshot: office, ruling text, texts, pile, owes, added -/
abbrev zA : Type := zO × Int32 × Nat × (Nat × (Nat → Int32)) × (Nat → Int32) × (Nat × (Nat → Nat) × (Nat → Int32))
def zAV (p : zA) : zO := p.1
def zAy (p : zA) : Int32 := p.2.1
def zAt (p : zA) : Nat := p.2.2.1
def zAn (p : zA) : Nat := p.2.2.2.1.1
def zAp (p : zA) : Nat → Int32 := p.2.2.2.1.2
def zAo (p : zA) : Nat → Int32 := p.2.2.2.2.1
def zAk (p : zA) : Nat := p.2.2.2.2.2.1
def zAa (p : zA) : Nat → Nat := p.2.2.2.2.2.2.1
def zAb (p : zA) : Nat → Int32 := p.2.2.2.2.2.2.2
abbrev zTX : Type := Nat → Nat × zt_X
def zT (TX : zTX) (y : Int32) : Nat → Option zD := fun w => if y = -1 then none else (TX y.toNatClampNeg).2.2.2.2.2 w
def zGi (TX : zTX) (p : zA) : Prop := zOi (zT TX (zAy p)) (zAV p) ∧ zAt p ≤ 4 ∧ (zAy p = -1 ∨ ∃ t, t < zAt p ∧ zAy p = nI t) ∧ (∀ t w, t < zAt p → w ≤ 2 → zDo w ((TX t).2.2.2.2.2 w)) ∧ zAn p ≤ 8 ∧ zAk p ≤ 8 ∧ ∀ i, i < zAk p → zAa p i < zOn (zAV p)
def zV1 (V : zO) (M : zm_M) : Prop := zc_s9 (zOn V) (zOb V) (zOp V) M ∧ zw_c M 23 (zOS V) ∧ (∃ c, zk_c M 16 (zOs V) c (zOH V)) ∧ (∀ i, i < zOn V → M.1 21 i = zOc V i) ∧ ∀ i, i < zOn V → M.1 22 i = zOw V i
def zX1 (TX : zTX) (tn : Nat) (M : zm_M) : Prop := ∀ t, t < tn → zl_cl M (41 + 9 * t) (TX t).1 (TX t).2.1 (TX t).2.2.1 (TX t).2.2.2.1 (TX t).2.2.2.2.1 ∧ ∀ w, w ≤ 2 → zl_law M (41 + 9 * t) w ((TX t).2.2.2.2.2 w)
def zGc (TX : zTX) (p : zA) (M : zm_M) : Prop := zV1 (zAV p) M ∧ (M.1 16 6 = nI (zAt p) ∧ M.1 16 7 = zAy p) ∧ zX1 TX (zAt p) M ∧ (M.1 35 0 = nI (zAn p) ∧ ∀ i, i < zAn p → M.1 36 i = zAp p i) ∧ (∀ i, i < 10 → M.1 38 i = zAo p i) ∧ M.1 16 10 = nI (zAk p) ∧ ∀ i, i < zAk p → M.1 39 i = nI (zAa p i) ∧ M.1 40 i = zAb p i
def zV2 (V : zO) (M : zm_M) : Prop := zm_s9 (zOn V) (zOb V) (zOp V) M ∧ zw_m M (zOS V) ∧ zk_m M 1 (zOs V) (zOH V) ∧ (∀ i, i < zOn V → M.1 1 (110 + i) = zOc V i) ∧ ∀ i, i < 10 → M.1 1 (128 + i) = zOw V i
def zX2 (TX : zTX) (tn : Nat) (M : zm_M) : Prop := ∀ t, t < tn → zl_cm M t (TX t).1 (TX t).2.1 (TX t).2.2.1 (TX t).2.2.2.1 (TX t).2.2.2.2.1 ∧ ∀ w, w ≤ 2 → zl_m M t w ((TX t).2.2.2.2.2 w)
def zGm (TX : zTX) (p : zA) (M : zm_M) : Prop := zV2 (zAV p) M ∧ (M.1 1 1 = nI (zAt p) ∧ M.1 1 2 = zAy p) ∧ zX2 TX (zAt p) M ∧ (M.1 1 4 = nI (zAn p) ∧ ∀ i, i < zAn p → M.1 1 (120 + i) = zAp p i) ∧ (∀ i, i < 10 → M.1 1 (138 + i) = zAo p i) ∧ M.1 1 5 = nI (zAk p) ∧ ∀ i, i < zAk p → M.1 1 (148 + 2 * i) = nI (zAa p i) ∧ M.1 1 (148 + 2 * i + 1) = zAb p i
/-! it looks at few cells -/
def zB_in (q j : Nat) : Prop := 16 ≤ q ∧ q < 377 ∧ zV_in (q - 16) j
theorem zB_0 {j : Nat} (h : j = 3 ∨ j = 4 ∨ j = 6 ∨ j = 7 ∨ j = 10) : zB_in 16 j := ⟨by omega, by omega, Or.inl ⟨rfl, h⟩⟩
theorem zB_17 : zB_in 17 0 := ⟨by omega, by omega, Or.inr (Or.inl (Or.inl ⟨rfl, rfl⟩))⟩
theorem zB_18 {q j : Nat} (h1 : 18 ≤ q) (h2 : q ≤ 22) (hj : j < 10) : zB_in q j := ⟨by omega, by omega, Or.inr (Or.inl (Or.inr ⟨by omega, by omega, hj⟩))⟩
theorem zB_w {q j : Nat} (h : zW_in 7 (q - 16) j) (h1 : 16 ≤ q) (h2 : q < 377) : zB_in q j := ⟨h1, h2, Or.inr (Or.inr (Or.inl h))⟩
theorem zB_h {q j i : Nat} (hi : i < 30) (h : zW_in (61 + 10 * i) (q - 16) j) (h1 : 16 ≤ q) (h2 : q < 377) : zB_in q j := ⟨h1, h2, Or.inr (Or.inr (Or.inr (Or.inl ⟨i, hi, h⟩)))⟩
theorem zB_l {q j i : Nat} (hi : i < 4) (h : zL_in (25 + 9 * i) (q - 16) j) (h1 : 16 ≤ q) (h2 : q < 377) : zB_in q j := ⟨h1, h2, Or.inr (Or.inr (Or.inr (Or.inr (Or.inl ⟨i, hi, h⟩))))⟩
theorem zB_35 : zB_in 35 0 := ⟨by omega, by omega, Or.inr (Or.inr (Or.inr (Or.inr (Or.inr (Or.inl ⟨rfl, rfl⟩)))))⟩
theorem zB_36 {j : Nat} (h : j < 8) : zB_in 36 j := ⟨by omega, by omega, Or.inr (Or.inr (Or.inr (Or.inr (Or.inr (Or.inr (Or.inl ⟨rfl, h⟩))))))⟩
theorem zB_38 {j : Nat} (h : j < 10) : zB_in 38 j := ⟨by omega, by omega, Or.inr (Or.inr (Or.inr (Or.inr (Or.inr (Or.inr (Or.inr (Or.inl ⟨rfl, h⟩)))))))⟩
theorem zB_39 {j : Nat} (h : j < 8) : zB_in 39 j := ⟨by omega, by omega, Or.inr (Or.inr (Or.inr (Or.inr (Or.inr (Or.inr (Or.inr (Or.inr (Or.inl ⟨rfl, h⟩))))))))⟩
theorem zB_40 {j : Nat} (h : j < 8) : zB_in 40 j := ⟨by omega, by omega, Or.inr (Or.inr (Or.inr (Or.inr (Or.inr (Or.inr (Or.inr (Or.inr (Or.inr ⟨rfl, h⟩))))))))⟩
theorem zc_s9_e {n : Nat} {b pr : Nat → Int32} {M M' : zm_M} (h : zc_s9 n b pr M) (e0 : M'.1 17 0 = M.1 17 0) (e : ∀ q j, 18 ≤ q → q ≤ 22 → j < 10 → M'.1 q j = M.1 q j) : zc_s9 n b pr M' := by
  obtain ⟨⟨h1, h2⟩, h3, h4, h5, h6⟩ := h
  have n10 := h1.1
  have eq : zt_eq n (M.1 18) (M'.1 18) := fun i hi => (e 18 i (by omega) (by omega) (by omega)).symm
  refine ⟨⟨zt_wf_c h1 eq, fun i hi => ?_⟩, by rw [e0]; exact h3, fun i hi => by rw [e 18 i (by omega) (by omega) (by omega)]; exact h4 i hi, fun i hi => by rw [e 19 i (by omega) (by omega) (by omega)]; exact h5 i hi, h6⟩
  rw [e 20 i (by omega) (by omega) (by omega), h2 i hi, zt_rk_c h1 eq i hi]
theorem zw_c_e {w : Nat} {S : zW} {M M' : zm_M} (hs : zw_sz S) (h : zw_c M w S) (e : ∀ q j, zW_in w q j → M'.1 q j = M.1 q j) : zw_c M' w S := by
  obtain ⟨h1, h2, h3, h4, h5, h6, h7⟩ := h
  have s1 := hs.1
  have s2 := hs.2
  refine ⟨by rw [e w 0 (Or.inl ⟨rfl, by omega⟩)]; exact h1, by rw [e w 1 (Or.inl ⟨rfl, by omega⟩)]; exact h2, by rw [e w 2 (Or.inl ⟨rfl, by omega⟩)]; exact h3, by rw [e w 11 (Or.inl ⟨rfl, by omega⟩)]; exact h4, fun f k hf hk => ?_, fun p hp => ?_, fun i j hi hj => ?_⟩
  · rw [e _ _ (Or.inr (Or.inl ⟨by omega, by omega, by omega⟩))]; exact h5 f k hf hk
  · rw [e _ _ (Or.inr (Or.inl ⟨by omega, by omega, by omega⟩))]; exact h6 p hp
  · rw [e _ _ (Or.inr (Or.inr ⟨rfl, by omega⟩))]; exact h7 i j hi hj
theorem zl_law_e {L w : Nat} {D : Option zD} {M M' : zm_M} (hw : w ≤ 2) (h : zl_law M L w D) (e : ∀ q j, zL_in L q j → M'.1 q j = M.1 q j) : zl_law M' L w D := by
  have e5 : M'.1 (L + 5) w = M.1 (L + 5) w := e _ _ (Or.inr (Or.inr (Or.inl ⟨by omega, by omega, by omega⟩)))
  have e6 : M'.1 (L + 6) w = M.1 (L + 6) w := e _ _ (Or.inr (Or.inr (Or.inl ⟨by omega, by omega, by omega⟩)))
  cases D with
  | none => show M'.1 (L + 5) w = -1; rw [e5]; exact h
  | some D =>
    obtain ⟨c0, c1, cd, wd, h1, h2, h3, h4⟩ := h
    have c3 := h4.2.1
    refine ⟨c0, c1, cd, wd, by rw [e5]; exact h1, by rw [e6]; exact h2, fun i a b => ?_, h4⟩
    rw [e (L + 7) i (Or.inr (Or.inr (Or.inr ⟨by omega, by omega, by omega⟩))), e (L + 8) i (Or.inr (Or.inr (Or.inr ⟨by omega, by omega, by omega⟩)))]
    exact h3 i a b
theorem zl_cl_e {L nc : Nat} {kd a1 a2 a3 : Nat → Int32} {M M' : zm_M} (h : zl_cl M L nc kd a1 a2 a3) (e : ∀ q j, zL_in L q j → M'.1 q j = M.1 q j) : zl_cl M' L nc kd a1 a2 a3 := by
  obtain ⟨h1, h2, h3⟩ := h
  refine ⟨by rw [e L 0 (Or.inl ⟨rfl, Or.inl rfl⟩)]; exact h1, h2, fun k hk => ?_⟩
  have e1 : ∀ t, 1 ≤ t → t ≤ 4 → M'.1 (L + t) k = M.1 (L + t) k := fun t a b => e _ _ (Or.inr (Or.inl ⟨by omega, by omega, by omega⟩))
  rw [e1 1 (by omega) (by omega), e1 2 (by omega) (by omega), e1 3 (by omega) (by omega), e1 4 (by omega) (by omega)]
  exact h3 k hk
theorem zV1_e {V : zO} {M M' : zm_M} (hs : zw_sz (zOS V)) (hH : ∀ i, i < zOs V → zw_sz (zOH V i)) (h : zV1 V M) (e : ∀ q j, zB_in q j → M'.1 q j = M.1 q j) : zV1 V M' := by
  obtain ⟨h1, h2, ⟨c, h3⟩, h4, h5⟩ := h
  have n10 := h1.1.1.1
  refine ⟨zc_s9_e h1 (e 17 0 zB_17) (fun q j a b c => e q j (zB_18 a b c)), zw_c_e hs h2 (fun q j z => ?_), ⟨c, ?_⟩, fun i hi => by rw [e 21 i (zB_18 (by omega) (by omega) (by omega))]; exact h4 i hi, fun i hi => by rw [e 22 i (zB_18 (by omega) (by omega) (by omega))]; exact h5 i hi⟩
  · have : 23 ≤ q ∧ q ≤ 32 := by unfold zW_in at z; omega
    refine e q j (zB_w ?_ (by omega) (by omega))
    unfold zW_in at z ⊢
    omega
  · obtain ⟨k1, k2, k3, k4, k5⟩ := h3
    refine ⟨by rw [e 16 3 (zB_0 (by omega))]; exact k1, k2, by rw [e 16 4 (zB_0 (by omega))]; exact k3, k4, fun i hi => zw_c_e (hH i hi) (k5 i hi) (fun q j z => ?_)⟩
    have m30 : (c + 30 - zOs V + i) % 30 < 30 := Nat.mod_lt _ (by decide)
    generalize (c + 30 - zOs V + i) % 30 = r at *
    have : 77 + 10 * r ≤ q ∧ q ≤ 77 + 10 * r + 9 := by unfold zW_in at z; omega
    refine e q j (zB_h m30 ?_ (by omega) (by omega))
    unfold zW_in at z ⊢
    omega
theorem zX1_e {TX : zTX} {tn : Nat} {M M' : zm_M} (ht : tn ≤ 4) (h : zX1 TX tn M) (e : ∀ q j, zB_in q j → M'.1 q j = M.1 q j) : zX1 TX tn M' := by
  intro t lt
  have e2 : ∀ q j, zL_in (41 + 9 * t) q j → M'.1 q j = M.1 q j := by
    intro q j z
    have : 41 + 9 * t ≤ q ∧ q ≤ 41 + 9 * t + 8 := by unfold zL_in at z; omega
    refine e q j (zB_l (i := t) (by omega) ?_ (by omega) (by omega))
    unfold zL_in at z ⊢
    omega
  exact ⟨zl_cl_e (h t lt).1 e2, fun w hw => zl_law_e hw ((h t lt).2 w hw) e2⟩
theorem zGc_e {TX : zTX} {p : zA} {M M' : zm_M} (hi : zGi TX p) (h : zGc TX p M) (e : ∀ q j, zB_in q j → M'.1 q j = M.1 q j) : zGc TX p M' := by
  obtain ⟨⟨hA, _⟩, i2, i3, i4, i5, i6, i7⟩ := hi
  obtain ⟨h1, ⟨h2, h3⟩, h4, ⟨h5, h6⟩, h7, h8, h9⟩ := h
  refine ⟨zV1_e hA.2.2.1.1 (fun i hi => (hA.2.2.2 i hi).1) h1 e, ⟨by rw [e 16 6 (zB_0 (by omega))]; exact h2, by rw [e 16 7 (zB_0 (by omega))]; exact h3⟩, zX1_e i2 h4 e, ⟨by rw [e 35 0 zB_35]; exact h5, fun i hi => by rw [e 36 i (zB_36 (by omega))]; exact h6 i hi⟩, fun i hi => by rw [e 38 i (zB_38 (by omega))]; exact h7 i hi, by rw [e 16 10 (zB_0 (by omega))]; exact h8, fun i hi => ?_⟩
  rw [e 39 i (zB_39 (by omega)), e 40 i (zB_40 (by omega))]
  exact h9 i hi
