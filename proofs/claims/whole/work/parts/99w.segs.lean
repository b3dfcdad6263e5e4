/-! ===== the class's codes: pieces of a law ===== -/
theorem zq_itr_c {cd wd cd' wd' : Nat → Nat} {nm : Nat → Int} {rk : Int → Int} {c c1 : Nat} (h : ∀ i, c ≤ i → i < c1 → cd' i = cd i ∧ wd' i = wd i) : ∀ k s t, c ≤ s.1 → zq_itr cd wd nm rk k s = some t → t.1 ≤ c1 → zq_itr cd' wd' nm rk k s = some t := by
  intro k
  induction k with
  | zero => intro s t _ hs _; exact hs
  | succ k ih =>
    intro s t h1 hs h2
    simp only [zq_itr, Option.bind_eq_some_iff] at hs ⊢
    obtain ⟨u, hu, hi⟩ := hs
    have l1 := (zq_stp_lt hu).1
    have l2 := zq_itr_le k u t hi
    obtain ⟨e1, e2⟩ := h s.1 h1 (by omega)
    refine ⟨u, ?_, ih u t (by omega) hi h2⟩
    unfold zq_stp at hu ⊢
    rw [e1, e2]
    exact hu
theorem zq_itr_a {cd wd : Nat → Nat} {nm : Nat → Int} {rk : Int → Int} : ∀ a b s, zq_itr cd wd nm rk (a + b) s = (zq_itr cd wd nm rk a s).bind (zq_itr cd wd nm rk b) := by
  intro a
  induction a with
  | zero => intro b s; rw [Nat.zero_add]; rfl
  | succ a ih =>
    intro b s
    rw [show a + 1 + b = (a + b) + 1 by omega]
    simp only [zq_itr]
    cases zq_stp cd wd nm rk s with
    | none => rfl
    | some u => exact ih b u
theorem zq_itr_2 {cd wd : Nat → Nat} {nm : Nat → Int} {rk : Int → Int} {a b : Nat} {s t u : Nat × List Int} (h1 : zq_itr cd wd nm rk a s = some t) (h2 : zq_itr cd wd nm rk b t = some u) : zq_itr cd wd nm rk (a + b) s = some u := by
  rw [zq_itr_a, h1]; exact h2
theorem zq_itr_1 {cd wd : Nat → Nat} {nm : Nat → Int} {rk : Int → Int} {s t : Nat × List Int} (h1 : zq_stp cd wd nm rk s = some t) : zq_itr cd wd nm rk 1 s = some t := by
  simp only [zq_itr, h1, Option.bind_some]
theorem zl_seg_c {cd wd cd' wd' : Nat → Nat} {c c1 : Nat} {D : zD} (h : zl_seg cd wd c c1 D) (e : ∀ i, c ≤ i → i < c1 → cd' i = cd i ∧ wd' i = wd i) : zl_seg cd' wd' c c1 D := by
  obtain ⟨h1, h2, h3⟩ := h
  refine ⟨h1, h2, fun nm rk st a b => ?_⟩
  obtain ⟨k, hk⟩ := h3 nm rk st a b
  exact ⟨k, zq_itr_c e k _ _ (Nat.le_refl _) hk (Nat.le_refl _)⟩
theorem zl_seg_num {cd wd : Nat → Nat} {c v : Nat} (hc : c < 300) (h0 : cd c = 0) (hw : wd c = v) (hv : v ≤ 9999) : zl_seg cd wd c (c + 1) (fun _ _ => (v : Int)) := by
  refine ⟨by omega, by omega, fun nm rk st _ _ => ⟨1, zq_itr_1 ?_⟩⟩
  unfold zq_stp zq_fnd
  simp [h0, hw, hv]
theorem zl_seg_nam {cd wd : Nat → Nat} {c v : Nat} (hc : c < 300) (h0 : cd c = 1) (hw : wd c = v) (hv : v < 9) : zl_seg cd wd c (c + 1) (fun nm _ => nm v) := by
  refine ⟨by omega, by omega, fun nm rk st _ _ => ⟨1, zq_itr_1 ?_⟩⟩
  unfold zq_stp zq_fnd
  simp [h0, hw, hv]
theorem zl_seg_un {cd wd : Nat → Nat} {c c1 : Nat} {D D' : zD} (hc : c1 < 300) (h : zl_seg cd wd c c1 D) (hs : ∀ nm rk st, zq_stp cd wd nm rk (c1, D nm rk :: st) = some (c1 + 1, D' nm rk :: st)) : zl_seg cd wd c (c1 + 1) D' := by
  obtain ⟨h1, h2, h3⟩ := h
  refine ⟨by omega, by omega, fun nm rk st a b => ?_⟩
  obtain ⟨k, hk⟩ := h3 nm rk st a b
  exact ⟨k + 1, zq_itr_2 hk (zq_itr_1 (hs nm rk st))⟩
theorem zl_seg_neg {cd wd : Nat → Nat} {c c1 : Nat} {D : zD} (hc : c1 < 300) (h : zl_seg cd wd c c1 D) (h0 : cd c1 = 2) : zl_seg cd wd c (c1 + 1) (fun nm rk => - D nm rk) := by
  refine zl_seg_un hc h (fun nm rk st => ?_)
  unfold zq_stp zq_fnd
  simp [h0]
theorem zl_seg_rnk {cd wd : Nat → Nat} {c c1 : Nat} {D : zD} (hc : c1 < 300) (h : zl_seg cd wd c c1 D) (h0 : cd c1 = 3) : zl_seg cd wd c (c1 + 1) (fun nm rk => rk (D nm rk)) := by
  refine zl_seg_un hc h (fun nm rk st => ?_)
  unfold zq_stp zq_fnd
  simp [h0]
theorem zl_seg_not {cd wd : Nat → Nat} {c c1 : Nat} {D : zD} (hc : c1 < 300) (h : zl_seg cd wd c c1 D) (h0 : cd c1 = 4) (h01 : ∀ nm rk, D nm rk = 0 ∨ D nm rk = 1) : zl_seg cd wd c (c1 + 1) (fun nm rk => 1 - D nm rk) := by
  refine zl_seg_un hc h (fun nm rk st => ?_)
  unfold zq_stp zq_fnd
  simp [h0, h01 nm rk]
theorem zl_seg_bin {cd wd : Nat → Nat} {c c1 c2 op : Nat} {D1 D2 D' : zD} (hc : c2 < 300) (h1 : zl_seg cd wd c c1 D1) (h2 : zl_seg cd wd c1 c2 D2) (h0 : cd c2 = op) (hop : (7 ≤ op ∧ op ≤ 11 ∧ D' = fun nm rk => zq_ar op (D1 nm rk) (D2 nm rk)) ∨ (12 ≤ op ∧ op ≤ 19 ∧ D' = fun nm rk => if zq_cp op (D1 nm rk) (D2 nm rk) then 1 else 0)) : zl_seg cd wd c (c2 + 1) D' := by
  obtain ⟨a1, a2, a3⟩ := h1
  obtain ⟨b1, b2, b3⟩ := h2
  refine ⟨by omega, by omega, fun nm rk st x y => ?_⟩
  obtain ⟨k1, hk1⟩ := a3 nm rk st x y
  obtain ⟨k2, hk2⟩ := b3 nm rk (D1 nm rk :: st) x y
  refine ⟨k1 + k2 + 1, zq_itr_2 (zq_itr_2 hk1 hk2) (zq_itr_1 ?_)⟩
  unfold zq_stp zq_fnd
  rcases hop with ⟨p1, p2, rfl⟩ | ⟨p1, p2, rfl⟩
  · simp only [h0]
    rw [if_neg (by omega), if_neg (by omega), if_neg (by omega), if_neg (by omega), if_neg (by omega), if_neg (by omega), if_neg (by omega), if_pos ⟨p1, p2⟩]
    rfl
  · simp only [h0]
    rw [if_neg (by omega), if_neg (by omega), if_neg (by omega), if_neg (by omega), if_neg (by omega), if_neg (by omega), if_neg (by omega), if_neg (by omega), if_pos ⟨p1, p2⟩]
    rfl
theorem zl_seg_if {cd wd : Nat → Nat} {c c1 c2 c3 : Nat} {B D2 D3 : zD} (h1 : zl_seg cd wd c c1 B) (e1 : cd c1 = 6) (w1 : wd c1 = c2 + 1) (h2 : zl_seg cd wd (c1 + 1) c2 D2) (e2 : cd c2 = 5) (w2 : wd c2 = c3) (h3 : zl_seg cd wd (c2 + 1) c3 D3) : zl_seg cd wd c c3 (fun nm rk => if B nm rk = 0 then D3 nm rk else D2 nm rk) := by
  obtain ⟨x1, x2, x3⟩ := h1
  obtain ⟨y1, y2, y3⟩ := h2
  obtain ⟨z1, z2, z3⟩ := h3
  refine ⟨by omega, z2, fun nm rk st p q => ?_⟩
  obtain ⟨k1, hk1⟩ := x3 nm rk st p q
  obtain ⟨k2, hk2⟩ := y3 nm rk st p q
  obtain ⟨k3, hk3⟩ := z3 nm rk st p q
  have s1 : zq_stp cd wd nm rk (c1, B nm rk :: st) = some (if B nm rk = 0 then c2 + 1 else c1 + 1, st) := by
    unfold zq_stp
    simp only [e1, w1]
    rw [if_neg (by decide), if_pos trivial, if_pos (by omega)]
  by_cases b : B nm rk = 0
  · rw [if_pos b] at s1
    refine ⟨k1 + 1 + k3, ?_⟩
    show _ = some (c3, (if B nm rk = 0 then D3 nm rk else D2 nm rk) :: st)
    rw [if_pos b]
    exact zq_itr_2 (zq_itr_2 hk1 (zq_itr_1 s1)) hk3
  · rw [if_neg b] at s1
    have s2 : zq_stp cd wd nm rk (c2, D2 nm rk :: st) = some (c3, D2 nm rk :: st) := by
      unfold zq_stp
      simp only [e2, w2]
      rw [if_pos trivial, if_pos (by omega)]
    refine ⟨k1 + 1 + k2 + 1, ?_⟩
    show _ = some (c3, (if B nm rk = 0 then D3 nm rk else D2 nm rk) :: st)
    rw [if_neg b]
    exact zq_itr_2 (zq_itr_2 (zq_itr_2 hk1 (zq_itr_1 s1)) hk2) (zq_itr_1 s2)
/-! in the memory -/
def zl_c (M : zm_M) (L i : Nat) : Nat := (M.1 (L + 7) i).toNatClampNeg
def zl_w (M : zm_M) (L i : Nat) : Nat := (M.1 (L + 8) i).toNatClampNeg
def zl_sm (M : zm_M) (L c c1 : Nat) (D : zD) : Prop := zl_cd M L (zl_c M L) (zl_w M L) c c1 ∧ zl_seg (zl_c M L) (zl_w M L) c c1 D
theorem zl_sm_c {M M' : zm_M} {L c c1 : Nat} {D : zD} (h : zl_sm M L c c1 D) (e : ∀ i, c ≤ i → i < c1 → M'.1 (L + 7) i = M.1 (L + 7) i ∧ M'.1 (L + 8) i = M.1 (L + 8) i) : zl_sm M' L c c1 D := by
  have e2 : ∀ i, c ≤ i → i < c1 → zl_c M' L i = zl_c M L i ∧ zl_w M' L i = zl_w M L i := by
    intro i a b
    unfold zl_c zl_w
    rw [(e i a b).1, (e i a b).2]
    exact ⟨rfl, rfl⟩
  refine ⟨fun i a b => ?_, zl_seg_c h.2 e2⟩
  rw [(e i a b).1, (e i a b).2, (e2 i a b).1, (e2 i a b).2]
  exact h.1 i a b
/-- one code -/
theorem zl_one {M : zm_M} {L i op v : Nat} (h1 : M.1 (L + 7) i = nI op) (h2 : M.1 (L + 8) i = nI v) (ho : op ≤ 19) (hv : v ≤ 10000) : zl_c M L i = op ∧ zl_w M L i = v ∧ (M.1 (L + 7) i = nI (zl_c M L i) ∧ M.1 (L + 8) i = nI (zl_w M L i) ∧ zl_c M L i ≤ 19) := by
  have e1 : zl_c M L i = op := by unfold zl_c; rw [h1, nI_clamp (by omega)]
  have e2 : zl_w M L i = v := by unfold zl_w; rw [h2, nI_clamp (by omega)]
  exact ⟨e1, e2, by rw [e1]; exact h1, by rw [e2]; exact h2, by omega⟩
theorem zl_cd_s {M : zm_M} {L c c1 : Nat} {cd wd : Nat → Nat} (h : zl_cd M L cd wd c c1) (h1 : M.1 (L + 7) c1 = nI (cd c1) ∧ M.1 (L + 8) c1 = nI (wd c1) ∧ cd c1 ≤ 19) : zl_cd M L cd wd c (c1 + 1) := by
  intro i a b
  by_cases z : i < c1
  · exact h i a z
  · have : i = c1 := by omega
    subst this
    exact h1
theorem zl_cd_2 {M : zm_M} {L c c1 c2 : Nat} {cd wd : Nat → Nat} (h : zl_cd M L cd wd c c1) (h1 : zl_cd M L cd wd c1 c2) : zl_cd M L cd wd c c2 := by
  intro i a b
  by_cases z : i < c1
  · exact h i a z
  · exact h1 i (by omega) b
theorem zl_sm_num {M : zm_M} {L c v : Nat} (hc : c < 300) (h1 : M.1 (L + 7) c = nI 0) (h2 : M.1 (L + 8) c = nI v) (hv : v ≤ 9999) : zl_sm M L c (c + 1) (fun _ _ => (v : Int)) := by
  obtain ⟨a1, a2, a3⟩ := zl_one h1 h2 (by omega) (by omega)
  exact ⟨zl_cd_s (fun i a b => by omega) a3, zl_seg_num hc a1 a2 hv⟩
theorem zl_sm_nam {M : zm_M} {L c v : Nat} (hc : c < 300) (h1 : M.1 (L + 7) c = nI 1) (h2 : M.1 (L + 8) c = nI v) (hv : v < 9) : zl_sm M L c (c + 1) (fun nm _ => nm v) := by
  obtain ⟨a1, a2, a3⟩ := zl_one h1 h2 (by omega) (by omega)
  exact ⟨zl_cd_s (fun i a b => by omega) a3, zl_seg_nam hc a1 a2 hv⟩
theorem zl_sm_neg {M : zm_M} {L c c1 : Nat} {D : zD} (hc : c1 < 300) (h : zl_sm M L c c1 D) (h1 : M.1 (L + 7) c1 = nI 2) (h2 : M.1 (L + 8) c1 = nI 0) : zl_sm M L c (c1 + 1) (fun nm rk => - D nm rk) := by
  obtain ⟨a1, a2, a3⟩ := zl_one h1 h2 (by omega) (by omega)
  exact ⟨zl_cd_s h.1 a3, zl_seg_neg hc h.2 a1⟩
theorem zl_sm_rnk {M : zm_M} {L c c1 : Nat} {D : zD} (hc : c1 < 300) (h : zl_sm M L c c1 D) (h1 : M.1 (L + 7) c1 = nI 3) (h2 : M.1 (L + 8) c1 = nI 0) : zl_sm M L c (c1 + 1) (fun nm rk => rk (D nm rk)) := by
  obtain ⟨a1, a2, a3⟩ := zl_one h1 h2 (by omega) (by omega)
  exact ⟨zl_cd_s h.1 a3, zl_seg_rnk hc h.2 a1⟩
theorem zl_sm_not {M : zm_M} {L c c1 : Nat} {D : zD} (hc : c1 < 300) (h : zl_sm M L c c1 D) (h1 : M.1 (L + 7) c1 = nI 4) (h2 : M.1 (L + 8) c1 = nI 0) (h01 : ∀ nm rk, D nm rk = 0 ∨ D nm rk = 1) : zl_sm M L c (c1 + 1) (fun nm rk => 1 - D nm rk) := by
  obtain ⟨a1, a2, a3⟩ := zl_one h1 h2 (by omega) (by omega)
  exact ⟨zl_cd_s h.1 a3, zl_seg_not hc h.2 a1 h01⟩
theorem zl_sm_bin {M : zm_M} {L c c1 c2 op : Nat} {D1 D2 D' : zD} (hc : c2 < 300) (g1 : zl_sm M L c c1 D1) (g2 : zl_sm M L c1 c2 D2) (h1 : M.1 (L + 7) c2 = nI op) (h2 : M.1 (L + 8) c2 = nI 0) (hop : (7 ≤ op ∧ op ≤ 11 ∧ D' = fun nm rk => zq_ar op (D1 nm rk) (D2 nm rk)) ∨ (12 ≤ op ∧ op ≤ 19 ∧ D' = fun nm rk => if zq_cp op (D1 nm rk) (D2 nm rk) then 1 else 0)) : zl_sm M L c (c2 + 1) D' := by
  obtain ⟨a1, a2, a3⟩ := zl_one h1 h2 (by omega) (by omega)
  exact ⟨zl_cd_s (zl_cd_2 g1.1 g2.1) a3, zl_seg_bin hc g1.2 g2.2 a1 hop⟩
theorem zl_sm_if {M : zm_M} {L c c1 c2 c3 : Nat} {B D2 D3 : zD} (g1 : zl_sm M L c c1 B) (h1 : M.1 (L + 7) c1 = nI 6) (w1 : M.1 (L + 8) c1 = nI (c2 + 1)) (g2 : zl_sm M L (c1 + 1) c2 D2) (h2 : M.1 (L + 7) c2 = nI 5) (w2 : M.1 (L + 8) c2 = nI c3) (g3 : zl_sm M L (c2 + 1) c3 D3) : zl_sm M L c c3 (fun nm rk => if B nm rk = 0 then D3 nm rk else D2 nm rk) := by
  have l2 := g2.2.2.1
  have l3 := g3.2.2.1
  obtain ⟨a1, a2, a3⟩ := zl_one h1 w1 (by omega) (by omega)
  obtain ⟨b1, b2, b3⟩ := zl_one h2 w2 (by omega) (by omega)
  exact ⟨zl_cd_2 (zl_cd_s (zl_cd_2 (zl_cd_s g1.1 a3) g2.1) b3) g3.1, zl_seg_if g1.2 a1 a2 g2.2 b1 b2 g3.2⟩
