/-! ===== the reference's machine keeps the rules of ones ===== -/
section
variable {T V : Nat → Nat} {cl : Nat}
theorem zs_mn_app {a b : List (Nat × Nat)} {D1 D2 : zD} {x : Nat × Nat} {D : zD} (h1 : zs_mn a D1) (h2 : zs_mn b D2) (h : ∀ nm rk vs ts, (∀ v, zq_ok (rk v)) → zp_fnd x.1 x.2 nm rk (D2 nm rk :: D1 nm rk :: vs, ts) = some (D nm rk :: vs, ts)) : zs_mn (a ++ b ++ [x]) D := by
  intro nm rk vs ts p q
  rw [zp_ls_a, zp_ls_a, h1 nm rk vs ts p q]
  simp only [Option.bind_some]
  rw [h2 nm rk _ ts p q]
  simp only [Option.bind_some, zp_ls]
  rw [h nm rk vs ts q]; rfl
theorem zs_mn_un {a : List (Nat × Nat)} {D1 D : zD} {x : Nat × Nat} (h1 : zs_mn a D1) (h : ∀ nm rk vs ts, zp_fnd x.1 x.2 nm rk (D1 nm rk :: vs, ts) = some (D nm rk :: vs, ts)) : zs_mn (a ++ [x]) D := by
  intro nm rk vs ts p q
  rw [zp_ls_a, h1 nm rk vs ts p q]
  simp only [Option.bind_some, zp_ls]
  rw [h nm rk vs ts]; rfl
theorem zs_beg_o {k o c w : Nat} {ws : List Nat} {cs : List (Nat × Nat)} (hw : T k = w) (h : (w = 38 ∧ c = 40) ∨ (w = 35 ∧ c = 5) ∨ (w = 18 ∧ c = 41) ∨ (w = 20 ∧ c = 2) ∨ (w = 21 ∧ c = 42) ∨ (w = 27 ∧ c = 20 ∧ zh_aa ws = true)) : zs_beg T V cl k ws o cs = zs_opn k c ws o cs := by
  unfold zs_beg
  rw [hw]
  rcases h with ⟨rfl, rfl⟩ | ⟨rfl, rfl⟩ | ⟨rfl, rfl⟩ | ⟨rfl, rfl⟩ | ⟨rfl, rfl⟩ | ⟨rfl, rfl, h⟩
  · rfl
  · rfl
  · rfl
  · rfl
  · rfl
  · rw [if_neg (by omega), if_neg (by omega), if_neg (by omega), if_neg (by omega), if_neg (by omega), if_neg (by omega), if_neg (by omega), if_neg (by omega), if_neg (by omega), if_pos ⟨rfl, h⟩]
theorem zs_7a (hcl : cl ≤ 2) : zd_7a T V cl (zs_RR T V cl) (zs_FF T V cl) := by
  refine ⟨fun o k h1 h2 => ⟨fun _ _ _ _ => rfl, fun G Fa Fi hr ws cs hg => ?_⟩, fun o k h1 h2 G Fa Fi hr ws cs _ hf => ?_, fun o k h1 h2 h3 => ⟨?_, fun G Fa Fi hr ws cs hg => ?_⟩, fun o k h1 h2 h3 G Fa Fi hr ws cs _ hf => ?_, fun k h1 G Fa Fi hr ws cs _ hf => ?_, fun o k h1 h2 h3 G Fa Fi hr ws cs hn hf => ?_⟩
  · refine hr.1 k ws o cs ?_
    unfold zs_beg
    rw [if_neg (by omega), if_neg (by omega), if_pos h1]
    refine hg _ (fun nm rk vs ts _ _ => ?_)
    simp only [zp_ls, zp_fnd, if_true]
    rw [if_pos h2]; rfl
  · refine hr.1 k ws o cs ?_
    unfold zs_beg
    rw [if_pos (by omega)]
    exact hf
  · intro nm nm' rk h
    refine h _ ?_
    obtain ⟨a, b⟩ := h3
    unfold zn_k
    by_cases c0 : cl = 0
    · rw [if_pos c0]; omega
    · rw [if_neg c0]
      by_cases c1 : cl = 1
      · rw [if_pos c1]; omega
      · rw [if_neg c1]
        have : cl = 2 ∨ ¬ cl = 2 := by omega
        omega
  · refine hr.1 k ws o cs ?_
    unfold zs_beg
    have h4 : ¬ ((8 ≤ T k ∧ T k ≤ 16) ∧ ¬ (¬ (T k - 8 = 7 ∧ cl = 2) ∧ ¬ (T k - 8 = 8 ∧ ¬ cl = 0))) := fun z => z.2 h3
    rw [if_neg (by omega), if_neg h4, if_neg (by omega), if_pos ⟨h1, h2⟩]
    refine hg _ (fun nm rk vs ts _ _ => ?_)
    simp only [zp_ls, zp_fnd]
    rw [if_neg (by decide), if_pos trivial, if_pos (by omega)]; rfl
  · refine hr.1 k ws o cs ?_
    unfold zs_beg
    rw [if_neg (by omega), if_pos ⟨⟨h1, h2⟩, h3⟩]
    exact hf
  · refine hr.1 k ws 8 cs ?_
    have e : ∀ c, zs_beg T V cl k ws 8 cs = zs_opn k c ws 8 cs → zs_nx G Fa (zs_beg T V cl k ws 8 cs) := by
      intro c h
      rw [h]
      unfold zs_opn
      rw [if_pos rfl]
      exact hf
    rcases h1 with h | h | h | h | h
    · exact e 40 (zs_beg_o h (by omega))
    · exact e 5 (zs_beg_o h (by omega))
    · exact e 41 (zs_beg_o h (by omega))
    · exact e 2 (zs_beg_o h (by omega))
    · exact e 42 (zs_beg_o h (by omega))
  · refine hr.1 k ws o cs ?_
    unfold zs_beg
    unfold zd_op at h3
    have n27 : ¬ (T k = 27 ∧ zh_aa ws = true) := fun z => by
      have := hn z.1
      rw [z.2] at this
      cases this
    rw [if_neg (by omega), if_neg (by omega), if_neg h1, if_neg h2, if_neg (by omega), if_neg (by omega), if_neg (by omega), if_neg (by omega), if_neg (by omega), if_neg n27]
    exact hf
/-- an opening -/
theorem zs_opg {G : Nat → List Nat → Nat → Bool → List (Nat × Nat) → Prop} {Fa : Nat → Nat → Prop} {Fi : Nat → List (Nat × Nat) → Prop} (hr : zs_ru T V cl G Fa Fi) {k o c w : Nat} {ws : List Nat} {cs : List (Nat × Nat)} (ho : o < 8) (hw : T k = w) (h : (w = 38 ∧ c = 40) ∨ (w = 35 ∧ c = 5) ∨ (w = 18 ∧ c = 41) ∨ (w = 20 ∧ c = 2) ∨ (w = 21 ∧ c = 42) ∨ (w = 27 ∧ c = 20 ∧ zh_aa ws = true)) (hg : G (k + 1) (c :: ws) (o + 1) false cs) : G k ws o false cs := by
  refine hr.1 k ws o cs ?_
  rw [zs_beg_o hw h]
  unfold zs_opn
  rw [if_neg (by omega)]
  exact hg
/-- it ends where something is open -/
theorem zs_stop {G : Nat → List Nat → Nat → Bool → List (Nat × Nat) → Prop} {Fa : Nat → Nat → Prop} {Fi : Nat → List (Nat × Nat) → Prop} (hr : zs_ru T V cl G Fa Fi) {k o : Nat} {ws : List Nat} {cs : List (Nat × Nat)} (hb : zs_bet T k ws = 0) (hp : zs_par T k ws = 100) (ho : ¬ zs_on ws = 0) (hf : Fa 1 k) : G k ws o true cs := by
  refine hr.2 k ws o cs ?_
  unfold zs_beh
  rw [if_neg (fun z => z hb), if_pos hp]
  simp only [zs_nx]
  rw [if_neg ho]
  exact hf
/-- a part of what is open is shut -/
theorem zs_shut {G : Nat → List Nat → Nat → Bool → List (Nat × Nat) → Prop} {Fa : Nat → Nat → Prop} {Fi : Nat → List (Nat × Nat) → Prop} (hr : zs_ru T V cl G Fa Fi) {k o c p : Nat} {ws pend : List Nat} {cs : List (Nat × Nat)} (hc : 40 ≤ c) (hrg : zs_rg 1 pend) (hb : zs_bet T k (pend ++ c :: ws) = 0) (hp : zs_par T k (pend ++ c :: ws) = p) (h1 : ¬ p = 100) (hg : zs_nx G Fa (zs_cl T k c p (c :: ws, o, cs ++ zs_em pend))) : G k (pend ++ c :: ws) (o + zs_cn pend) true cs := by
  refine hr.2 k (pend ++ c :: ws) (o + zs_cn pend) cs ?_
  unfold zs_beh
  have r0 : zk_rk c = 0 := by unfold zk_rk; rw [if_pos hc]
  have on : zs_on (pend ++ c :: ws) = c := by
    rw [zs_on_a pend hrg]
    exact if_pos hc
  rw [if_neg (fun z => z hb), hp, if_neg h1, on, zs_se_ps (ws := c :: ws) hrg (show zk_rk c < 1 by omega)]
  unfold zs_cl at hg ⊢
  by_cases p0 : p = 0
  · rw [if_pos p0] at hg ⊢
    generalize hx : zs_eo T (k + 1) _ _ _ = x at hg ⊢
    cases x with
    | inl y => exact hg
    | inr y =>
      obtain ⟨f, j⟩ := y
      have := zs_eo_n0 hx
      simp only [zs_nx] at hg ⊢
      rw [if_neg (by omega)]
      exact hg
  · rw [if_neg p0] at hg ⊢
    exact hg
theorem zs_bet_0 {k : Nat} {ws : List Nat} (h : zd_nx 5 (T k)) (ho : ¬ zs_on ws = 42) : zs_bet T k ws = 0 := by
  have a := h.1 (by omega)
  have b := h.2.1 (by omega)
  unfold zs_bet
  rw [if_neg a.1, if_neg a.2, if_neg b.1, if_neg b.2, if_pos ho]
theorem zs_nx5 {w : Nat} (h : ¬ (34 ≤ w ∧ w ≤ 37)) : zd_nx 5 w := ⟨fun _ => by omega, fun _ => by omega, fun z => by omega, fun z => by omega⟩
theorem zs_7b : zd_7b T (zs_RR T V cl) (zs_FF T V cl) := by
  intro o k ho hk
  refine ⟨fun k1 D h h39 => ⟨h.1, fun G Fa Fi hr ws cs hg => ?_⟩, fun k1 D h hx h39 G Fa Fi hr ws cs _ hf => ?_, fun f j h G Fa Fi hr ws cs _ hf => ?_⟩
  · refine zs_opg hr ho hk (c := 40) (by omega) (h.2 G Fa Fi hr (40 :: ws) cs (by show 0 < 5; decide) (by show (40 : Nat) ≠ 41; decide) (fun seg pend hp hm => ?_))
    have rg1 := zs_rg_le (l' := 1) hp (by omega)
    have on : zs_on (pend ++ 40 :: ws) = 40 := zs_on_a pend hp
    have := zs_shut (o := o + 1) (p := 0) (cs := cs ++ seg) (ws := ws) (pend := pend) hr (c := 40) (k := k1) (by decide) rg1 (zs_bet_0 (zs_nx5 (by omega)) (by omega)) (by unfold zs_par; rw [if_pos on, if_pos h39]) (by decide) ?_
    · rw [zs_cn_0 pend hp] at this; exact this
    · unfold zs_cl
      rw [if_pos rfl, if_neg (by decide)]
      have := hg (seg ++ zs_em pend) hm
      rw [← List.append_assoc] at this
      exact this
  · refine zs_opg hr ho hk (c := 40) (by omega) (h.2 G Fa Fi hr (40 :: ws) cs (by show 0 < 5; decide) (by show (40 : Nat) ≠ 41; decide) (fun seg pend hp hm => ?_))
    have on : zs_on (pend ++ 40 :: ws) = 40 := zs_on_a pend hp
    exact zs_stop hr (zs_bet_0 hx (by omega)) (by unfold zs_par; rw [if_pos on, if_neg h39]) (by omega) hf
  · exact zs_opg hr ho hk (c := 40) (by omega) (h G Fa Fi hr (40 :: ws) cs (by show 0 < 5; decide) (by show (40 : Nat) ≠ 41; decide) (fun _ => zs_aa_o (by decide) (by decide)) hf)
theorem zs_7c : zd_7c T (zs_RR T V cl) (zs_FF T V cl) := by
  refine ⟨fun o k ho hk => ⟨fun k1 D h => ⟨fun nm nm' rk e => congrArg (fun x : Int => -x) (h.1 nm nm' rk e), fun G Fa Fi hr ws cs hg => ?_⟩, fun f j h G Fa Fi hr ws cs _ hf => ?_⟩, fun o k ho hk => ⟨fun k1 D h => ⟨fun nm nm' rk e => congrArg rk (h.1 nm nm' rk e), fun G Fa Fi hr ws cs hg => ?_⟩, fun f j h G Fa Fi hr ws cs _ hf => ?_⟩⟩
  · refine zs_opg hr ho hk (c := 5) (by omega) (h.2 G Fa Fi hr (5 :: ws) cs (fun seg hm => ?_))
    rw [zs_eo_p rfl, List.append_assoc]
    exact hg _ (zs_mn_un hm (fun nm rk vs ts => rfl))
  · exact zs_opg hr ho hk (c := 5) (by omega) (h G Fa Fi hr (5 :: ws) cs (fun _ => zs_aa_n (by decide)) hf)
  · refine zs_opg hr ho hk (c := 2) (by omega) (h.2 G Fa Fi hr (2 :: ws) cs (fun seg hm => ?_))
    rw [zs_eo_p rfl, List.append_assoc]
    exact hg _ (zs_mn_un hm (fun nm rk vs ts => rfl))
  · exact zs_opg hr ho hk (c := 2) (by omega) (h G Fa Fi hr (2 :: ws) cs (fun _ => zs_aa_n (by decide)) hf)
theorem zs_eo_41 {k o : Nat} {ws : List Nat} {cs : List (Nat × Nat)} : zs_eo T k (41 :: ws) o cs = if T k = 19 then .inl (k + 1, 4 :: ws, o, false, cs) else .inr (1, k) := by
  unfold zs_eo
  rw [zs_se_st (show zk_rk 41 < 7 by decide)]
  rfl
theorem zs_7d : zd_7d T (zs_RR T V cl) (zs_FF T V cl) := by
  intro o k ho hk
  refine ⟨fun f j h G Fa Fi hr ws cs _ hf => ?_, fun k1 D1 h h19 G Fa Fi hr ws cs _ hf => ?_, fun k1 D1 f j h h19 h2 G Fa Fi hr ws cs _ hf => ?_, fun k1 D1 k2 D2 h h19 h2 => ⟨fun nm nm' rk e => by show zq_ar 11 _ _ = zq_ar 11 _ _; rw [h.1 nm nm' rk e, h2.1 nm nm' rk e], fun G Fa Fi hr ws cs hg => ?_⟩⟩
  · exact zs_opg hr ho hk (c := 41) (by omega) (h G Fa Fi hr (41 :: ws) cs (fun _ => zs_aa_o (by decide) (by decide)) hf)
  · refine zs_opg hr ho hk (c := 41) (by omega) (h.2 G Fa Fi hr (41 :: ws) cs (fun seg hm => ?_))
    rw [zs_eo_41, if_neg h19]
    exact hf
  · refine zs_opg hr ho hk (c := 41) (by omega) (h.2 G Fa Fi hr (41 :: ws) cs (fun seg hm => ?_))
    rw [zs_eo_41, if_pos h19]
    exact h2 G Fa Fi hr (4 :: ws) (cs ++ seg) (fun _ => zs_aa_n (by decide)) hf
  · refine zs_opg hr ho hk (c := 41) (by omega) (h.2 G Fa Fi hr (41 :: ws) cs (fun seg hm => ?_))
    rw [zs_eo_41, if_pos h19]
    refine h2.2 G Fa Fi hr (4 :: ws) (cs ++ seg) (fun seg2 hm2 => ?_)
    rw [zs_eo_p rfl]
    have := hg _ (zs_mn_app (x := (4, 0)) hm hm2 (fun nm rk vs ts _ => rfl))
    simp only [List.append_assoc] at this ⊢
    exact this
end
