/-! ===== the reference's machine keeps the rules of choices, products, sums, asks ===== -/
section
variable {T V : Nat → Nat} {cl : Nat}
theorem zs_7e : zd_7e T (zs_RR T V cl) (zs_FF T V cl) := by
  intro o k ho hk
  have aa42 : ∀ ws, zh_aa (42 :: ws) = true := fun ws => rfl
  have op : ∀ {G Fa Fi}, zs_ru T V cl G Fa Fi → ∀ ws cs, G (k + 1) (42 :: ws) (o + 1) false cs → G k ws o false cs := fun hr ws cs h => zs_opg hr ho hk (c := 42) (by omega) h
  refine ⟨fun f j h G Fa Fi hr ws cs _ hf => op hr ws cs (h G Fa Fi hr (42 :: ws) cs (aa42 ws) (fun _ => by show 0 < 1; decide) hf), fun k1 B hB => ?_⟩
  have on42 : ∀ {l} (pend ws : List Nat), zs_rg l pend → zs_on (pend ++ 42 :: ws) = 42 := fun pend ws h => zs_on_a pend h
  refine ⟨fun hx h22 G Fa Fi hr ws cs _ hf => op hr ws cs (hB.2 G Fa Fi hr (42 :: ws) cs (aa42 ws) (fun _ => by show 0 < 1; decide) (fun seg pend b hp hc hb hm => ?_)), fun h22 => ?_⟩
  · have a1 := hx.1 (by omega)
    have a2 := hx.2.1 (by omega)
    have a3 := hx.2.2.1 (by omega)
    have a4 := hx.2.2.2 (by omega)
    refine zs_stop hr ?_ ?_ (by rw [on42 pend ws hp]; decide) hf
    · unfold zs_bet
      rw [if_neg a1.1, if_neg a1.2, if_neg a2.1, if_neg a2.2, if_neg (fun z => z (on42 pend ws hp)), if_neg (by rw [hc]; decide), if_neg a3, if_neg a4]
    · unfold zs_par
      rw [if_neg (by rw [on42 pend ws hp]; decide), if_pos (on42 pend ws hp), if_neg (fun z => h22 z.1)]
  -- behind then
  have then' : ∀ {G Fa Fi}, zs_ru T V cl G Fa Fi → ∀ ws cs, (∀ seg b, (∀ nm rk, B nm rk = if b nm rk = true then 1 else 0) → zs_mb seg b → G (k1 + 1) (43 :: ws) (o + 1) false (cs ++ seg)) → G k ws o false cs := by
    intro G Fa Fi hr ws cs hg
    refine op hr ws cs (hB.2 G Fa Fi hr (42 :: ws) cs (aa42 ws) (fun _ => by show 0 < 1; decide) (fun seg pend b hp hc hb hm => ?_))
    refine zs_shut (o := o + 1) (p := 43) (ws := ws) (pend := pend) hr (c := 42) (k := k1) (by decide) hp ?_ ?_ (by decide) ?_
    · unfold zs_bet
      rw [if_neg (by omega), if_neg (by omega), if_neg (by omega), if_neg (by omega), if_neg (fun z => z (on42 pend ws hp)), if_neg (by rw [hc]; decide), if_neg (by omega), if_neg (by omega)]
    · unfold zs_par
      rw [if_neg (by rw [on42 pend ws hp]; decide), if_pos (on42 pend ws hp), if_pos ⟨h22, hc⟩]
    · unfold zs_cl
      rw [if_neg (by decide)]
      have := hg (seg ++ zs_em pend) b hb hm
      rw [← List.append_assoc] at this
      exact this
  refine ⟨fun f j h G Fa Fi hr ws cs _ hf => then' hr ws cs (fun seg b hb hm => h G Fa Fi hr (43 :: ws) (cs ++ seg) (by show 0 < 5; decide) (by show (43 : Nat) ≠ 41; decide) (fun _ => zs_aa_o (by decide) (by decide)) hf), fun k2 D2 h2 => ?_⟩
  have on43 : ∀ {l} (pend ws : List Nat), zs_rg l pend → zs_on (pend ++ 43 :: ws) = 43 := fun pend ws h => zs_on_a pend h
  refine ⟨fun hx h23 G Fa Fi hr ws cs _ hf => then' hr ws cs (fun seg b hb hm => h2.2 G Fa Fi hr (43 :: ws) (cs ++ seg) (by show 0 < 5; decide) (by show (43 : Nat) ≠ 41; decide) (fun seg2 pend hp hm2 => ?_)), fun h23 => ?_⟩
  · refine zs_stop hr (zs_bet_0 hx (by rw [on43 pend ws hp]; decide)) ?_ (by rw [on43 pend ws hp]; decide) hf
    unfold zs_par
    rw [if_neg (by rw [on43 pend ws hp]; decide), if_neg (by rw [on43 pend ws hp]; decide), if_pos (on43 pend ws hp), if_neg h23]
  have else' : ∀ {G Fa Fi}, zs_ru T V cl G Fa Fi → ∀ ws cs, (∀ seg seg2 b, (∀ nm rk, B nm rk = if b nm rk = true then 1 else 0) → zs_mb seg b → zs_mn seg2 D2 → G (k2 + 1) (44 :: ws) (o + 1) false (cs ++ (seg ++ seg2))) → G k ws o false cs := by
    intro G Fa Fi hr ws cs hg
    refine then' hr ws cs (fun seg b hb hm => h2.2 G Fa Fi hr (43 :: ws) (cs ++ seg) (by show 0 < 5; decide) (by show (43 : Nat) ≠ 41; decide) (fun seg2 pend hp hm2 => ?_))
    have := zs_shut (o := o + 1) (p := 44) (ws := ws) (pend := pend) (cs := cs ++ seg ++ seg2) hr (c := 43) (k := k2) (by decide) (zs_rg_le hp (by omega)) (zs_bet_0 (zs_nx5 (by omega)) (by rw [on43 pend ws hp]; decide)) (by
      unfold zs_par
      rw [if_neg (by rw [on43 pend ws hp]; decide), if_neg (by rw [on43 pend ws hp]; decide), if_pos (on43 pend ws hp), if_pos h23]) (by decide) (by
      unfold zs_cl
      rw [if_neg (by decide)]
      have := hg seg (seg2 ++ zs_em pend) b hb hm hm2
      simp only [List.append_assoc] at this ⊢
      exact this)
    rw [zs_cn_0 pend hp] at this; exact this
  refine ⟨fun f j h G Fa Fi hr ws cs _ hf => else' hr ws cs (fun seg seg2 b hb hm hm2 => h G Fa Fi hr (44 :: ws) (cs ++ (seg ++ seg2)) (by show 0 < 5; decide) (by show (44 : Nat) ≠ 41; decide) (fun _ => zs_aa_o (by decide) (by decide)) hf), fun k3 D3 h3 => ?_⟩
  have on44 : ∀ {l} (pend ws : List Nat), zs_rg l pend → zs_on (pend ++ 44 :: ws) = 44 := fun pend ws h => zs_on_a pend h
  refine ⟨fun hx h24 G Fa Fi hr ws cs _ hf => else' hr ws cs (fun seg seg2 b hb hm hm2 => h3.2 G Fa Fi hr (44 :: ws) (cs ++ (seg ++ seg2)) (by show 0 < 5; decide) (by show (44 : Nat) ≠ 41; decide) (fun seg3 pend hp hm3 => ?_)), fun h24 => ⟨?_, fun G Fa Fi hr ws cs hg => else' hr ws cs (fun seg seg2 b hb hm hm2 => h3.2 G Fa Fi hr (44 :: ws) (cs ++ (seg ++ seg2)) (by show 0 < 5; decide) (by show (44 : Nat) ≠ 41; decide) (fun seg3 pend hp hm3 => ?_))⟩⟩
  · refine zs_stop hr (zs_bet_0 hx (by rw [on44 pend ws hp]; decide)) ?_ (by rw [on44 pend ws hp]; decide) hf
    unfold zs_par
    rw [if_neg (by rw [on44 pend ws hp]; decide), if_neg (by rw [on44 pend ws hp]; decide), if_neg (by rw [on44 pend ws hp]; decide), if_pos (on44 pend ws hp), if_neg h24]
  · intro nm nm' rk e
    show (if B nm rk = 0 then D3 nm rk else D2 nm rk) = (if B nm' rk = 0 then D3 nm' rk else D2 nm' rk)
    rw [hB.1 nm nm' rk e, h2.1 nm nm' rk e, h3.1 nm nm' rk e]
  · have := zs_shut (o := o + 1) (p := 0) (ws := ws) (pend := pend) (cs := cs ++ (seg ++ seg2) ++ seg3) hr (c := 44) (k := k3) (by decide) (zs_rg_le hp (by omega)) (zs_bet_0 (zs_nx5 (by omega)) (by rw [on44 pend ws hp]; decide)) (by
      unfold zs_par
      rw [if_neg (by rw [on44 pend ws hp]; decide), if_neg (by rw [on44 pend ws hp]; decide), if_neg (by rw [on44 pend ws hp]; decide), if_pos (on44 pend ws hp), if_pos h24]) (by decide) (by
      unfold zs_cl
      rw [if_pos rfl, if_pos rfl]
      have := hg (seg ++ seg2 ++ (seg3 ++ zs_em pend) ++ [(3, 0)]) (by
        intro nm rk vs ts p q
        rw [zp_ls_a, zp_ls_a, zp_ls_a, hm nm rk vs ts p q]
        simp only [Option.bind_some]
        rw [hm2 nm rk vs _ p q]
        simp only [Option.bind_some]
        rw [hm3 nm rk _ _ p q]
        simp only [Option.bind_some, zp_ls]
        have e : zp_fnd 3 0 nm rk (D3 nm rk :: D2 nm rk :: vs, b nm rk :: ts) = some ((if b nm rk = true then D2 nm rk else D3 nm rk) :: vs, ts) := rfl
        rw [e, hb nm rk]
        cases b nm rk <;> rfl)
      simp only [List.append_assoc] at this ⊢
      exact this)
    rw [zs_cn_0 pend hp] at this; exact this
/-- one between two -/
theorem zs_btw {G : Nat → List Nat → Nat → Bool → List (Nat × Nat) → Prop} {Fa : Nat → Nat → Prop} {Fi : Nat → List (Nat × Nat) → Prop} (hr : zs_ru T V cl G Fa Fi) {k o c r : Nat} {ws pend : List Nat} {cs : List (Nat × Nat)} (hb : zs_bet T k (pend ++ ws) = c) (hc : ¬ c = 0) (hrk : (if zk_rk c = 4 then 5 else zk_rk c) = r) (hp : zs_rg r pend) (hw : zs_tr ws < r) (hg : G (k + 1) (c :: ws) o false (cs ++ zs_em pend)) : G k (pend ++ ws) (o + zs_cn pend) true cs := by
  refine hr.2 k (pend ++ ws) (o + zs_cn pend) cs ?_
  unfold zs_beh
  rw [hb, if_pos hc, hrk, zs_se_ps hp hw]
  exact hg
theorem zs_6 : zd_6 T (zs_RR T V cl) (zs_FF T V cl) := by
  intro o k
  refine ⟨fun f j h G Fa Fi hr ws cs _ _ hn hf => h G Fa Fi hr ws cs hn hf, fun k1 D h => ⟨h.1, fun G Fa Fi hr ws cs h6 h41 hg => h.2 G Fa Fi hr ws cs (fun seg hm => ?_)⟩, fun k1 D1 h1 hT => ?_⟩
  · rw [zs_eo_t (by omega) h41]
    have := hg seg [] (fun c hc => absurd hc (by simp)) (by rw [show zs_em [] = [] from rfl, List.append_nil]; exact hm)
    exact this
  · obtain ⟨c, hc, hbt, hrk, hc2⟩ : ∃ c, (c = 8 ∨ c = 9) ∧ (∀ ws, zs_bet T k1 ws = c) ∧ zk_rk c = 6 ∧ c + 1 = T k1 - 27 := by
      rcases hT with h | h
      · exact ⟨8, Or.inl rfl, fun ws => by unfold zs_bet; rw [h]; rfl, rfl, by omega⟩
      · exact ⟨9, Or.inr rfl, fun ws => by unfold zs_bet; rw [h]; rfl, rfl, by omega⟩
    have go : ∀ {G Fa Fi}, zs_ru T V cl G Fa Fi → ∀ ws cs, zs_tr ws < 6 → ws.headD 0 ≠ 41 → (∀ seg, zs_mn seg D1 → G (k1 + 1) (c :: ws) o false (cs ++ seg)) → G k ws o false cs := by
      intro G Fa Fi hr ws cs h6 h41 hg
      refine h1.2 G Fa Fi hr ws cs h6 h41 (fun seg pend hp hm => ?_)
      have := zs_btw (o := o) (cs := cs ++ seg) hr (hbt (pend ++ ws)) (by omega) (by rw [if_neg (by omega), hrk]) hp h6 (by rw [List.append_assoc]; exact hg _ hm)
      rw [zs_cn_0 pend (zs_rg_le hp (by omega))] at this; exact this
    refine ⟨fun f j h G Fa Fi hr ws cs h6 h41 _ hf => go hr ws cs h6 h41 (fun seg hm => h G Fa Fi hr (c :: ws) _ (fun _ => zs_aa_n (by omega)) hf), fun k2 D2 h2 => ⟨?_, fun G Fa Fi hr ws cs h6 h41 hg => go hr ws cs h6 h41 (fun seg hm => h2.2 G Fa Fi hr (c :: ws) _ (fun seg2 hm2 => ?_))⟩⟩
    · intro nm nm' rk e
      show zq_ar _ _ _ = zq_ar _ _ _
      rw [h1.1 nm nm' rk e, h2.1 nm nm' rk e]
    · rw [zs_eo_t (ws := c :: ws) (show zk_rk c < 7 by omega) (show c ≠ 41 by omega)]
      have rg : zs_rg 6 [c] := by
        intro x hx
        have : x = c := by simpa using hx
        rw [this]; omega
      have := hg (seg ++ seg2) [c] rg (zs_mn_app hm hm2 (fun nm rk vs ts _ => by rw [← hc2]; rcases hc with rfl | rfl <;> rfl))
      simp only [List.append_assoc] at this ⊢
      exact this
theorem zs_5 : zd_5 T (zs_RR T V cl) (zs_FF T V cl) := by
  intro o k
  refine ⟨fun f j h G Fa Fi hr ws cs h5 h41 hn hf => h G Fa Fi hr ws cs (by omega) h41 hn hf, fun k1 D h => ⟨h.1, fun G Fa Fi hr ws cs h5 h41 hg => h.2 G Fa Fi hr ws cs (by omega) h41 (fun seg pend hp hm => hg seg pend (zs_rg_le hp (by omega)) hm)⟩, fun k1 D1 h1 hT => ?_⟩
  obtain ⟨c, hc, hbt, hrk, hc2⟩ : ∃ c, (c = 6 ∨ c = 7) ∧ (∀ ws, zs_bet T k1 ws = c) ∧ zk_rk c = 5 ∧ c + 1 = T k1 - 27 := by
    rcases hT with h | h
    · exact ⟨6, Or.inl rfl, fun ws => by unfold zs_bet; rw [h]; rfl, rfl, by omega⟩
    · exact ⟨7, Or.inr rfl, fun ws => by unfold zs_bet; rw [h]; rfl, rfl, by omega⟩
  have go : ∀ {G Fa Fi}, zs_ru T V cl G Fa Fi → ∀ ws cs, zs_tr ws < 5 → ws.headD 0 ≠ 41 → (∀ seg, zs_mn seg D1 → G (k1 + 1) (c :: ws) o false (cs ++ seg)) → G k ws o false cs := by
    intro G Fa Fi hr ws cs h5 h41 hg
    refine h1.2 G Fa Fi hr ws cs h5 h41 (fun seg pend hp hm => ?_)
    have := zs_btw (o := o) (cs := cs ++ seg) hr (hbt (pend ++ ws)) (by omega) (by rw [if_neg (by omega), hrk]) hp h5 (by rw [List.append_assoc]; exact hg _ hm)
    rw [zs_cn_0 pend hp] at this; exact this
  refine ⟨fun f j h G Fa Fi hr ws cs h5 h41 _ hf => go hr ws cs h5 h41 (fun seg hm => h G Fa Fi hr (c :: ws) _ (show zk_rk c < 6 by omega) (show c ≠ 41 by omega) (fun _ => zs_aa_n (by omega)) hf), fun k2 D2 h2 => ⟨?_, fun G Fa Fi hr ws cs h5 h41 hg => go hr ws cs h5 h41 (fun seg hm => h2.2 G Fa Fi hr (c :: ws) _ (show zk_rk c < 6 by omega) (show c ≠ 41 by omega) (fun seg2 pend hp hm2 => ?_))⟩⟩
  · intro nm nm' rk e
    show zq_ar _ _ _ = zq_ar _ _ _
    rw [h1.1 nm nm' rk e, h2.1 nm nm' rk e]
  · have := hg (seg ++ seg2) (pend ++ [c]) (zs_rg_a (zs_rg_le hp (by omega)) (by omega)) (by
      have := zs_mn_app (x := (c, 0)) (D := fun nm rk => zq_ar (T k1 - 27) (D1 nm rk) (D2 nm rk)) hm hm2 (fun nm rk vs ts _ => by rw [← hc2]; rcases hc with rfl | rfl <;> rfl)
      rw [zs_em_a]
      simp only [List.append_assoc] at this ⊢
      exact this)
    simp only [List.append_assoc, List.cons_append, List.nil_append] at this ⊢
    exact this
theorem zs_4 : zd_4 T (zs_RR T V cl) (zs_FF T V cl) := by
  intro o k hk
  refine ⟨fun f j h G Fa Fi hr ws cs ha _ hf => h G Fa Fi hr ws cs (by have := (zs_aa_of ha).2.1; omega) (zs_aa_of ha).2.2.1 (fun z => absurd z hk) hf, fun k1 D1 h1 => ⟨fun hx hn G Fa Fi hr ws cs ha _ hf => ?_, fun l1 l2 => ?_⟩⟩
  · obtain ⟨a1, a2, a3, a4⟩ := zs_aa_of ha
    refine h1.2 G Fa Fi hr ws cs (by omega) a3 (fun seg pend hp hm => ?_)
    have on : zs_on (pend ++ ws) = 42 := (zs_on_a pend hp).trans a1
    have cm : zh_cm (pend ++ ws) = false := (zs_cm_a pend hp).trans a4
    have b1 := hx.1 (by omega)
    have b2 := hx.2.1 (by omega)
    refine zs_stop hr ?_ ?_ (by rw [on]; decide) hf
    · unfold zs_bet
      rw [if_neg b1.1, if_neg b1.2, if_neg b2.1, if_neg b2.2, if_neg (fun z => z on), if_pos cm, if_neg hn]
    · unfold zs_par
      rw [if_neg (by rw [on]; decide), if_pos on, if_neg (fun z => by rw [cm] at z; exact absurd z.2 (by decide))]
  · obtain ⟨c, hc, hc2⟩ : ∃ c, c = T k1 - 18 ∧ c + 2 = T k1 - 16 := ⟨T k1 - 18, rfl, by omega⟩
    have hrk : zk_rk c = 4 := by
      unfold zk_rk
      rw [if_neg (by omega), if_neg (by omega), if_neg (by omega), if_neg (by omega), if_pos (by omega)]
    have go : ∀ {G Fa Fi}, zs_ru T V cl G Fa Fi → ∀ ws cs, zh_aa ws = true → (∀ seg, zs_mn seg D1 → G (k1 + 1) (c :: ws) o false (cs ++ seg)) → G k ws o false cs := by
      intro G Fa Fi hr ws cs ha hg
      obtain ⟨a1, a2, a3, a4⟩ := zs_aa_of ha
      refine h1.2 G Fa Fi hr ws cs (by omega) a3 (fun seg pend hp hm => ?_)
      have on : zs_on (pend ++ ws) = 42 := (zs_on_a pend hp).trans a1
      have cm : zh_cm (pend ++ ws) = false := (zs_cm_a pend hp).trans a4
      have bt : zs_bet T k1 (pend ++ ws) = c := by
        unfold zs_bet
        rw [if_neg (by omega), if_neg (by omega), if_neg (by omega), if_neg (by omega), if_neg (fun z => z on), if_pos cm, if_pos ⟨l1, l2⟩, hc]
      have := zs_btw (o := o) (cs := cs ++ seg) (r := 5) hr bt (by omega) (by rw [if_pos hrk]) hp (by omega) (by rw [List.append_assoc]; exact hg _ hm)
      rw [zs_cn_0 pend hp] at this; exact this
    refine ⟨fun f j h G Fa Fi hr ws cs ha _ hf => go hr ws cs ha (fun seg hm => h G Fa Fi hr (c :: ws) _ (show zk_rk c < 5 by omega) (show c ≠ 41 by omega) (fun _ => zs_aa_n (by omega)) hf), fun k2 D2 h2 => ⟨?_, fun G Fa Fi hr ws cs ha _ hg => go hr ws cs ha (fun seg hm => h2.2 G Fa Fi hr (c :: ws) _ (show zk_rk c < 5 by omega) (show c ≠ 41 by omega) (fun seg2 pend hp hm2 => ?_))⟩⟩
    · intro nm nm' rk e
      show (if zq_cp _ _ _ = true then (1 : Int) else 0) = (if zq_cp _ _ _ = true then (1 : Int) else 0)
      rw [h1.1 nm nm' rk e, h2.1 nm nm' rk e]
    · have cn : zs_cn (pend ++ [c]) = 0 := by
        rw [zs_cn_a, zs_cn_0 pend hp]
        simp only [zs_cn]
        rw [if_neg (by omega)]
      have := hg (seg ++ seg2) (pend ++ [c]) (fun nm rk => zq_cp (T k1 - 16) (D1 nm rk) (D2 nm rk)) (zs_rg_a (zs_rg_le hp (by omega)) (by omega)) (by
        rw [List.append_assoc, zs_cm_a pend hp]
        show zh_cm (c :: ws) = true
        simp only [zh_cm]
        rw [if_neg (by omega)]
        exact decide_eq_true hrk) (fun nm rk => rfl) (by
        intro nm rk vs ts p q
        rw [zs_em_a, show seg ++ seg2 ++ (zs_em pend ++ zs_em [c]) = seg ++ ((seg2 ++ zs_em pend) ++ [(c, 0)]) by simp [zs_em], zp_ls_a, hm nm rk vs ts p q]
        simp only [Option.bind_some]
        rw [zp_ls_a, hm2 nm rk _ ts p q]
        simp only [Option.bind_some, zp_ls, zp_fnd]
        rw [if_neg (by omega), if_neg (by omega), if_neg (by omega), if_neg (by omega), if_neg (by omega), if_neg (by omega), if_neg (by omega), if_pos (by omega), ← hc2]
        rfl)
      rw [cn] at this
      simp only [List.append_assoc, List.cons_append, List.nil_append] at this ⊢
      exact this
theorem zs_3 : zd_3 T (zs_RR T V cl) (zs_FF T V cl) := by
  refine ⟨fun o k hk => ⟨fun f j h G Fa Fi hr ws cs ha _ hf => h G Fa Fi hr ws cs ha (fun z => absurd z (by omega)) hf, fun k1 D h => ⟨h.1, fun G Fa Fi hr ws cs ha _ hg => h.2 G Fa Fi hr ws cs ha (fun z => absurd z (by omega)) (fun seg pend b hp hc hb hm => hg seg pend b (zs_rg_le hp (by omega)) hc hb hm)⟩⟩, fun k hk G Fa Fi hr ws cs ha _ hf => ?_, fun o k ho hk => ⟨fun f j h G Fa Fi hr ws cs ha _ hf => zs_opg hr ho hk (c := 20) (by simp [ha]) (h G Fa Fi hr (20 :: ws) cs (zs_aa_c (zs_aa_of ha).1 (by decide)) (fun z => absurd z (by omega)) hf), fun k1 D h => ⟨?_, fun G Fa Fi hr ws cs ha _ hg => zs_opg hr ho hk (c := 20) (by simp [ha]) (h.2 G Fa Fi hr (20 :: ws) cs (zs_aa_c (zs_aa_of ha).1 (by decide)) (fun z => absurd z (by omega)) (fun seg pend b hp hc hb hm => ?_))⟩⟩⟩
  · refine hr.1 k ws 8 cs ?_
    rw [zs_beg_o (c := 20) hk (by simp [ha])]
    unfold zs_opn
    rw [if_pos rfl]
    exact hf
  · intro nm nm' rk e
    show (1 : Int) - _ = 1 - _
    rw [h.1 nm nm' rk e]
  · have cn : zs_cn (pend ++ [20]) = zs_cn pend + 1 := by
      rw [zs_cn_a]; rfl
    have := hg seg (pend ++ [20]) (fun nm rk => !b nm rk) (zs_rg_a hp (by decide)) (by rw [List.append_assoc]; exact hc) (fun nm rk => by
      show (1 : Int) - D nm rk = _
      rw [hb nm rk]
      cases b nm rk <;> rfl) (by
      intro nm rk vs ts p q
      rw [zs_em_a, ← List.append_assoc, zp_ls_a, hm nm rk vs ts p q]
      rfl)
    rw [cn, ← Nat.add_assoc, Nat.add_right_comm] at this
    simp only [List.append_assoc, List.cons_append, List.nil_append] at this ⊢
    exact this
theorem zs_12 (l w c op : Nat) (hl : (l = 2 ∧ w = 26 ∧ c = 21 ∧ op = 18) ∨ (l = 1 ∧ w = 25 ∧ c = 22 ∧ op = 19)) (o k k1 : Nat) (D1 : zD) (h1 : zs_RA T V cl l o k k1 D1) (hT : T k1 = w) : (∀ f j, zs_FA T V cl (l + 1) o (k1 + 1) f j → zs_FA T V cl l o k f j) ∧ (∀ k2 D2, zs_RA T V cl (l + 1) o (k1 + 1) k2 D2 → zs_RA T V cl l o k k2 (fun nm rk => if zq_cp op (D1 nm rk) (D2 nm rk) then 1 else 0)) := by
  have hrk : zk_rk c = l := by rcases hl with ⟨rfl, rfl, rfl, rfl⟩ | ⟨rfl, rfl, rfl, rfl⟩ <;> rfl
  have c40 : c < 40 ∧ ¬ c = 20 := by omega
  have go : ∀ {G Fa Fi}, zs_ru T V cl G Fa Fi → ∀ ws cs, zh_aa ws = true → zs_tr ws < l → (∀ seg b, (∀ nm rk, D1 nm rk = if b nm rk = true then 1 else 0) → zs_mb seg b → G (k1 + 1) (c :: ws) o false (cs ++ seg)) → G k ws o false cs := by
    intro G Fa Fi hr ws cs ha htr hg
    obtain ⟨a1, a2, a3, a4⟩ := zs_aa_of ha
    refine h1 G Fa Fi hr ws cs ha (fun _ => htr) (fun seg pend b hp hc hb hm => ?_)
    have on : zs_on (pend ++ ws) = 42 := (zs_on_a pend hp).trans a1
    have bt : zs_bet T k1 (pend ++ ws) = c := by
      unfold zs_bet
      rw [if_neg (by omega), if_neg (by omega), if_neg (by omega), if_neg (by omega), if_neg (fun z => z on), if_neg (by rw [hc]; decide)]
      rcases hl with ⟨rfl, rfl, rfl, rfl⟩ | ⟨rfl, rfl, rfl, rfl⟩
      · rw [if_pos hT]
      · rw [if_neg (by omega), if_pos hT]
    exact zs_btw (o := o) (cs := cs ++ seg) (r := l) hr bt (by omega) (by rw [if_neg (by omega), hrk]) hp htr (by rw [List.append_assoc]; exact hg _ b hb hm)
  have aac : ∀ ws, zh_aa ws = true → zh_aa (c :: ws) = true := fun ws ha => zs_aa_c (zs_aa_of ha).1 (by omega)
  refine ⟨fun f j h G Fa Fi hr ws cs ha htr hf => go hr ws cs ha (htr (by omega)) (fun seg b hb hm => h G Fa Fi hr (c :: ws) _ (aac ws ha) (fun _ => show zk_rk c < l + 1 by omega) hf), fun k2 D2 h2 G Fa Fi hr ws cs ha htr hg => go hr ws cs ha (htr (by omega)) (fun seg b hb hm => h2 G Fa Fi hr (c :: ws) _ (aac ws ha) (fun _ => show zk_rk c < l + 1 by omega) (fun seg2 pend b2 hp2 hc2 hb2 hm2 => ?_))⟩
  have cn : zs_cn (pend ++ [c]) = zs_cn pend := by
    rw [zs_cn_a]
    simp only [zs_cn]
    rw [if_neg (by omega)]; omega
  have := hg (seg ++ seg2) (pend ++ [c]) (fun nm rk => if op = 18 then b nm rk && b2 nm rk else b nm rk || b2 nm rk) (zs_rg_a (zs_rg_le hp2 (by omega)) (by omega)) (by rw [List.append_assoc]; exact hc2) (fun nm rk => by
    show (if zq_cp op (D1 nm rk) (D2 nm rk) = true then (1 : Int) else 0) = _
    rw [hb nm rk, hb2 nm rk]
    rcases hl with ⟨rfl, rfl, rfl, rfl⟩ | ⟨rfl, rfl, rfl, rfl⟩ <;> cases b nm rk <;> cases b2 nm rk <;> rfl) (by
    intro nm rk vs ts p q
    rw [zs_em_a, show seg ++ seg2 ++ (zs_em pend ++ zs_em [c]) = seg ++ ((seg2 ++ zs_em pend) ++ [(c, 0)]) by simp [zs_em], zp_ls_a, hm nm rk vs ts p q]
    simp only [Option.bind_some]
    rw [zp_ls_a, hm2 nm rk vs _ p q]
    rcases hl with ⟨rfl, rfl, rfl, rfl⟩ | ⟨rfl, rfl, rfl, rfl⟩ <;> rfl)
  rw [cn] at this
  simp only [List.append_assoc, List.cons_append, List.nil_append] at this ⊢
  exact this
theorem zs_cp_ok {w op : Nat} {D1 D2 : zD} (h1 : zD_ok w D1) (h2 : zD_ok w D2) : zD_ok w (fun nm rk => if zq_cp op (D1 nm rk) (D2 nm rk) then 1 else 0) := by
  intro nm nm' rk e
  show (if zq_cp _ _ _ = true then (1 : Int) else 0) = (if zq_cp _ _ _ = true then (1 : Int) else 0)
  rw [h1 nm nm' rk e, h2 nm nm' rk e]
theorem zs_2 : zd_2 T (zs_RR T V cl) (zs_FF T V cl) := by
  intro o k
  refine ⟨fun f j h G Fa Fi hr ws cs ha htr hf => h G Fa Fi hr ws cs ha (fun z => absurd z (by omega)) hf, fun k1 D h => ⟨h.1, fun G Fa Fi hr ws cs ha htr hg => h.2 G Fa Fi hr ws cs ha (fun z => absurd z (by omega)) (fun seg pend b hp hc hb hm => hg seg pend b (zs_rg_le hp (by omega)) hc hb hm)⟩, fun k1 D1 h1 hT => ?_⟩
  obtain ⟨x, y⟩ := zs_12 2 26 21 18 (by decide) o k k1 D1 h1.2 hT
  exact ⟨x, fun k2 D2 h2 => ⟨zs_cp_ok h1.1 h2.1, y k2 D2 h2.2⟩⟩
theorem zs_1 : zd_1 T (zs_RR T V cl) (zs_FF T V cl) := by
  intro o k
  refine ⟨fun f j h G Fa Fi hr ws cs ha htr hf => h G Fa Fi hr ws cs ha (fun _ => by have := htr (by omega); omega) hf, fun k1 D h => ⟨h.1, fun G Fa Fi hr ws cs ha htr hg => h.2 G Fa Fi hr ws cs ha (fun _ => by have := htr (by omega); omega) (fun seg pend b hp hc hb hm => hg seg pend b (zs_rg_le hp (by omega)) hc hb hm)⟩, fun k1 D1 h1 hT => ?_⟩
  obtain ⟨x, y⟩ := zs_12 1 25 22 19 (by decide) o k k1 D1 h1.2 hT
  exact ⟨x, fun k2 D2 h2 => ⟨zs_cp_ok h1.1 h2.1, y k2 D2 h2.2⟩⟩
end
