/-! ===== the office of the class ===== -/
theorem zo_cw_e {n m : Nat} {b c : Nat → Int32} {fr to : Int32} (hw : zt_wf n b) (e : ∀ i, i < n → b i = c i) : zo_cw n b m fr to = zo_cw n c m fr to := by
  have h10 := hw.1
  unfold zo_cw
  cases h1 : zo_is n fr with
  | false => simp only [Bool.false_and, Bool.and_false]
  | true =>
    cases h2 : zo_is n to with
    | false => simp only [Bool.false_and, Bool.and_false]
    | true =>
      obtain ⟨f, hf, rfl⟩ := zo_of h1 (by omega)
      obtain ⟨t, ht, rfl⟩ := zo_of h2 (by omega)
      rw [nI_clamp (by omega), nI_clamp (by omega), zt_ab_c hw e ht f hf]
theorem zo_cbad_e {n : Nat} {cs ct : Nat → Int32} {p q : Int32} (hn : n ≤ 10) (e : ∀ i, i < n → cs i = ct i) : zo_cbad n cs p q ↔ zo_cbad n ct p q := by
  unfold zo_cbad
  cases h1 : zo_is n p with
  | false => exact ⟨fun _ => Or.inl rfl, fun _ => Or.inl rfl⟩
  | true =>
    obtain ⟨f, hf, rfl⟩ := zo_of h1 (by omega)
    rw [nI_clamp (by omega), e f hf]
theorem zo_cs_e {n : Nat} {b c cs ct : Nat → Int32} {S : zW} {a to : Int32} (hw : zt_wf n b) (e : ∀ i, i < n → b i = c i) (e2 : ∀ i, i < n → cs i = ct i) (hi : zw_i n b S) : zo_cs n b cs S a to = zo_cs n c ct S a to := by
  have h10 := hw.1
  have hm := hi.1.1
  unfold zo_cs
  cases h1 : zo_is (zWn S) a with
  | false => simp only [Bool.false_and, Bool.and_false]
  | true =>
    cases h2 : zo_is n to with
    | false => simp only [Bool.false_and, Bool.and_false]
    | true =>
      obtain ⟨k, hk, rfl⟩ := zo_of h1 (by omega)
      obtain ⟨t, ht, rfl⟩ := zo_of h2 (by omega)
      obtain ⟨f, t', x, s, hh, g, a1, a2, a3, a4, a5, a6, b1, b2, b3, b4⟩ := hi.2.2.2.1 k hk
      rw [nI_clamp (by omega), nI_clamp (by omega), a2, a3, nI_clamp (by omega), nI_clamp (by omega), e2 x b3, zt_ab_c hw e b2 t ht]
def zP_q (q : Nat) : Prop := zP_d q ∨ (17 ≤ q ∧ q ≤ 22)
/-- where a clause that is played may write -/
def zCp (M M' : zm_M) : Prop := zu zP_q M M' ∧ zg 16 [3, 4] M M'
theorem zCp_refl {M : zm_M} : zCp M M := ⟨zu_refl, zg_refl⟩
theorem zCp_trans {M M' M'' : zm_M} (h : zCp M M') (h2 : zCp M' M'') : zCp M M'' := ⟨zu_trans h.1 h2.1, zg_trans h.2 h2.2⟩
theorem zCp_g {M M' : zm_M} (h : zcg M M') : zCp M M' := ⟨zu_mono h.1 (fun _ z => Or.inl z), h.2⟩
theorem zCp_f {M M' : zm_M} {L : List Nat} (h : zf L M M') (hL : ∀ q, q ∈ L → 17 ≤ q ∧ q ≤ 22) : zCp M M' := ⟨zu_zf h (fun q hq => Or.inr (hL q hq)), zg_of h (fun z => by have := hL _ z; omega)⟩
def zOC (tn : Nat) (T : Nat → Option zD) (V : zO) (M : zm_M) : Prop := zCs (zOn V) tn (zOb V) (zOp V) T (zOS V) (zOs V) (zOH V) M ∧ (∀ i, i < zOn V → M.1 21 i = zOc V i) ∧ ∀ i, i < zOn V → M.1 22 i = zOw V i
theorem zs_told_f {M : zm_M} {n : Nat} {bs pr : Int32} : zf [17, 18, 19, 20, 21, 22] M (zs_told M n bs pr) := by
  unfold zs_told
  exact zf_wi (zf_wi (zf_wi (zf_wi (zf_wi (zf_wi zf_refl (by decide)) (by decide)) (by decide)) (by decide)) (by decide)) (by decide)
theorem zCs_17 {n tn s : Nat} {b pr : Nat → Int32} {T : Nat → Option zD} {S : zW} {H : Nat → zW} {M M' : zm_M} {n' : Nat} {b' pr' : Nat → Int32} (hs : zw_sz S) (hH : ∀ i, i < s → zw_sz (H i)) (h : zCs n tn b pr T S s H M) (f : zf [17, 18, 19, 20, 21, 22] M M') (h9 : zc_s9 n' b' pr' M') : zCs n' tn b' pr' T S s H M' := by
  obtain ⟨c1, c2, c3, c4, c5, c, c6⟩ := h
  have e16 : M'.1 16 = M.1 16 := (f 16 (by decide)).1
  refine ⟨h9, fun i hi => by rw [(f 749 (by decide)).1]; exact c2 i hi, by rw [e16]; exact c3, ?_, zw_c_o hs c5 f (by simp), c, zk_c_g hH c6 (fun q hq => (f q (by simp; omega)).1)⟩
  have : zr_law M' = zr_law M := by unfold zr_law; rw [e16]
  rw [this]
  exact zc_T_f c4 f (by simp)
theorem zO11_officer {E : zm_E} (hE : zm_ok E.2.2.1 E.2.2.2.2) (d : Nat) {tn : Nat} {T : Nat → Option zD} {V : zO} (bs pr : Int32) {M : zm_M} (hi : zOi T V) (hC : zOC tn T V M) {Q : Option Value → zm_M → Prop} (q : ∀ M', zOC tn T (zy_off V bs pr).1 M' → zCp M M' → Q (some (.int (zy_off V bs pr).2)) M') : zm_R E (d + 3) mX11_officer [.ref 15, .int bs, .int pr] M Q := by
  have hw := hi.1.1
  have h10 := hw.1
  obtain ⟨hCs, h21, h22⟩ := hC
  obtain ⟨⟨hwM, hrk⟩, h17, h18, h19, hpr⟩ := hCs.1
  unfold zy_off at q
  refine c11_officer hE d h10 bs pr h17 (fun hb => ?_) (fun hb => ?_)
  · rw [if_pos hb] at q
    exact q M ⟨hCs, h21, h22⟩ zCp_refl
  · rw [if_neg hb] at q
    have f := zs_told_f (M := M) (n := zOn V) (bs := bs) (pr := pr)
    generalize hM' : zs_told M (zOn V) bs pr = M' at f
    have e18 : M'.1 18 = zo_u (M.1 18) (zOn V) bs := by
      funext i
      rw [← hM']; unfold zs_told
      rw [zm_wi_other (by decide), zm_wi_other (by decide), zm_wi_other (by decide), zm_wi_other (by decide), zm_wi_other (by decide), zm_wi_same]
      rfl
    have e19 : M'.1 19 = zo_u (M.1 19) (zOn V) pr := by
      funext i
      rw [← hM']; unfold zs_told
      rw [zm_wi_other (by decide), zm_wi_other (by decide), zm_wi_other (by decide), zm_wi_other (by decide), zm_wi_same, zm_wi_other (by decide)]
      rfl
    have e20 : M'.1 20 = zo_u (M.1 20) (zOn V) (if zo_is (zOn V) bs then M.1 20 bs.toNatClampNeg + 1 else 0) := by
      funext i
      rw [← hM']; unfold zs_told
      rw [zm_wi_other (by decide), zm_wi_other (by decide), zm_wi_other (by decide), zm_wi_same, zm_wi_other (by decide), zm_wi_other (by decide)]
      rfl
    have e21 : M'.1 21 = zo_u (M.1 21) (zOn V) 0 := by
      funext i
      rw [← hM']; unfold zs_told
      rw [zm_wi_other (by decide), zm_wi_other (by decide), zm_wi_same, zm_wi_other (by decide), zm_wi_other (by decide), zm_wi_other (by decide)]
      rfl
    have e22 : M'.1 22 = zo_u (M.1 22) (zOn V) 1 := by
      funext i
      rw [← hM']; unfold zs_told
      rw [zm_wi_other (by decide), zm_wi_same, zm_wi_other (by decide), zm_wi_other (by decide), zm_wi_other (by decide), zm_wi_other (by decide)]
      rfl
    have e17 : M'.1 17 0 = nI (zOn V + 1) := by
      rw [← hM']; unfold zs_told
      rw [zm_wi_same, if_pos rfl]
    have hwM' := zt_wf_s hwM hb
    have up : ∀ (f g : Nat → Int32) (v : Int32), (∀ i, i < zOn V → f i = g i) → ∀ i, i < zOn V + 1 → zo_u f (zOn V) v i = zo_u g (zOn V) v i := by
      intro f g v h i hi
      unfold zo_u
      by_cases c : i = zOn V
      · rw [if_pos c, if_pos c]
      · rw [if_neg c, if_neg c]; exact h i (by omega)
    have s9 : zc_s9 (zOn V + 1) (zo_u (zOb V) (zOn V) bs) (zo_u (zOp V) (zOn V) pr) M' := by
      refine ⟨⟨by rw [e18]; exact hwM', fun i hi2 => ?_⟩, e17, fun i hi2 => by rw [e18]; exact up _ _ _ h18 i hi2, fun i hi2 => by rw [e19]; exact up _ _ _ h19 i hi2, (zOi_of hi hb).2.2.2.2⟩
      rw [e18, e20]
      by_cases c : i = zOn V
      · subst c
        rw [zo_u_s]
        cases hz : zo_is (zOn V) bs with
        | true =>
          obtain ⟨j, hj, rfl⟩ := zo_of hz (by omega)
          rw [if_pos rfl, nI_clamp (by omega), zt_rk_boss hwM' (by omega) hj zo_u_s, hrk j hj, ← zt_rk_c hwM zt_eq_u j hj, nI_1]
        | false =>
          rw [if_neg (by decide)]
          have : bs = -1 := by
            refine Classical.byContradiction (fun z => hb (Or.inr (Or.inl ?_)))
            by_cases c0 : zOn V = 0
            · rw [if_pos c0]; exact z
            · rw [if_neg c0]; exact hz
          rw [zt_rk_none (by rw [zo_u_s]; exact this)]
          rfl
      · rw [zo_u_o c, hrk i (by omega), zt_rk_c hwM zt_eq_u i (by omega)]
    refine q M' ⟨zCs_17 hi.1.2.2.1.1 (fun i hi2 => (hi.1.2.2.2 i hi2).1) hCs f s9, fun i hi2 => by rw [e21]; exact up _ _ _ h21 i hi2, fun i hi2 => by rw [e22]; exact up _ _ _ h22 i hi2⟩ (zCp_f f (by simp))
theorem zO11_cousin {E : zm_E} (hE : zm_ok E.2.2.1 E.2.2.2.2) (d : Nat) {tn : Nat} {T : Nat → Option zD} {V : zO} (x y : Int32) {M : zm_M} (hi : zOi T V) (hC : zOC tn T V M) {Q : Option Value → zm_M → Prop} (q : ∀ M', zOC tn T (zy_cou V x y).1 M' → zCp M M' → Q (some (.int (zy_cou V x y).2)) M') : zm_R E (d + 2) mX11_cousin [.ref 15, .int x, .int y] M Q := by
  have h10 := hi.1.1.1
  obtain ⟨hCs, h21, h22⟩ := hC
  have eb := zo_cbad_e (p := x) (q := y) h10 h21
  unfold zy_cou at q
  refine c11_cousin hE d h10 x y hCs.1.2.1 (fun hb => ?_) (fun i j hi' hj hne ex ey hb => ?_)
  · rw [if_pos (eb.mp hb)] at q
    exact q M ⟨hCs, h21, h22⟩ zCp_refl
  · rw [if_neg (fun z => hb (eb.mpr z)), ex, ey, nI_clamp (by omega), nI_clamp (by omega)] at q
    generalize hM' : zm_wi (zm_wi M 21 i (M.1 21 i ||| nI (2 ^ j))) 21 j (M.1 21 j ||| nI (2 ^ i)) = M'
    have f : zf [21] M M' := by rw [← hM']; exact zf_wi (zf_wi zf_refl (by decide)) (by decide)
    refine q M' ⟨zCs_17 hi.1.2.2.1.1 (fun i hi2 => (hi.1.2.2.2 i hi2).1) hCs (zf_sub f (by simp)) (zc_s9_f hCs.1 f (by decide) (by decide) (by decide) (by decide)), fun k hk => ?_, fun k hk => by rw [(f 22 (by decide)).1]; exact h22 k hk⟩ (zCp_f f (by simp))
    have hk : k < zOn V := hk
    rw [← hM', zm_wi_same, zm_wi_same, h21 i hi', h21 j hj, h21 k hk]
    rfl
theorem zOC_step {tn c : Nat} {T : Nat → Option zD} {V : zO} {S : zW} {M M' : zm_M} (hi : zOi T V) (hC : zOC tn T V M) (hS : zw_c M' 23 S) (hk : zk_c M' 16 (zk_n (zOs V)) c (zk_ps (zOs V) (zOH V) (zOS V))) (f : zcf M M') : zOC tn T (zO_st V S) M' ∧ zCp M M' := by
  obtain ⟨⟨c1, c2, c3, c4, c5, c6⟩, h21, h22⟩ := hC
  have g : zcg M M' := zcg_c f
  refine ⟨⟨⟨zcs_9g c1 g, fun i hi => by rw [(f.1 749 (by unfold zP_c; omega)).1]; exact c2 i hi, by rw [g.2 6 (by decide)]; exact c3, ?_, hS, c, hk⟩, fun i hi => by rw [(f.1 21 (by unfold zP_c; omega)).1]; exact h21 i hi, fun i hi => by rw [(f.1 22 (by unfold zP_c; omega)).1]; exact h22 i hi⟩, zCp_g g⟩
  rw [zr_law_g g.2]
  exact zcs_Tg c4 g
theorem zO11_wrong {E : zm_E} (hE : zm_ok E.2.2.1 E.2.2.2.2) (d : Nat) {tn : Nat} {T : Nat → Option zD} {V : zO} (fr to sz : Int32) {M : zm_M} (hi : zOi T V) (hC : zOC tn T V M) {Q : Option Value → zm_M → Prop} (q : ∀ M', zOC tn T (zy_wro V fr to sz).1 M' → zCp M M' → Q (some (.int (zy_wro V fr to sz).2)) M') : zm_R E (d + 4) mX11_wrong [.ref 15, .int fr, .int to, .int sz] M Q := by
  have hC0 := hC
  obtain ⟨⟨c1, c2, c3, c4, c5, c, c6⟩, h21, h22⟩ := hC
  have ew := zo_cw_e (m := zWn (zOS V)) (fr := fr) (to := to) c1.1.1 c1.2.2.1
  unfold zy_wro at q
  refine c11_wrong hE d fr to sz c1.1.1 c1.2.1 hi.1.2.2.1.1 (fun i hi2 => (hi.1.2.2.2 i hi2).1) c5 c6 (fun hb => ?_) (fun M' c' h1 h2 hS hk f => ?_)
  · rw [ew] at hb
    rw [if_pos hb] at q
    exact q M hC0 zCp_refl
  · rw [ew] at h1
    rw [if_neg (fun z => z.elim (fun z => by rw [h1] at z; exact absurd z (by decide)) h2)] at q
    have := zOC_step hi hC0 hS hk f
    exact q M' this.1 this.2
theorem zO11_away {E : zm_E} (hE : zm_ok E.2.2.1 E.2.2.2.2) (d : Nat) {tn : Nat} {T : Nat → Option zD} {V : zO} (o dy : Int32) {M : zm_M} (hi : zOi T V) (hC : zOC tn T V M) {Q : Option Value → zm_M → Prop} (q : ∀ M', zOC tn T (zy_awa V o dy).1 M' → zCp M M' → Q (some (.int (zy_awa V o dy).2)) M') : zm_R E (d + 3) mX11_away [.ref 15, .int o, .int dy] M Q := by
  have hC0 := hC
  have h10 := hi.1.1.1
  obtain ⟨⟨c1, c2, c3, c4, c5, c, c6⟩, h21, h22⟩ := hC
  unfold zy_awa at q
  refine c11_away hE d h10 o dy c1.2.1 hi.1.2.2.1.1 (fun i hi2 => (hi.1.2.2.2 i hi2).1) c5 c6 (fun hb => ?_) (fun M' c' p hp ep h2 hS hk f => ?_)
  · rw [if_pos hb] at q
    exact q M hC0 zCp_refl
  · have io : zo_is (zOn V) o = true := by rw [ep, zo_is_nI (by omega)]; exact decide_eq_true hp
    rw [if_neg (fun z => z.elim (fun z => by rw [io] at z; exact absurd z (by decide)) h2)] at q
    rw [ep, nI_clamp (by omega)] at q
    have := zOC_step hi hC0 hS hk f
    exact q M' this.1 this.2
theorem zw_i_of {n : Nat} {b : Nat → Int32} {S : zW} (h : zw_i n b S) : zw_of n S := by
  intro k hk
  obtain ⟨f, t, a, s, hh, g, a1, a2, a3, a4, a5, a6, b1, b2, b3, b4⟩ := h.2.2.2.1 k hk
  exact ⟨⟨f, b1, a1⟩, ⟨t, b2, a2⟩, ⟨a, b3, a3⟩⟩
theorem zw_i_e {n : Nat} {b c : Nat → Int32} {S : zW} (hw : zt_wf n b) (e : ∀ i, i < n → b i = c i) (h : zw_i n b S) : zw_i n c S := by
  obtain ⟨h1, h2, h3, h4, h5⟩ := h
  refine ⟨h1, h2, h3, fun k hk => ?_, h5⟩
  obtain ⟨f, t, a, s, hh, g, a1, a2, a3, a4, a5, a6, b1, b2, b3, b4, b5, b6, b7, b8, b9⟩ := h4 k hk
  exact ⟨f, t, a, s, hh, g, a1, a2, a3, a4, a5, a6, b1, b2, b3, b4, b5, b6, by rw [← zt_ab_c hw e b2 f b1]; exact b7, fun z => by rw [← zt_ab_c hw e b2 a b3]; exact b8 z, fun z => by rw [← zt_ab_c hw e b3 f b1]; exact b9 z⟩
theorem zO11_sideways {E : zm_E} (hE : zm_ok E.2.2.1 E.2.2.2.2) (d : Nat) {tn : Nat} {T : Nat → Option zD} {V : zO} (a to : Int32) {M : zm_M} (hi : zOi T V) (hC : zOC tn T V M) {Q : Option Value → zm_M → Prop} (q : ∀ M', zOC tn T (zy_sid V a to).1 M' → zCp M M' → Q (some (.int (zy_sid V a to).2)) M') : zm_R E (d + 3) mX11_sideways [.ref 15, .int a, .int to] M Q := by
  have hC0 := hC
  have h10 := hi.1.1.1
  have hn := hi.1.2.2.1.1.1
  obtain ⟨⟨c1, c2, c3, c4, c5, c, c6⟩, h21, h22⟩ := hC
  have e18 : ∀ i, i < zOn V → zOb V i = M.1 18 i := fun i hi2 => (c1.2.2.1 i hi2).symm
  have es := zo_cs_e (a := a) (to := to) hi.1.1 e18 (fun i hi2 => (h21 i hi2).symm) hi.1.2.2.1
  unfold zy_sid at q
  refine c11_sideways hE d a to c1.1.1 c1.2.1 hi.1.2.2.1.1 (zw_i_of hi.1.2.2.1) (fun i hi2 => (hi.1.2.2.2 i hi2).1) c5 c6 (fun hb => ?_) (fun M' c' k hk ek h1 hS hk2 f => ?_)
  · rw [← es] at hb
    rw [if_pos hb] at q
    exact q M hC0 zCp_refl
  · rw [← es] at h1
    rw [if_neg (by rw [h1]; decide), ek, nI_clamp (by omega)] at q
    have := zOC_step hi hC0 hS hk2 f
    exact q M' this.1 this.2
theorem zO11_passDays {E : zm_E} (hE : zm_ok E.2.2.1 E.2.2.2.2) (d : Nat) {tn f : Nat} {T : Nat → Option zD} {V : zO} {M : zm_M} (hf : f ≤ 60) (htn : tn ≤ 4) (hi : zOi T V) (hC : zOC tn T V M) {Q : Option Value → zm_M → Prop} (q : ∀ x M', zOC tn T (zO_dy T V f) M' → zCp M M' → Q (some (.int x)) M') : zm_R E (d + 6) mX11_passDays [.ref 15, .int (nI f)] M Q := by
  refine c11_passDays hE d hf htn hi.1 hC.1 (fun M' h1 h2 => ?_)
  exact q _ M' ⟨h1, fun i hi => by rw [(h2.1 21 (by unfold zP_d zP_c; omega)).1]; exact hC.2.1 i hi, fun i hi => by rw [(h2.1 22 (by unfold zP_d zP_c; omega)).1]; exact hC.2.2 i hi⟩ (zCp_g h2)
