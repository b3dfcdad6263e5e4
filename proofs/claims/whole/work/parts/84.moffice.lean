/-! ===== the office of the reference ===== -/
def zP_mq (j : Nat) : Prop := zP_m j ∨ j = 0 ∨ (90 ≤ j ∧ j < 120)
def zMp (M M' : zm_M) : Prop := zf [0, 1, 6, 7, 8] M M' ∧ (∀ j, ¬ zP_mq j → M'.1 1 j = M.1 1 j) ∧ (∀ j, j ≠ 24 → j ≠ 25 → M'.1 0 j = M.1 0 j)
theorem zMp_refl {M : zm_M} : zMp M M := ⟨zf_refl, fun _ _ => rfl, fun _ _ _ => rfl⟩
theorem zMp_trans {M M' M'' : zm_M} (h : zMp M M') (h2 : zMp M' M'') : zMp M M'' := ⟨zf_trans h.1 h2.1, fun j hj => (h2.2.1 j hj).trans (h.2.1 j hj), fun j a b => (h2.2.2 j a b).trans (h.2.2 j a b)⟩
theorem zMp_g {M M' : zm_M} (h : zmg M M') : zMp M M' := ⟨h.1, fun j hj => h.2.1 j (fun z => hj (Or.inl z)), h.2.2⟩
theorem zMp_1 {M M' : zm_M} (h : zf [1] M M') (h2 : ∀ j, ¬ zP_mq j → M'.1 1 j = M.1 1 j) : zMp M M' := ⟨zf_sub h (by simp), h2, fun j _ _ => by rw [(h 0 (by decide)).1]⟩
def zOM (tn : Nat) (T : Nat → Option zD) (V : zO) (M : zm_M) : Prop := zMs (zOn V) tn (zOb V) (zOp V) T (zOS V) (zOs V) (zOH V) M ∧ (∀ i, i < zOn V → M.1 1 (110 + i) = zOc V i) ∧ ∀ i, i < 10 → M.1 1 (128 + i) = zOw V i
theorem zMs_17 {n tn s : Nat} {b pr : Nat → Int32} {T : Nat → Option zD} {S : zW} {H : Nat → zW} {M M' : zm_M} {n' : Nat} {b' pr' : Nat → Int32} (hs : zw_sz S) (hH : ∀ i, i < s → zw_sz (H i)) (h : zMs n tn b pr T S s H M) (f : zf [1] M M') (e : ∀ j, (¬ j = 0 ∧ ¬ (90 ≤ j ∧ j < 120)) → M'.1 1 j = M.1 1 j) (h9 : zm_s9 n' b' pr' M') : zMs n' tn b' pr' T S s H M' := by
  obtain ⟨a1, a2, a3, a4, ⟨k1, k2, k3⟩, a6⟩ := h
  exact ⟨h9, by rw [e 1 (by omega)]; exact a2, fun w hw => by rw [e 2 (by omega)]; exact zm_T_c (a3 w hw) (f 3 (by decide)).1, zw_r_c hs a4 (fun k hk => e _ (by omega)) (fun k hk => e _ (by omega)), ⟨by rw [e 3 (by omega)]; exact k1, k2, fun i hi => zw_r_c (hH i hi) (k3 i hi) (fun k hk => e _ (by omega)) (fun k hk => e _ (by omega))⟩, by rw [(f 0 (by decide)).1]; exact a6⟩
theorem zO_officer {E : zm_E} (hE : zm_ok E.2.2.1 E.2.2.2.2) (d : Nat) {tn : Nat} {T : Nat → Option zD} {V : zO} (bs pr : Int32) {M : zm_M} (hi : zOi T V) (hC : zOM tn T V M) {Q : Option Value → zm_M → Prop} (q : ∀ M', zOM tn T (zy_off V bs pr).1 M' → zMp M M' → Q (some (.int (zy_off V bs pr).2)) M') : zm_R E (d + 3) mX12_officer [.ref 0, .int bs, .int pr] M Q := by
  have hw := hi.1.1
  have h10 := hw.1
  obtain ⟨hCs, h21, h22⟩ := hC
  obtain ⟨hwM, h17, h18, h19, hpr⟩ := hCs.1
  unfold zy_off at q
  refine c_officer hE d h10 bs pr h17 (fun hb => ?_) (fun hb => ?_)
  · rw [if_pos hb] at q
    exact q M ⟨hCs, h21, h22⟩ zMp_refl
  · rw [if_neg hb] at q
    have hn9 : zOn V < 10 := by
      have : ¬ zOn V = 10 := fun z => hb (Or.inl z)
      omega
    generalize hM' : zm_wi (zm_wi (zm_wi (zm_wi M 1 (90 + zOn V) bs) 1 (100 + zOn V) pr) 1 (110 + zOn V) 0) 1 0 (nI (zOn V + 1)) = M'
    have f : zf [1] M M' := by rw [← hM']; exact zf_wi (zf_wi (zf_wi (zf_wi zf_refl (by decide)) (by decide)) (by decide)) (by decide)
    have e : ∀ j, M'.1 1 j = if j = 0 then nI (zOn V + 1) else if j = 110 + zOn V then 0 else if j = 100 + zOn V then pr else if j = 90 + zOn V then bs else M.1 1 j := by
      intro j
      rw [← hM', zm_wi_same, zm_wi_same, zm_wi_same, zm_wi_same]
    have e18 : ∀ i, i < zOn V + 1 → M'.1 1 (90 + i) = zo_u (zOb V) (zOn V) bs i := by
      intro i hi2
      rw [e, if_neg (by omega), if_neg (by omega), if_neg (by omega)]
      unfold zo_u
      by_cases c : i = zOn V
      · rw [if_pos (by omega), if_pos c]
      · rw [if_neg (by omega), if_neg c]; exact h18 i (by omega)
    have s9 : zm_s9 (zOn V + 1) (zo_u (zOb V) (zOn V) bs) (zo_u (zOp V) (zOn V) pr) M' := by
      refine ⟨zt_wf_c (zt_wf_s hw hb) (fun i hi2 => (e18 i hi2).symm), by rw [e, if_pos rfl], e18, fun i hi2 => ?_, (zOi_of hi hb).2.2.2.2⟩
      rw [e, if_neg (by omega), if_neg (by omega)]
      unfold zo_u
      by_cases c : i = zOn V
      · rw [if_pos (by omega), if_pos c]
      · rw [if_neg (by omega), if_neg (by omega), if_neg c]; exact h19 i (by omega)
    have e2 : ∀ j, (¬ j = 0 ∧ ¬ (90 ≤ j ∧ j < 120)) → M'.1 1 j = M.1 1 j := by
      intro j hj
      rw [e, if_neg hj.1, if_neg (by omega), if_neg (by omega), if_neg (by omega)]
    refine q M' ⟨zMs_17 hi.1.2.2.1.1 (fun i hi2 => (hi.1.2.2.2 i hi2).1) hCs f e2 s9, fun i hi2 => ?_, fun i hi2 => ?_⟩ (zMp_1 f (fun j hj => e2 j (by unfold zP_mq zP_m at hj; omega)))
    · have hi2 : i < zOn V + 1 := hi2
      show M'.1 1 (110 + i) = zo_u (zOc V) (zOn V) 0 i
      rw [e, if_neg (by omega)]
      unfold zo_u
      by_cases c : i = zOn V
      · rw [if_pos (by omega), if_pos c]
      · rw [if_neg (by omega), if_neg (by omega), if_neg (by omega), if_neg c]; exact h21 i (by omega)
    · show M'.1 1 (128 + i) = zo_u (zOw V) (zOn V) 1 i
      rw [e2 _ (by omega), h22 i hi2]
      unfold zo_u
      by_cases c : i = zOn V
      · rw [if_pos c, hi.2.2.1 i (by omega) hi2]
      · rw [if_neg c]
theorem zO_cousin {E : zm_E} (hE : zm_ok E.2.2.1 E.2.2.2.2) (d : Nat) {tn : Nat} {T : Nat → Option zD} {V : zO} (x y : Int32) {M : zm_M} (hi : zOi T V) (hC : zOM tn T V M) {Q : Option Value → zm_M → Prop} (q : ∀ M', zOM tn T (zy_cou V x y).1 M' → zMp M M' → Q (some (.int (zy_cou V x y).2)) M') : zm_R E (d + 3) mX12_cousin [.ref 0, .int x, .int y] M Q := by
  have h10 := hi.1.1.1
  obtain ⟨hCs, h21, h22⟩ := hC
  obtain ⟨hwM, h17, h18, h19, hpr⟩ := hCs.1
  have eb := zo_cbad_e (p := x) (q := y) h10 h21
  unfold zy_cou at q
  refine c_cousin hE d h10 x y h17 (fun hb => ?_) (fun i j hi' hj hne ex ey hb => ?_)
  · rw [if_pos (eb.mp hb)] at q
    exact q M ⟨hCs, h21, h22⟩ zMp_refl
  · rw [if_neg (fun z => hb (eb.mpr z)), ex, ey, nI_clamp (by omega), nI_clamp (by omega)] at q
    generalize hM' : zm_wi (zm_wi M 1 (110 + i) (M.1 1 (110 + i) ||| nI (2 ^ j))) 1 (110 + j) (M.1 1 (110 + j) ||| nI (2 ^ i)) = M'
    have f : zf [1] M M' := by rw [← hM']; exact zf_wi (zf_wi zf_refl (by decide)) (by decide)
    have e : ∀ k, M'.1 1 k = if k = 110 + j then (M.1 1 (110 + j) ||| nI (2 ^ i)) else if k = 110 + i then (M.1 1 (110 + i) ||| nI (2 ^ j)) else M.1 1 k := by
      intro k
      rw [← hM', zm_wi_same, zm_wi_same]
    have e2 : ∀ k, ¬ (110 ≤ k ∧ k < 120) → M'.1 1 k = M.1 1 k := by
      intro k hk
      rw [e, if_neg (by omega), if_neg (by omega)]
    have s9 : zm_s9 (zOn V) (zOb V) (zOp V) M' := ⟨zt_wf_c hwM (fun i hi => (e2 (90 + i) (by omega)).symm), by rw [e2 _ (by omega)]; exact h17, fun i hi => by rw [e2 _ (by omega)]; exact h18 i hi, fun i hi => by rw [e2 _ (by omega)]; exact h19 i hi, hpr⟩
    refine q M' ⟨zMs_17 hi.1.2.2.1.1 (fun i hi2 => (hi.1.2.2.2 i hi2).1) hCs f (fun k hk => e2 k (by omega)) s9, fun k hk => ?_, fun k hk => by rw [e2 _ (by omega)]; exact h22 k hk⟩ (zMp_1 f (fun k hk => e2 k (by unfold zP_mq zP_m at hk; omega)))
    have hk : k < zOn V := hk
    show M'.1 1 (110 + k) = zo_u (zo_u (zOc V) i (zOc V i ||| nI (2 ^ j))) j (zOc V j ||| nI (2 ^ i)) k
    rw [e, h21 i hi', h21 j hj, h21 k hk]
    unfold zo_u
    by_cases c1 : k = j
    · rw [if_pos (by omega), if_pos c1]
    · rw [if_neg (by omega), if_neg c1]
      by_cases c2 : k = i
      · rw [if_pos (by omega), if_pos c2]
      · rw [if_neg (by omega), if_neg c2]
theorem zOM_step {tn : Nat} {T : Nat → Option zD} {V : zO} {S : zW} {M M' : zm_M} (hi : zOi T V) (hC : zOM tn T V M) (hS : zw_m M' S) (hk : zk_m M' 1 (zk_n (zOs V)) (zk_ps (zOs V) (zOH V) (zOS V))) (f : zmf M M') : zOM tn T (zO_st V S) M' ∧ zMp M M' := by
  obtain ⟨hM, h21, h22⟩ := hC
  have g : zmg M M' := zmg_m f
  have h10 := hi.1.1.1
  exact ⟨⟨zMs_g hM g hS hk, fun i hi2 => by
    have hi2 : i < zOn V := hi2
    rw [g.2.1 _ (by unfold zP_m; omega)]; exact h21 i hi2, fun i hi2 => by rw [g.2.1 _ (by unfold zP_m; omega)]; exact h22 i hi2⟩, zMp_g g⟩
theorem zO_wrong {E : zm_E} (hE : zm_ok E.2.2.1 E.2.2.2.2) (d : Nat) {tn : Nat} {T : Nat → Option zD} {V : zO} (fr to sz : Int32) {M : zm_M} (hi : zOi T V) (hC : zOM tn T V M) {Q : Option Value → zm_M → Prop} (q : ∀ M', zOM tn T (zy_wro V fr to sz).1 M' → zMp M M' → Q (some (.int (zy_wro V fr to sz).2)) M') : zm_R E (d + 4) mX12_wrong [.ref 0, .int fr, .int to, .int sz] M Q := by
  have hC0 := hC
  obtain ⟨⟨c1, c2, c3, c5, c6, c7⟩, h21, h22⟩ := hC
  have ew := zo_cw_e (m := zWn (zOS V)) (fr := fr) (to := to) c1.1 c1.2.2.1
  unfold zy_wro at q
  refine c_wrong hE d fr to sz c1.1 c1.2.1 hi.1.2.2.1.1 (fun i hi2 => (hi.1.2.2.2 i hi2).1) c5 c6 (fun hb => ?_) (fun M' h1 h2 hS hk f => ?_)
  · rw [ew] at hb
    rw [if_pos hb] at q
    exact q M hC0 zMp_refl
  · rw [ew] at h1
    rw [if_neg (fun z => z.elim (fun z => by rw [h1] at z; exact absurd z (by decide)) h2)] at q
    have := zOM_step hi hC0 hS hk f
    exact q M' this.1 this.2
theorem zO_away {E : zm_E} (hE : zm_ok E.2.2.1 E.2.2.2.2) (d : Nat) {tn : Nat} {T : Nat → Option zD} {V : zO} (o dy : Int32) {M : zm_M} (hi : zOi T V) (hC : zOM tn T V M) {Q : Option Value → zm_M → Prop} (q : ∀ M', zOM tn T (zy_awa V o dy).1 M' → zMp M M' → Q (some (.int (zy_awa V o dy).2)) M') : zm_R E (d + 3) mX12_away [.ref 0, .int o, .int dy] M Q := by
  have hC0 := hC
  have h10 := hi.1.1.1
  obtain ⟨⟨c1, c2, c3, c5, c6, c7⟩, h21, h22⟩ := hC
  unfold zy_awa at q
  refine c_away hE d h10 o dy c1.2.1 hi.1.2.2.1.1 (fun i hi2 => (hi.1.2.2.2 i hi2).1) c5 c6 (fun hb => ?_) (fun M' p hp ep h2 hS hk f => ?_)
  · rw [if_pos hb] at q
    exact q M hC0 zMp_refl
  · have io : zo_is (zOn V) o = true := by rw [ep, zo_is_nI (by omega)]; exact decide_eq_true hp
    rw [if_neg (fun z => z.elim (fun z => by rw [io] at z; exact absurd z (by decide)) h2)] at q
    rw [ep, nI_clamp (by omega)] at q
    have := zOM_step hi hC0 hS hk f
    exact q M' this.1 this.2
theorem zO_sideways {E : zm_E} (hE : zm_ok E.2.2.1 E.2.2.2.2) (d : Nat) {tn : Nat} {T : Nat → Option zD} {V : zO} (a to : Int32) {M : zm_M} (hi : zOi T V) (hC : zOM tn T V M) {Q : Option Value → zm_M → Prop} (q : ∀ M', zOM tn T (zy_sid V a to).1 M' → zMp M M' → Q (some (.int (zy_sid V a to).2)) M') : zm_R E (d + 4) mX12_sideways [.ref 0, .int a, .int to] M Q := by
  have hC0 := hC
  have h10 := hi.1.1.1
  have hn := hi.1.2.2.1.1.1
  obtain ⟨⟨c1, c2, c3, c5, c6, c7⟩, h21, h22⟩ := hC
  have e18 : ∀ i, i < zOn V → zOb V i = M.1 1 (90 + i) := fun i hi2 => (c1.2.2.1 i hi2).symm
  have es := zo_cs_e (c := fun i => M.1 1 (90 + i)) (ct := fun i => M.1 1 (110 + i)) (a := a) (to := to) hi.1.1 e18 (fun i hi2 => (h21 i hi2).symm) hi.1.2.2.1
  unfold zy_sid at q
  refine c_sideways hE d a to c1.1 c1.2.1 hi.1.2.2.1.1 (zw_i_of hi.1.2.2.1) (fun i hi2 => (hi.1.2.2.2 i hi2).1) c5 c6 (fun hb => ?_) (fun M' k hk ek h1 hS hk2 f => ?_)
  · rw [← es] at hb
    rw [if_pos hb] at q
    exact q M hC0 zMp_refl
  · rw [← es] at h1
    rw [if_neg (by rw [h1]; decide), ek, nI_clamp (by omega)] at q
    have := zOM_step hi hC0 hS hk2 f
    exact q M' this.1 this.2
theorem zO_arePassed {E : zm_E} (hE : zm_ok E.2.2.1 E.2.2.2.2) (d : Nat) {tn f dd : Nat} {T : Nat → Option zD} {V : zO} {M : zm_M} (hf : f ≤ 60) (hi : zOi T V) (hdd : dd ≤ 9999) (hd : zWd (zOS V) = nI dd) (hC : zOM tn T V M) {Q : Option Value → zm_M → Prop} (q : ∀ M', zOM tn T (zO_dy T V f) M' → zMp M M' → Q (some (.int (zi_b (decide (dd + f ≤ 9999))))) M') : zm_R E (d + 8) mX12_arePassed [.ref 0, .int (nI f)] M Q := by
  have h10 := hi.1.1.1
  refine c_arePassed hE d hf hi.1 hdd hd hC.1 (fun M' h1 _ h2 => ?_)
  exact q M' ⟨h1, fun i hi2 => by
    have hi2 : i < zOn V := hi2
    rw [h2.2.1 _ (by unfold zP_m; omega)]; exact hC.2.1 i hi2, fun i hi2 => by rw [h2.2.1 _ (by unfold zP_m; omega)]; exact hC.2.2 i hi2⟩ (zMp_g h2)
