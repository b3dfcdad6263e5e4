/-! ===== the class: reading the sum of a law, its states ===== -/
def zd_S (tp : Nat → Nat) (n m L cl k c : Nat) (M : zm_M) : Prop := zk_R tp n m k M ∧ M.2.2 761 10 = some L ∧ M.1 761 9 = nI cl ∧ (M.1 761 1 = 0 ∧ M.1 761 2 = -1) ∧ M.1 L 7 = nI c ∧ c ≤ k
/-- behind a fault -/
def zd_E (tp : Nat → Nat) (n m L f j c : Nat) (M : zm_M) : Prop := zk_R tp n m m M ∧ M.2.2 761 10 = some L ∧ (1 ≤ f ∧ f ≤ 6) ∧ M.1 761 1 = nI f ∧ M.1 761 2 = nI (zk_st tp n j) ∧ M.1 L 7 = nI c ∧ c ≤ 300
def zd_F (L c : Nat) (M M' : zm_M) : Prop := zf [761, L, L + 7, L + 8] M M' ∧ zg 761 [1, 2, 7] M M' ∧ (∀ j, j ≠ 8 → M'.2.2 761 j = M.2.2 761 j) ∧ zg L [7] M M' ∧ ∀ i, i < c → M'.1 (L + 7) i = M.1 (L + 7) i ∧ M'.1 (L + 8) i = M.1 (L + 8) i
theorem zd_F_refl {L c : Nat} {M : zm_M} : zd_F L c M M := ⟨zf_refl, zg_refl, fun _ _ => rfl, zg_refl, fun _ _ => ⟨rfl, rfl⟩⟩
theorem zd_F_trans {L c : Nat} {M M' M'' : zm_M} (h : zd_F L c M M') (h2 : zd_F L c M' M'') : zd_F L c M M'' := ⟨zf_trans h.1 h2.1, zg_trans h.2.1 h2.2.1, fun j hj => (h2.2.2.1 j hj).trans (h.2.2.1 j hj), zg_trans h.2.2.2.1 h2.2.2.2.1, fun i hi => ⟨(h2.2.2.2.2 i hi).1.trans (h.2.2.2.2 i hi).1, (h2.2.2.2.2 i hi).2.trans (h.2.2.2.2 i hi).2⟩⟩
theorem zd_F_le {L c c' : Nat} {M M' : zm_M} (h : zd_F L c' M M') (hc : c ≤ c') : zd_F L c M M' := ⟨h.1, h.2.1, h.2.2.1, h.2.2.2.1, fun i hi => h.2.2.2.2 i (by omega)⟩
theorem zd_F_t {L c c' : Nat} {M M' M'' : zm_M} (h : zd_F L c M M') (h2 : zd_F L c' M' M'') (hc : c ≤ c') : zd_F L c M M'' := zd_F_trans h (zd_F_le h2 hc)
theorem zd_F_g {L c : Nat} {M M' : zm_M} (hL : zl_ok L) (h : zk_g M M') : zd_F L c M M' := by
  have l := hL.1.1
  refine ⟨zf_sub h.1 (by simp), h.2.1, h.2.2, fun j _ => by rw [(h.1 L (by simp; omega)).1], fun i _ => ⟨by rw [(h.1 (L + 7) (by simp; omega)).1], by rw [(h.1 (L + 8) (by simp; omega)).1]⟩⟩
theorem zk_R_c {tp : Nat → Nat} {n m k : Nat} {Z : List Nat} {M M' : zm_M} (h : zk_R tp n m k M) (f : zf Z M M') (hZ : ∀ q, q ∈ Z → q < 761) : zk_R tp n m k M' := by
  obtain ⟨⟨h1, h2, h3, h4, h5⟩, a, b, c⟩ := h
  have e : ∀ q, 761 ≤ q → M'.1 q = M.1 q ∧ M'.2.1 q = M.2.1 q ∧ M'.2.2 q = M.2.2 q := fun q hq => f q (fun z => by have := hZ q z; omega)
  refine ⟨⟨by rw [(e 761 (by omega)).1]; exact h1, h2, h3, h4, fun i hi => ?_⟩, a, by rw [(e 761 (by omega)).1]; exact b, by rw [(e 761 (by omega)).2.2]; exact c⟩
  obtain ⟨x, y, z⟩ := h5 i hi
  exact ⟨by rw [(e 762 (by omega)).2.2]; exact x, by rw [(e 763 (by omega)).1]; exact y, fun p q => by rw [(e 764 (by omega)).1]; exact z p q⟩
theorem zd_w8 {tp : Nat → Nat} {n m L cl k c : Nat} {M : zm_M} (h : zd_S tp n m L cl k c M) : M.2.2 761 8 = some (1000 + zs_T tp n k) := h.1.2.2.2
theorem zd_wE {tp : Nat → Nat} {n m L f j c : Nat} {M : zm_M} (h : zd_E tp n m L f j c M) : M.2.2 761 8 = some 1043 := by
  rw [h.1.2.2.2, zk_w_m h.1.1]
theorem zd_km {tp : Nat → Nat} {n m L cl k c : Nat} {M : zm_M} (ht : ∀ j, tp j < 256) (h : zd_S tp n m L cl k c M) (hT : ¬ zs_T tp n k = 43) : k < m := (zs_T_lt h.1.1.2.2.1 ht h.1.2.1 hT).1
theorem zd_S_g {tp : Nat → Nat} {n m L cl k k' c : Nat} {M M' : zm_M} (hL : zl_ok L) (h : zd_S tp n m L cl k c M) (hk : k ≤ k') (R : zk_R tp n m k' M') (g : zk_g M M') (f : M'.1 761 1 = M.1 761 1) (f2 : M'.1 761 2 = M.1 761 2) : zd_S tp n m L cl k' c M' := by
  have l := hL.1.1
  obtain ⟨a1, a2, a3, a4, a5, a6⟩ := h
  exact ⟨R, by rw [g.2.2 10 (by decide)]; exact a2, by rw [g.2.1 9 (by decide)]; exact a3, ⟨by rw [f]; exact a4.1, by rw [f2]; exact a4.2⟩, by rw [(g.1 L (by simp; omega)).1]; exact a5, by omega⟩
theorem zd_E_g {tp : Nat → Nat} {n m L f j c : Nat} {M M' : zm_M} (hL : zl_ok L) (h : zd_E tp n m L f j c M) (R : zk_R tp n m m M') (g : zk_g M M') (f1 : M'.1 761 1 = M.1 761 1) (f2 : M'.1 761 2 = M.1 761 2) : zd_E tp n m L f j c M' := by
  have l := hL.1.1
  obtain ⟨a1, a2, a3, a4, a5, a6, a7⟩ := h
  exact ⟨R, by rw [g.2.2 10 (by decide)]; exact a2, a3, by rw [f1]; exact a4, by rw [f2]; exact a5, by rw [(g.1 L (by simp; omega)).1]; exact a6, a7⟩
theorem zd_S_E {tp : Nat → Nat} {n m L cl k c f : Nat} {M M' : zm_M} (hL : zl_ok L) (hf : 1 ≤ f ∧ f ≤ 6) (h : zd_S tp n m L cl k c M) (R : zk_R tp n m m M') (g : zk_g M M') (t : zk_ft tp n k (nI f) M M') : zd_E tp n m L f k c M' := by
  have l := hL.1.1
  obtain ⟨a1, a2, a3, a4, a5, a6⟩ := h
  have m3 := a1.1.2.1
  have km := a1.2.1
  refine ⟨R, by rw [g.2.2 10 (by decide)]; exact a2, hf, by rw [t.1, if_pos a4.1], by rw [t.2, if_pos a4.1], by rw [(g.1 L (by simp; omega)).1]; exact a5, by omega⟩
theorem zd_ftE {tp : Nat → Nat} {n m L f j c : Nat} {k : Nat} {x : Int32} {M M' : zm_M} (h : zd_E tp n m L f j c M) (t : zk_ft tp n k x M M') : M'.1 761 1 = M.1 761 1 ∧ M'.1 761 2 = M.1 761 2 := by
  have hf := h.2.2.1
  have e : ¬ M.1 761 1 = 0 := by rw [h.2.2.2.1]; exact nI_ne0 (by omega) (by omega)
  exact ⟨by rw [t.1, if_neg e], by rw [t.2, if_neg e]⟩
section
variable {E : zm_E} {tp : Nat → Nat} {n m L cl : Nat}
theorem zd_step {d k c : Nat} {M : zm_M} (hd : 1 ≤ d) (h : zd_S tp n m L cl k c M) (hT : ¬ zs_T tp n k = 43) (hE : zm_ok E.2.2.1 E.2.2.2.2) (ht : ∀ j, tp j < 256) (hL : zl_ok L) {Q : Option Value → zm_M → Prop} (q : ∀ M', zd_S tp n m L cl (k + 1) c M' → zk_g M M' → Q none M') : zm_R E d mX5_step [.ref 761] M Q := by
  obtain ⟨d, rfl⟩ : ∃ e, d = e + 1 := ⟨d - 1, by omega⟩
  have km := zd_km ht h hT
  refine c5_step hE d h.1 (fun M1 R1 g1 a1 a2 => ?_)
  rw [if_pos km] at R1
  exact q M1 (zd_S_g hL h (by omega) R1 g1 a1 a2) g1
theorem zd_comp {d k c f : Nat} {M : zm_M} (hd : 1 ≤ d) (hf : 1 ≤ f ∧ f ≤ 6) (h : zd_S tp n m L cl k c M) (hE : zm_ok E.2.2.1 E.2.2.2.2) (hL : zl_ok L) {Q : Option Value → zm_M → Prop} (q : ∀ M', zd_E tp n m L f k c M' → zk_g M M' → Q none M') : zm_R E d mX5_complain [.ref 761, .int (nI f)] M Q := by
  obtain ⟨d, rfl⟩ : ∃ e, d = e + 1 := ⟨d - 1, by omega⟩
  exact c5_complain hE d (nI f) h.1 (fun M1 R1 g1 t1 => q M1 (zd_S_E hL hf h R1 g1 t1) g1)
theorem zd_compE {d c f j : Nat} {x : Int32} {M : zm_M} (hd : 1 ≤ d) (h : zd_E tp n m L f j c M) (hE : zm_ok E.2.2.1 E.2.2.2.2) (hL : zl_ok L) {Q : Option Value → zm_M → Prop} (q : ∀ M', zd_E tp n m L f j c M' → zk_g M M' → Q none M') : zm_R E d mX5_complain [.ref 761, .int x] M Q := by
  obtain ⟨d, rfl⟩ : ∃ e, d = e + 1 := ⟨d - 1, by omega⟩
  refine c5_complain hE d x h.1 (fun M1 R1 g1 t1 => ?_)
  obtain ⟨e1, e2⟩ := zd_ftE h t1
  exact q M1 (zd_E_g hL h R1 g1 e1 e2) g1
theorem zd_exp {d k c w : Nat} {M : zm_M} (hd : 2 ≤ d) (hw : w < 43) (h : zd_S tp n m L cl k c M) (hE : zm_ok E.2.2.1 E.2.2.2.2) (ht : ∀ j, tp j < 256) (hL : zl_ok L) {Q : Option Value → zm_M → Prop} (q1 : zs_T tp n k = w → ∀ M', zd_S tp n m L cl (k + 1) c M' → zk_g M M' → Q none M') (q2 : ¬ zs_T tp n k = w → ∀ M', zd_E tp n m L 1 k c M' → zk_g M M' → Q none M') : zm_R E d mX5_expect [.ref 761, .ref (1000 + w)] M Q := by
  obtain ⟨d, rfl⟩ : ∃ e, d = e + 2 := ⟨d - 2, by omega⟩
  refine c5_expect hE d (by omega) h.1 (fun z M1 R1 g1 a1 a2 => ?_) (fun z M1 R1 g1 t1 => ?_)
  · have km := zd_km ht h (by unfold zs_T; omega)
    rw [if_pos km] at R1
    exact q1 z M1 (zd_S_g hL h (by omega) R1 g1 a1 a2) g1
  · exact q2 z M1 (zd_S_E hL (by decide) h R1 g1 t1) g1
theorem zd_expE {d c w f j : Nat} {M : zm_M} (hd : 2 ≤ d) (hw : w < 43) (h : zd_E tp n m L f j c M) (hE : zm_ok E.2.2.1 E.2.2.2.2) (hL : zl_ok L) {Q : Option Value → zm_M → Prop} (q : ∀ M', zd_E tp n m L f j c M' → zk_g M M' → Q none M') : zm_R E d mX5_expect [.ref 761, .ref (1000 + w)] M Q := by
  obtain ⟨d, rfl⟩ : ∃ e, d = e + 2 := ⟨d - 2, by omega⟩
  refine c5_expect hE d (by omega) h.1 (fun z M1 R1 g1 a1 _ => ?_) (fun z M1 R1 g1 t1 => ?_)
  · have := zk_w_m h.1.1
    omega
  · obtain ⟨e1, e2⟩ := zd_ftE h t1
    exact q M1 (zd_E_g hL h R1 g1 e1 e2) g1
theorem zd_F_put {c : Nat} (hL : zl_ok L) {M : zm_M} {x y z : Int32} : zd_F L c M (zm_wi (zm_wi (zm_wi M (L + 7) c x) (L + 8) c y) L 7 z) := by
  have l := hL.1.1
  refine ⟨zf_wi (zf_wi (zf_wi zf_refl (by simp)) (by simp)) (by simp), fun j _ => ?_, fun _ _ => rfl, ?_, fun i hi => ⟨?_, ?_⟩⟩
  · rw [zm_wi_other (by omega), zm_wi_other (by omega), zm_wi_other (by omega)]
  · exact zg_wi (zg_wo (zg_wo zg_refl (by omega)) (by omega)) (by decide)
  · rw [zm_wi_other (by omega), zm_wi_other (by omega), zm_wi_same, if_neg (by omega)]
  · rw [zm_wi_other (by omega), zm_wi_same, if_neg (by omega), zm_wi_other (by omega)]
theorem zd_put {d k c : Nat} {op v : Int32} {M : zm_M} (hd : 1 ≤ d) (hc : c < k) (h : zd_S tp n m L cl k c M) (hE : zm_ok E.2.2.1 E.2.2.2.2) (hL : zl_ok L) {Q : Option Value → zm_M → Prop} (q : ∀ M', zd_S tp n m L cl k (c + 1) M' → zd_F L c M M' → M'.1 (L + 7) c = op → M'.1 (L + 8) c = v → Q (some (.int (nI c))) M') : zm_R E d mX1_put [.ref L, .int op, .int v] M Q := by
  obtain ⟨d, rfl⟩ : ∃ e, d = e + 1 := ⟨d - 1, by omega⟩
  have l := hL.1.1
  obtain ⟨a1, a2, a3, a4, a5, a6⟩ := h
  have m3 := a1.1.2.1
  have km := a1.2.1
  refine c1_put hE d hL op v (by omega) a5 (q _ ⟨zk_R_c (Z := [L, L + 7, L + 8]) a1 (zf_wi (zf_wi (zf_wi zf_refl (by simp)) (by simp)) (by simp)) (by simp; omega), a2, ?_, ?_, ?_, by omega⟩ (zd_F_put hL) ?_ ?_)
  · rw [zm_wi_other (by omega), zm_wi_other (by omega), zm_wi_other (by omega)]; exact a3
  · constructor
    · rw [zm_wi_other (by omega), zm_wi_other (by omega), zm_wi_other (by omega)]; exact a4.1
    · rw [zm_wi_other (by omega), zm_wi_other (by omega), zm_wi_other (by omega)]; exact a4.2
  · rw [zm_wi_same, if_pos rfl]
  · rw [zm_wi_other (by omega), zm_wi_other (by omega), zm_wi_same, if_pos rfl]
  · rw [zm_wi_other (by omega), zm_wi_same, if_pos rfl]
theorem zd_putE {d c f j : Nat} {op v : Int32} {M : zm_M} (hd : 1 ≤ d) (h : zd_E tp n m L f j c M) (hE : zm_ok E.2.2.1 E.2.2.2.2) (hL : zl_ok L) {Q : Option Value → zm_M → Prop} (q : ∀ (x : Int32) c' M', (x = -1 ∨ ∃ i, x = nI i ∧ c ≤ i ∧ i < 300) → zd_E tp n m L f j c' M' → zd_F L c M M' → c ≤ c' → Q (some (.int x)) M') : zm_R E d mX1_put [.ref L, .int op, .int v] M Q := by
  obtain ⟨d, rfl⟩ : ∃ e, d = e + 1 := ⟨d - 1, by omega⟩
  have l := hL.1.1
  have hh := h
  obtain ⟨a1, a2, a3, a4, a5, a6, a7⟩ := h
  by_cases c3 : c < 300
  · refine c1_put hE d hL op v c3 a6 (q _ (c + 1) _ (Or.inr ⟨c, rfl, Nat.le_refl _, c3⟩) ⟨zk_R_c (Z := [L, L + 7, L + 8]) a1 (zf_wi (zf_wi (zf_wi zf_refl (by simp)) (by simp)) (by simp)) (by simp; omega), a2, a3, ?_, ?_, ?_, by omega⟩ (zd_F_put hL) (by omega))
    · rw [zm_wi_other (by omega), zm_wi_other (by omega), zm_wi_other (by omega)]; exact a4
    · rw [zm_wi_other (by omega), zm_wi_other (by omega), zm_wi_other (by omega)]; exact a5
    · rw [zm_wi_same, if_pos rfl]
  · have ec : c = 300 := by omega
    subst ec
    refine zX1_put hE rfl (fun G h0 h12 => ?_)
    show G 0 [some (.ref L), some (.int op), some (.int v)] [] M
    have ol := eq_true hL.2.1
    refine h0 _ _ _ ?_
    simp only [bX1_put_0, zw_0, zw_1, zs_aloadn0, zs_aloadNn0, zg_1_34, zs_sipush, zs_iclt, zs_iconst, zs_ireturn, zn_int, zn_b0, zn_b1, zb_15, zb_16, zb_17, za_18, za_19, za_20, za_21, za_22, zb_23, za_24, za_25, za_26, za_27, za_28, za_29, za_30, za_31, za_32, zb_35, za_36, za_37, za_38, za_39, za_40, zb_377, zb_378, za_379, za_380, za_381, za_382, za_383, zb_384, za_385, za_386, za_387, za_388, za_389, za_390, za_391, za_392, za_393, zb_396, za_397, za_398, za_399, za_400, za_401, zb_738, za_739, za_740, za_741, za_742, za_743, za_744, za_745, za_746, za_747, zb_748, za_749, za_750, zb_751, zb_752, za_753, za_754, za_755, za_756, zb_757, za_758, za_759, za_760, zb_761, za_763, za_764, za_765, true_and, and_true, Nat.reduceAdd, ol, a6]
    refine ⟨fun h => absurd h (by decide), fun _ => ?_⟩
    exact q _ 300 M (Or.inl rfl) hh zd_F_refl (Nat.le_refl _)
theorem zd_leadE {d c c0 f j : Nat} {x : Int32} {M : zm_M} (hd : 1 ≤ d) (h : zd_E tp n m L f j c M) (hx : x = -1 ∨ ∃ i, x = nI i ∧ c0 ≤ i ∧ i < 300) (hE : zm_ok E.2.2.1 E.2.2.2.2) (hL : zl_ok L) {Q : Option Value → zm_M → Prop} (q : ∀ M', zd_E tp n m L f j c M' → zd_F L c0 M M' → Q none M') : zm_R E d mX1_leadHere [.ref L, .int x] M Q := by
  obtain ⟨d, rfl⟩ : ∃ e, d = e + 1 := ⟨d - 1, by omega⟩
  have l := hL.1.1
  have hh := h
  obtain ⟨a1, a2, a3, a4, a5, a6, a7⟩ := h
  rcases hx with rfl | ⟨i, rfl, i1, i2⟩
  · refine zX1_leadHere hE rfl (fun G h0 h15 => ?_)
    show G 0 [some (.ref L), some (.int (-1))] [] M
    refine h0 _ _ _ ?_
    simp only [bX1_leadHere_0, zw_0, zw_1, zs_iloadn1, zs_iconst, zs_iceq, zs_aloadn0, zs_aloadNn0, zg_1_40, zg_1_34, zs_iastore, zb_15, zb_16, zb_17, za_18, za_19, za_20, za_21, za_22, zb_23, za_24, za_25, za_26, za_27, za_28, za_29, za_30, za_31, za_32, zb_35, za_36, za_37, za_38, za_39, za_40, zb_377, zb_378, za_379, za_380, za_381, za_382, za_383, zb_384, za_385, za_386, za_387, za_388, za_389, za_390, za_391, za_392, za_393, zb_396, za_397, za_398, za_399, za_400, za_401, zb_738, za_739, za_740, za_741, za_742, za_743, za_744, za_745, za_746, za_747, zb_748, za_749, za_750, zb_751, zb_752, za_753, za_754, za_755, za_756, zb_757, za_758, za_759, za_760, zb_761, za_763, za_764, za_765, zu_0, zu_1, zu_2, zu_3, zu_4, zu_5, zu_6, zu_7, zu_8, zu_9, zu_10, zu_11, zu_12, zu_13, zu_14, zu_15, zu_16, zu_17, zu_18, zu_19, zu_20, zu_21, zu_22, zu_23, zu_24, zu_25, zu_26, zu_27, zu_28, zu_29, zu_30, zu_90, zv_0_9, zv_1_9, zv_2_9, zv_3_9, zv_4_9, zv_5_9, zv_6_9, zv_7_9, zv_8_9, zv_0_330, zv_0_4544, zv_1_4544, zv_2_4544, zv_3_4544, zv_4_4544, zv_5_4544, zv_6_4544, zv_7_4544, zv_8_4544, zv_9_4544, zv_10_4544, zv_11_4544, zv_12_4544, zv_13_4544, zv_14_4544, zv_15_4544, zv_16_4544, zv_17_4544, zv_18_4544, zv_19_4544, zv_20_4544, zv_21_4544, zv_22_4544, zv_23_4544, zv_24_4544, zv_25_4544, zv_26_4544, zv_27_4544, zv_28_4544, zv_29_4544, zv_0_11, zv_1_11, zv_0_160, true_and, and_true, Nat.reduceAdd]
    refine ⟨fun _ => ?_, fun h => absurd trivial h⟩
    refine h15 _ _ _ ?_
    simp only [bX1_leadHere_15, zw_0, zw_1, zs_return, zn_int, zn_b0, zn_b1, zb_15, zb_16, zb_17, za_18, za_19, za_20, za_21, za_22, zb_23, za_24, za_25, za_26, za_27, za_28, za_29, za_30, za_31, za_32, zb_35, za_36, za_37, za_38, za_39, za_40, zb_377, zb_378, za_379, za_380, za_381, za_382, za_383, zb_384, za_385, za_386, za_387, za_388, za_389, za_390, za_391, za_392, za_393, zb_396, za_397, za_398, za_399, za_400, za_401, zb_738, za_739, za_740, za_741, za_742, za_743, za_744, za_745, za_746, za_747, zb_748, za_749, za_750, zb_751, zb_752, za_753, za_754, za_755, za_756, zb_757, za_758, za_759, za_760, zb_761, za_763, za_764, za_765, true_and, and_true, Nat.reduceAdd]
    exact q M hh zd_F_refl
  · refine c1_leadHere hE d hL i2 a6 (q _ ⟨zk_R_c (Z := [L, L + 7, L + 8]) a1 (zf_wi zf_refl (by simp)) (by simp; omega), a2, a3, ?_, ?_, ?_, a7⟩ ⟨zf_wi zf_refl (by simp), fun j _ => by rw [zm_wi_other (by omega)], fun _ _ => rfl, zg_wo zg_refl (by omega), fun t ht => ⟨by rw [zm_wi_other (by omega)], by rw [zm_wi_same, if_neg (by omega)]⟩⟩)
    · rw [zm_wi_other (by omega)]; exact a4
    · rw [zm_wi_other (by omega)]; exact a5
    · rw [zm_wi_other (by omega)]; exact a6
theorem zd_lead {d k c i : Nat} {M : zm_M} (hd : 1 ≤ d) (hi : i < 300) (h : zd_S tp n m L cl k c M) (hE : zm_ok E.2.2.1 E.2.2.2.2) (hL : zl_ok L) {Q : Option Value → zm_M → Prop} (q : zd_S tp n m L cl k c (zm_wi M (L + 8) i (nI c)) → zd_F L i M (zm_wi M (L + 8) i (nI c)) → Q none (zm_wi M (L + 8) i (nI c))) : zm_R E d mX1_leadHere [.ref L, .int (nI i)] M Q := by
  obtain ⟨d, rfl⟩ : ∃ e, d = e + 1 := ⟨d - 1, by omega⟩
  have l := hL.1.1
  obtain ⟨a1, a2, a3, a4, a5, a6⟩ := h
  refine c1_leadHere hE d hL hi a5 (q ⟨zk_R_c (Z := [L, L + 7, L + 8]) a1 (zf_wi zf_refl (by simp)) (by simp; omega), a2, ?_, ?_, ?_, a6⟩ ⟨zf_wi zf_refl (by simp), fun j _ => by rw [zm_wi_other (by omega)], fun _ _ => rfl, zg_wo zg_refl (by omega), fun t ht => ⟨by rw [zm_wi_other (by omega)], by rw [zm_wi_same, if_neg (by omega)]⟩⟩)
  · rw [zm_wi_other (by omega)]; exact a3
  · exact ⟨by rw [zm_wi_other (by omega)]; exact a4.1, by rw [zm_wi_other (by omega)]; exact a4.2⟩
  · rw [zm_wi_other (by omega)]; exact a5
end
