/-! ===== writing into the book, both; the row of the reference as a World ===== -/
def zw_wm (S : zW) : Nat := if zWm S = 30 then 29 else zWm S
def zw_wb (S : zW) : Nat → Nat → Int32 := if zWm S = 30 then fun i j => zWb S (i + 1) j else zWb S
def zw_nt (S : zW) (k : Nat) (what : Int32) (j : Nat) : Int32 := match j with
  | 0 => zWd S
  | 1 => nI k
  | 2 => what
  | _ => zWa S 3 k
def zw_wr (S : zW) (k : Nat) (what : Int32) : zW := (zWd S, zWx S, zWn S, zw_wm S + 1, zWa S, zWo S, fun i j => if i = zw_wm S then zw_nt S k what j else zw_wb S i j)
theorem c10_write {E : zm_E} (hE : zm_ok E.2.2.1 E.2.2.2.2) (d : Nat) {w k : Nat} (hw : zw_ok w) (what : Int32) {M : zm_M} {S : zW} (hs : zw_sz S) (hk : k < zWn S) (hS : zw_c M w S) {Q : Option Value → zm_M → Prop} (q : ∀ M', zw_c M' w (zw_wr S k what) → zf (zw_L w) M M' → Q none M') : zm_R E (d + 1) mX10_write [.ref w, .int (nI k), .int what] M Q := by
  refine zX10_write hE rfl (fun G h0 h38 => ?_)
  show G 0 [some (.ref w), some (.int (nI k)), some (.int what), none] [] M
  have ow := eq_true hw.1; have A1 := zw_A hw 1 (by decide) (by decide); have A2 := zw_A hw 2 (by decide) (by decide); have A3 := zw_A hw 3 (by decide) (by decide); have A4 := zw_A hw 4 (by decide) (by decide); have A5 := zw_A hw 5 (by decide) (by decide); have A6 := zw_A hw 6 (by decide) (by decide); have A7 := zw_A hw 7 (by decide) (by decide); have A8 := zw_A hw 8 (by decide) (by decide); have A9 := zw_A9 hw
  have hS0 := hS
  obtain ⟨s1, s2, s3, s4, s5, s6, s7⟩ := hS
  obtain ⟨hn, hm⟩ := hs
  have i1 : vp_in (nI k) 10 := vp_in_nI (by omega) (by decide)
  have i2 : (nI k).toNatClampNeg = k := nI_clamp (by omega)
  have after : ∀ (M1 : zm_M), zf (zw_L w) M M1 → (∀ j, j ≠ 11 → M1.1 w j = M.1 w j) → M1.1 w 11 = nI (zw_wm S) → (∀ j, 1 ≤ j → j ≤ 8 → M1.1 (w + j) = M.1 (w + j)) → (∀ i j, i < zw_wm S → j < 4 → M1.1 (w + 9) (4 * i + j) = zw_wb S i j) → G 38 [some (.ref w), some (.int (nI k)), some (.int what), none] [] M1 := by
    intro M1 f1 f2 f3 f4 f5
    have hm' : zw_wm S ≤ 29 := by unfold zw_wm; split <;> omega
    have e0 : nI (zw_wm S) * (4 : Int32) = nI (4 * zw_wm S) := by have := zx_m4 (zw_wm S) 0; rw [Nat.add_zero] at this; rw [← this]; exact (Int32.add_zero _).symm
    have e1 : nI (4 * zw_wm S) + 1 = nI (4 * zw_wm S + 1) := nI_1 _
    have e2 : nI (4 * zw_wm S) + 2 = nI (4 * zw_wm S + 2) := nI_add _ 2
    have e3 : nI (4 * zw_wm S) + 3 = nI (4 * zw_wm S + 3) := nI_add _ 3
    have v0 : vp_in (nI (4 * zw_wm S)) 120 := vp_in_nI (by omega) (by decide)
    have c0 : (nI (4 * zw_wm S)).toNatClampNeg = 4 * zw_wm S := nI_clamp (by omega)
    have v1 : vp_in (nI (4 * zw_wm S + 1)) 120 := vp_in_nI (by omega) (by decide)
    have c1 : (nI (4 * zw_wm S + 1)).toNatClampNeg = 4 * zw_wm S + 1 := nI_clamp (by omega)
    have v2 : vp_in (nI (4 * zw_wm S + 2)) 120 := vp_in_nI (by omega) (by decide)
    have c2 : (nI (4 * zw_wm S + 2)).toNatClampNeg = 4 * zw_wm S + 2 := nI_clamp (by omega)
    have v3 : vp_in (nI (4 * zw_wm S + 3)) 120 := vp_in_nI (by omega) (by decide)
    have c3 : (nI (4 * zw_wm S + 3)).toNatClampNeg = 4 * zw_wm S + 3 := nI_clamp (by omega)
    have r9 : ∀ (M : zm_M) (k : Nat) (v : Int32), (zm_wi M (w + 9) k v).1 w = M.1 w := fun M k v => zm_wi_other (by omega)
    have r94 : ∀ (M : zm_M) (k : Nat) (v : Int32), (zm_wi M (w + 9) k v).1 (w + 4) = M.1 (w + 4) := fun M k v => zm_wi_other (by omega)
    have d1 : M1.1 w 0 = zWd S := by rw [f2 0 (by decide)]; exact s1
    have z4 : M1.1 (w + 4) k = zWa S 3 k := by rw [f4 4 (by decide) (by decide)]; exact s5 3 k (by decide) hk
    refine h38 _ _ _ ?_
    simp only [bX10_write_38, zw_0, zw_1, zs_aloadn0, zs_aloadNn0, zg_10_46, zs_iconst, zs_imul, zs_istoren3, zg_10_49, zs_iloadn3, zg_10_9, zs_iastore, zs_iadd, zs_iloadn1, zs_iloadn2, zg_10_31, zs_iaload, zs_dupi, zs_dupr, zs_dupn, zq_10_46, zs_return, zc_none, zc_int, zc_ref, zc_null, zc_long, zn_int, zn_b0, zn_b1, zb_15, zb_16, zb_17, za_18, za_19, za_20, za_21, za_22, zb_23, za_24, za_25, za_26, za_27, za_28, za_29, za_30, za_31, za_32, zb_35, za_36, za_37, za_38, za_39, za_40, zb_377, zb_378, za_379, za_380, za_381, za_382, za_383, zb_384, za_385, za_386, za_387, za_388, za_389, za_390, za_391, za_392, za_393, zb_396, za_397, za_398, za_399, za_400, za_401, zb_738, za_739, za_740, za_741, za_742, za_743, za_744, za_745, za_746, za_747, zb_748, za_749, za_750, zb_751, zb_752, za_753, za_754, za_755, za_756, zb_757, za_758, za_759, za_760, zb_761, za_763, za_764, za_765, zu_0, zu_1, zu_2, zu_3, zu_4, zu_5, zu_6, zu_7, zu_8, zu_9, zu_10, zu_11, zu_12, zu_13, zu_14, zu_15, zu_16, zu_17, zu_18, zu_19, zu_20, zu_21, zu_22, zu_23, zu_24, zu_25, zu_26, zu_27, zu_28, zu_29, zu_30, zu_90, zv_0_9, zv_1_9, zv_2_9, zv_3_9, zv_4_9, zv_5_9, zv_6_9, zv_7_9, zv_8_9, zv_0_330, zv_0_4544, zv_1_4544, zv_2_4544, zv_3_4544, zv_4_4544, zv_5_4544, zv_6_4544, zv_7_4544, zv_8_4544, zv_9_4544, zv_10_4544, zv_11_4544, zv_12_4544, zv_13_4544, zv_14_4544, zv_15_4544, zv_16_4544, zv_17_4544, zv_18_4544, zv_19_4544, zv_20_4544, zv_21_4544, zv_22_4544, zv_23_4544, zv_24_4544, zv_25_4544, zv_26_4544, zv_27_4544, zv_28_4544, zv_29_4544, zv_0_11, zv_1_11, zv_0_160, true_and, and_true, Nat.reduceAdd, ow, A1, A2, A3, A4, A5, A6, A7, A8, A9, f3, e0, e1, e2, e3, v0, c0, v1, c1, v2, c2, v3, c3, r9, r94, d1, z4, i1, i2, nI_1]
    refine q _ ⟨?_, ?_, ?_, ?_, fun f k hf hk => ?_, fun i hi => ?_, fun i j hi hj => ?_⟩ ?_
    · rw [zm_wi_same, if_neg (by decide), r9, r9, r9, r9]; exact d1
    · rw [zm_wi_same, if_neg (by decide), r9, r9, r9, r9, f2 1 (by decide)]; exact s2
    · rw [zm_wi_same, if_neg (by decide), r9, r9, r9, r9, f2 2 (by decide)]; exact s3
    · rw [zm_wi_same, if_pos rfl]; rfl
    · rw [zm_wi_other (by omega), zm_wi_other (by omega), zm_wi_other (by omega), zm_wi_other (by omega), zm_wi_other (by omega), f4 (1 + f) (by omega) (by omega)]
      exact s5 f k hf hk
    · rw [zm_wi_other (by omega), zm_wi_other (by omega), zm_wi_other (by omega), zm_wi_other (by omega), zm_wi_other (by omega), f4 8 (by omega) (by omega)]
      exact s6 i hi
    · have hi : i < zw_wm S + 1 := hi
      rw [zm_wi_other (by omega), zm_wi_same, zm_wi_same, zm_wi_same, zm_wi_same]
      show _ = (if i = zw_wm S then zw_nt S k what j else zw_wb S i j)
      by_cases c : i = zw_wm S
      · rw [if_pos c, c]
        rcases (show j = 0 ∨ j = 1 ∨ j = 2 ∨ j = 3 by omega) with rfl | rfl | rfl | rfl
        · rw [if_neg (by omega), if_neg (by omega), if_neg (by omega), if_pos (by omega)]; rfl
        · rw [if_neg (by omega), if_neg (by omega), if_pos (by omega)]; rfl
        · rw [if_neg (by omega), if_pos (by omega)]; rfl
        · rw [if_pos (by omega)]; rfl
      · rw [if_neg c, if_neg (by omega), if_neg (by omega), if_neg (by omega), if_neg (by omega)]
        exact f5 i j (by omega) hj
    · refine zf_wi (zf_wi (zf_wi (zf_wi (zf_wi f1 ?_) ?_) ?_) ?_) ?_ <;> simp [zw_L]
  refine h0 _ _ _ ?_
  have c30 : (nI (zWm S) = 30) = (zWm S = 30) := propext (nI_eq (b := 30) (by omega) (by decide))
  have r0 : (zm_wi M w 11 (nI (zWm S) - 1)).1 w 11 = nI (zWm S) - 1 := by rw [zm_wi_same, if_pos rfl]
  simp only [bX10_write_0, zw_0, zw_1, zs_aloadn0, zs_aloadNn0, zg_10_46, zs_bipush, zs_icne, zs_dupi, zs_dupr, zs_dupn, zs_iconst, zs_isub, zq_10_46, zg_10_49, zs_imul, zi_10_52, zh_0, zh_1, zh_2, zh_3, zh_4, zt_i, zt_l, zt_r, zt_n, zb_15, zb_16, zb_17, za_18, za_19, za_20, za_21, za_22, zb_23, za_24, za_25, za_26, za_27, za_28, za_29, za_30, za_31, za_32, zb_35, za_36, za_37, za_38, za_39, za_40, zb_377, zb_378, za_379, za_380, za_381, za_382, za_383, zb_384, za_385, za_386, za_387, za_388, za_389, za_390, za_391, za_392, za_393, zb_396, za_397, za_398, za_399, za_400, za_401, zb_738, za_739, za_740, za_741, za_742, za_743, za_744, za_745, za_746, za_747, zb_748, za_749, za_750, zb_751, zb_752, za_753, za_754, za_755, za_756, zb_757, za_758, za_759, za_760, zb_761, za_763, za_764, za_765, true_and, and_true, Nat.reduceAdd, ow, A1, A2, A3, A4, A5, A6, A7, A8, A9, s4, c30]
  refine ⟨fun h => after M zf_refl (fun _ _ => rfl) (by unfold zw_wm; rw [if_neg h]; exact s4) (fun _ _ _ => rfl) (fun i j hi hj => ?_), fun h => ?_⟩
  · unfold zw_wm at hi; rw [if_neg h] at hi
    unfold zw_wb; rw [if_neg h]; exact s7 i j hi hj
  · rw [r0, h]
    have wm : zw_wm S = 29 := by unfold zw_wm; rw [if_pos h]
    refine ⟨⟨120, 120, hw.2.2, hw.2.2, by decide, by decide, by decide, by decide, by decide⟩, after _ ?_ (fun j hj => ?_) ?_ (fun j h1 h2 => ?_) (fun i j hi hj => ?_)⟩
    · exact zf_wa (zf_wi zf_refl (by simp [zw_L])) (by simp [zw_L])
    · rw [zm_wa_other (by omega), zm_wi_same, if_neg hj]
    · rw [zm_wa_other (by omega), zm_wi_same, if_pos rfl, wm]; rfl
    · rw [zm_wa_other (by omega), zm_wi_other (by omega)]
    · rw [wm] at hi
      have e116 : ((30 : Int32) - 1) * 4 = nI 116 := by decide
      rw [zm_wa_same]
      rw [show (nI 30 - 1) * 4 = nI 116 by decide, nI_clamp (by decide), show Int32.toNatClampNeg 4 = 4 from rfl, show Int32.toNatClampNeg 0 = 0 from rfl, pk_cpy_in (by omega) (by omega), zm_wi_other (by omega)]
      unfold zw_wb
      rw [if_pos h, show 4 + (4 * i + j - 0) = 4 * (i + 1) + j by omega]
      exact s7 (i + 1) j (by omega) hj
/-! the row of the reference -/
def zw_r (f g : Nat → Int32) (S : zW) : Prop := f 0 = zWd S ∧ f 1 = zWx S ∧ f 2 = nI (zWn S) ∧ f 3 = nI (zWm S) ∧ (∀ p, p < 10 → f (4 + p) = zWo S p) ∧ (∀ x k, x < 7 → k < zWn S → f (14 + 7 * k + x) = zWa S x k) ∧ (∀ i, i < zWm S → g (2 * i) = zWb S i 0 ∧ g (2 * i + 1) = (zWb S i 1 * 4 + zWb S i 2) * 10000 + zWb S i 3)
def zw_m (M : zm_M) (S : zW) : Prop := zw_r (fun k => M.1 1 (6 + k)) (fun i => M.1 1 (4484 + i)) S
theorem zw_m_ap {M : zm_M} {S : zW} (h : zw_m M S) {x k : Nat} (hx : x < 7) (hk : k < zWn S) : zp M x k = zWa S x k := by
  have := h.2.2.2.2.2.1 x k hx hk
  rw [← this]
  show M.1 1 (20 + 7 * k + x) = M.1 1 (6 + (14 + 7 * k + x))
  rw [show 6 + (14 + 7 * k + x) = 20 + 7 * k + x by omega]
theorem zw_m_aw {M : zm_M} {S : zW} (h : zw_m M S) {p : Nat} (hp : p < 10) : M.1 1 (10 + p) = zWo S p := by
  rw [← h.2.2.2.2.1 p hp]
  show M.1 1 (10 + p) = M.1 1 (6 + (4 + p))
  rw [show 6 + (4 + p) = 10 + p by omega]
def zh_in (j : Nat) : Prop := (6 ≤ j ∧ j < 90) ∨ (4484 ≤ j ∧ j < 4544)
def zh (L : List Nat) (M M' : zm_M) : Prop := zf (1 :: L) M M' ∧ ∀ j, ¬ zh_in j → M'.1 1 j = M.1 1 j
theorem zh_refl {L : List Nat} {M : zm_M} : zh L M M := ⟨zf_refl, fun _ _ => rfl⟩
theorem zh_trans {L : List Nat} {M M' M'' : zm_M} (h : zh L M M') (h2 : zh L M' M'') : zh L M M'' := ⟨zf_trans h.1 h2.1, fun j hj => (h2.2 j hj).trans (h.2 j hj)⟩
theorem zh_sub {L L' : List Nat} {M M' : zm_M} (h : zh L M M') (hs : ∀ q, q ∈ L → q ∈ L') : zh L' M M' := ⟨zf_sub h.1 (fun q hq => by
  rcases List.mem_cons.mp hq with z | z
  · rw [z]; exact List.mem_cons_self
  · exact List.mem_cons_of_mem _ (hs q z)), h.2⟩
theorem zh_wi {L : List Nat} {M M' : zm_M} {k : Nat} {v : Int32} (h : zh L M M') (hk : zh_in k) : zh L M (zm_wi M' 1 k v) := by
  refine ⟨zf_wi h.1 List.mem_cons_self, fun j hj => ?_⟩
  have hn : ¬ j = k := fun e => hj (e ▸ hk)
  rw [zm_wi_same, if_neg hn]
  exact h.2 j hj
theorem zh_o {L : List Nat} {M M' : zm_M} (h : zf L M M') (h1 : 1 ∉ L) : zh L M M' := ⟨zf_sub h (fun q hq => List.mem_cons_of_mem _ hq), fun j _ => by rw [(h 1 h1).1]⟩
/-- of the row, a field of an apology is put -/
def zw_pt (S : zW) (x k : Nat) (v : Int32) : zW := (zWd S, zWx S, zWn S, zWm S, fun y i => if y = x ∧ i = k then v else zWa S y i, zWo S, zWb S)
theorem zw_m_put {M : zm_M} {S : zW} (h : zw_m M S) {x k : Nat} (hs : zw_sz S) (hx : x < 7) (hk : k < 10) (v : Int32) : zw_m (zm_wi M 1 (20 + 7 * k + x) v) (zw_pt S x k v) := by
  obtain ⟨h1, h2, h3, h4, h5, h6, h7⟩ := h
  have ne : ∀ j, j ≠ 20 + 7 * k + x → (zm_wi M 1 (20 + 7 * k + x) v).1 1 j = M.1 1 j := fun j hj => by rw [zm_wi_same, if_neg hj]
  refine ⟨(ne _ (by omega)).trans h1, (ne _ (by omega)).trans h2, (ne _ (by omega)).trans h3, (ne _ (by omega)).trans h4, fun p hp => (ne _ (by omega)).trans (h5 p hp), fun y i hy hi => ?_, fun i hi => ?_⟩
  · have hi : i < zWn S := hi
    show (zm_wi M 1 (20 + 7 * k + x) v).1 1 (6 + (14 + 7 * i + y)) = if y = x ∧ i = k then v else zWa S y i
    by_cases c : y = x ∧ i = k
    · rw [if_pos c]
      obtain ⟨rfl, rfl⟩ := c
      rw [zm_wi_same, if_pos (by omega)]
    · rw [if_neg c]
      exact (ne _ (fun e => c (by have := hs.1; omega))).trans (h6 y i hy hi)
  · have hi : i < zWm S := hi
    have := hs.2
    exact ⟨(ne _ (by omega)).trans (h7 i hi).1, (ne _ (by omega)).trans (h7 i hi).2⟩
theorem c_mput {E : zm_E} (hE : zm_ok E.2.2.1 E.2.2.2.2) (d : Nat) {k x : Nat} (hk : k < 10) (hx : x < 7) (v : Int32) {M : zm_M} {S : zW} (hs : zw_sz S) (hS : zw_m M S) {Q : Option Value → zm_M → Prop} (q : ∀ M', M' = zm_wi M 1 (20 + 7 * k + x) v → zw_m M' (zw_pt S x k v) → zh [] M M' → Q none M') : zm_R E (d + 1) mX12_put [.ref 0, .int (nI k), .int (nI x), .int v] M Q := by
  refine zm_R_mono (c_put hE d (k := k) (w := x) (by omega) v M) ?_
  rintro _ M' ⟨rfl, rfl⟩
  exact q _ rfl (zw_m_put hS hs hx hk v) (zh_wi zh_refl (Or.inl (by omega)))
