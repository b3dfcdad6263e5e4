/-! ===== Worlds: copied, kept, taken back ===== -/
theorem zs_arraylength {own : Nat} {ret : Option FieldType} {Cl : zm_Me → List Value → zm_M → (Option Value → zm_M → Prop) → Prop} {J : Nat → zm_L → List Value → zm_M → Prop} {Rt : Option Value → zm_M → Prop} {k : zm_L → List Value → zm_M → Prop} {lv : zm_L} {st : List Value} {M : zm_M} {pc npc tgt : Nat} {imm : Int32} {cs : List (Int32 × Nat)} {p : Nat} : zm_st own ret Cl J Rt (pc, .arraylength, npc, tgt, imm, cs) k lv (.ref p :: st) M = ((∃ t, t < 7 ∧ zm_ar p t (zy_ly p).2) ∧ k lv (.int (Int32.ofNat (zy_ly p).2) :: st) M) := (rfl)
def zw_ok (w : Nat) : Prop := zm_ob w 10 ∧ (∀ j, j < 8 → zm_ar (w + 1 + j) 0 10) ∧ zm_ar (w + 9) 0 120
def zw_okb (w : Nat) : Bool := decide (w + 9 < zy_N) && decide (zy_ly w = (10, 13)) && (List.range 8).all (fun j => decide (zy_ly (w + 1 + j) = (100, 10))) && decide (zy_ly (w + 9) = (100, 120))
theorem zw_ok_of {w : Nat} (h : zw_okb w = true) : zw_ok w := by
  unfold zw_okb at h
  simp only [Bool.and_eq_true, decide_eq_true_eq, List.all_eq_true, List.mem_range] at h
  obtain ⟨⟨⟨h1, h2⟩, h3⟩, h4⟩ := h
  exact ⟨⟨by omega, by rw [h2], by decide⟩, fun j hj => ⟨by omega, h3 j hj⟩, ⟨by omega, h4⟩⟩
theorem zw_23 : zw_ok 23 := zw_ok_of (by decide +kernel)
theorem zw_384 : zw_ok 384 := zw_ok_of (by decide +kernel)
theorem zw_738 : zw_ok 738 := zw_ok_of (by decide +kernel)
theorem zw_bef : ∀ i, i < 30 → zw_okb (77 + 10 * i) = true ∧ zw_okb (438 + 10 * i) = true := by decide +kernel
theorem zw_cpok {a b N : Nat} {n : Int32} (ha : zm_ar a 0 N) (hb : zm_ar b 0 N) (hn : n = nI N) (hN : N < 2 ^ 31) : (∃ la lb, zm_ar a 0 la ∧ zm_ar b 0 lb ∧ ¬ (0 : Int32) < 0 ∧ ¬ (0 : Int32) < 0 ∧ ¬ n < 0 ∧ (0 : Int32).toNatClampNeg + n.toNatClampNeg ≤ la ∧ (0 : Int32).toNatClampNeg + n.toNatClampNeg ≤ lb) := by
  refine ⟨N, N, ha, hb, by decide, by decide, ?_, ?_, ?_⟩
  · rw [hn]; exact nI_pos hN
  · rw [hn, nI_clamp hN]; show 0 + N ≤ N; omega
  · rw [hn, nI_clamp hN]; show 0 + N ≤ N; omega
/-- what System.arraycopy makes of cell b out of cell a -/
def zw_ca (M : zm_M) (a b n : Nat) : zm_M := zm_wa M b (va_cpy (M.1 a) (M.1 b) 0 0 n)
def zw_cf (M : zm_M) (a b k : Nat) : zm_M := zm_wi M b k (M.1 a k)
def zw_cp (M : zm_M) (v w : Nat) : zm_M := zw_ca (zw_cf (zw_ca (zw_ca (zw_ca (zw_ca (zw_ca (zw_ca (zw_ca (zw_ca (zw_cf (zw_cf (zw_cf M w v 0) w v 1) w v 2) (w + 1) (v + 1) 10) (w + 2) (v + 2) 10) (w + 3) (v + 3) 10) (w + 4) (v + 4) 10) (w + 5) (v + 5) 10) (w + 6) (v + 6) 10) (w + 7) (v + 7) 10) (w + 8) (v + 8) 10) w v 11) (w + 9) (v + 9) 120
theorem c10_copy {E : zm_E} (hE : zm_ok E.2.2.1 E.2.2.2.2) (d : Nat) {v w : Nat} (hv : zw_ok v) (hw : zw_ok w) {M : zm_M} {Q : Option Value → zm_M → Prop} (q : Q none (zw_cp M v w)) : zm_R E (d + 1) mX10_copy [.ref v, .ref w] M Q := by
  refine zX10_copy hE rfl (fun G h0 => ?_)
  show G 0 [some (.ref v), some (.ref w)] [] M
  have ov : zm_ob v 10 = True := eq_true hv.1
  have ow : zm_ob w 10 = True := eq_true hw.1
  have c1 := eq_true (zw_cpok (n := 10) (hw.2.1 0 (by decide)) (hv.2.1 0 (by decide)) rfl (by decide))
  have c2 := eq_true (zw_cpok (n := 10) (hw.2.1 1 (by decide)) (hv.2.1 1 (by decide)) rfl (by decide))
  have c3 := eq_true (zw_cpok (n := 10) (hw.2.1 2 (by decide)) (hv.2.1 2 (by decide)) rfl (by decide))
  have c4 := eq_true (zw_cpok (n := 10) (hw.2.1 3 (by decide)) (hv.2.1 3 (by decide)) rfl (by decide))
  have c5 := eq_true (zw_cpok (n := 10) (hw.2.1 4 (by decide)) (hv.2.1 4 (by decide)) rfl (by decide))
  have c6 := eq_true (zw_cpok (n := 10) (hw.2.1 5 (by decide)) (hv.2.1 5 (by decide)) rfl (by decide))
  have c7 := eq_true (zw_cpok (n := 10) (hw.2.1 6 (by decide)) (hv.2.1 6 (by decide)) rfl (by decide))
  have c8 := eq_true (zw_cpok (n := 10) (hw.2.1 7 (by decide)) (hv.2.1 7 (by decide)) rfl (by decide))
  have c9 := eq_true (zw_cpok (n := 120) hw.2.2 hv.2.2 rfl (by decide))
  simp only [Nat.add_zero, Nat.add_assoc, Nat.reduceAdd] at c1 c2 c3 c4 c5 c6 c7 c8
  have e9 : zy_ly (v + 9) = (100, 120) := hv.2.2.2
  have l9 : (∃ t, t < 7 ∧ zm_ar (v + 9) t (zy_ly (v + 9)).2) = True := eq_true ⟨0, by decide, by rw [e9]; exact hv.2.2⟩
  have n9 : Int32.ofNat (zy_ly (v + 9)).2 = 120 := by rw [e9]; rfl
  refine h0 _ _ _ ?_
  simp only [bX10_copy_0, zw_0, zw_1, zs_aloadn0, zs_aloadNn0, zs_aloadn1, zs_aloadNn1, zg_10_9, zq_10_9, zg_10_15, zq_10_15, zg_10_18, zq_10_18, zg_10_21, zs_iconst, zs_bipush, zi_10_52, zg_10_25, zg_10_28, zg_10_31, zg_10_34, zg_10_37, zg_10_40, zg_10_43, zg_10_46, zq_10_46, zg_10_49, zs_arraylength, zs_return, zh_0, zh_1, zh_2, zh_3, zh_4, zt_i, zt_l, zt_r, zt_n, zn_int, zn_b0, zn_b1, zb_15, zb_16, zb_17, za_18, za_19, za_20, za_21, za_22, zb_23, za_24, za_25, za_26, za_27, za_28, za_29, za_30, za_31, za_32, zb_35, za_36, za_37, za_38, za_39, za_40, zb_377, zb_378, za_379, za_380, za_381, za_382, za_383, zb_384, za_385, za_386, za_387, za_388, za_389, za_390, za_391, za_392, za_393, zb_396, za_397, za_398, za_399, za_400, za_401, zb_738, za_739, za_740, za_741, za_742, za_743, za_744, za_745, za_746, za_747, zb_748, za_749, za_750, zb_751, zb_752, za_753, za_754, za_755, za_756, zb_757, za_758, za_759, za_760, zb_761, za_763, za_764, za_765, true_and, and_true, Nat.reduceAdd, ov, ow, c1, c2, c3, c4, c5, c6, c7, c8, l9, n9, c9]
  exact q
theorem zm_wa_same (M : zm_M) (p : Nat) (f : Nat → Int32) : (zm_wa M p f).1 p = f := by simp only [zm_wa, if_true]
theorem zm_wa_other {M : zm_M} {p q : Nat} {f : Nat → Int32} (h : q ≠ p) : (zm_wa M p f).1 q = M.1 q := by simp only [zm_wa, if_neg h]
theorem zw_ca_o {M : zm_M} {a b n q : Nat} (h : q ≠ b) : (zw_ca M a b n).1 q = M.1 q := zm_wa_other h
theorem zw_ca_s {M : zm_M} {a b n i : Nat} (h : i < n) : (zw_ca M a b n).1 b i = M.1 a i := by
  unfold zw_ca
  rw [zm_wa_same, pk_cpy_in (Nat.zero_le _) (by omega)]
  rw [Nat.zero_add, Nat.sub_zero]
theorem zw_cf_o {M : zm_M} {a b k q : Nat} (h : q ≠ b) : (zw_cf M a b k).1 q = M.1 q := zm_wi_other h
theorem zw_cf_s {M : zm_M} {a b k j : Nat} : (zw_cf M a b k).1 b j = if j = k then M.1 a k else M.1 b j := zm_wi_same _ _ _ _ _
theorem zw_cp_o {M : zm_M} {v w q : Nat} (h : q < v ∨ v + 9 < q) : (zw_cp M v w).1 q = M.1 q := by
  unfold zw_cp
  rw [zw_ca_o (by omega), zw_cf_o (by omega), zw_ca_o (by omega), zw_ca_o (by omega), zw_ca_o (by omega), zw_ca_o (by omega), zw_ca_o (by omega), zw_ca_o (by omega), zw_ca_o (by omega), zw_ca_o (by omega), zw_cf_o (by omega), zw_cf_o (by omega), zw_cf_o (by omega)]
theorem zw_cp_2 (M : zm_M) (v w : Nat) : (zw_cp M v w).2 = M.2 := rfl
/-- a World is as another one was -/
def zw_like (M' M : zm_M) (v w : Nat) : Prop := M'.1 v 0 = M.1 w 0 ∧ M'.1 v 1 = M.1 w 1 ∧ M'.1 v 2 = M.1 w 2 ∧ M'.1 v 11 = M.1 w 11 ∧ (∀ j i, 1 ≤ j → j ≤ 8 → i < 10 → M'.1 (v + j) i = M.1 (w + j) i) ∧ ∀ i, i < 120 → M'.1 (v + 9) i = M.1 (w + 9) i
set_option maxHeartbeats 4000000 in
theorem zw_cp_like {M : zm_M} {v w : Nat} (h : v + 10 ≤ w ∨ w + 10 ≤ v) : zw_like (zw_cp M v w) M v w := by
  have ob : ∀ k, (zw_cp M v w).1 v k = if k = 11 then M.1 w 11 else if k = 2 then M.1 w 2 else if k = 1 then M.1 w 1 else if k = 0 then M.1 w 0 else M.1 v k := by
    intro k
    unfold zw_cp
    rw [zw_ca_o (by omega), zw_cf_s]
    rw [zw_ca_o (q := w) (by omega), zw_ca_o (q := w) (by omega), zw_ca_o (q := w) (by omega), zw_ca_o (q := w) (by omega), zw_ca_o (q := w) (by omega), zw_ca_o (q := w) (by omega), zw_ca_o (q := w) (by omega), zw_ca_o (q := w) (by omega), zw_cf_o (q := w) (by omega), zw_cf_o (q := w) (by omega), zw_cf_o (q := w) (by omega)]
    rw [zw_ca_o (q := v) (by omega), zw_ca_o (q := v) (by omega), zw_ca_o (q := v) (by omega), zw_ca_o (q := v) (by omega), zw_ca_o (q := v) (by omega), zw_ca_o (q := v) (by omega), zw_ca_o (q := v) (by omega), zw_ca_o (q := v) (by omega), zw_cf_s, zw_cf_o (q := w) (by omega), zw_cf_o (q := w) (by omega), zw_cf_s, zw_cf_o (q := w) (by omega), zw_cf_s]
  refine ⟨by rw [ob]; rfl, by rw [ob]; rfl, by rw [ob]; rfl, by rw [ob]; rfl, fun j i h1 h2 hi => ?_, fun i hi => ?_⟩
  · rcases (show j = 1 ∨ j = 2 ∨ j = 3 ∨ j = 4 ∨ j = 5 ∨ j = 6 ∨ j = 7 ∨ j = 8 by omega) with rfl | rfl | rfl | rfl | rfl | rfl | rfl | rfl
    all_goals
      unfold zw_cp
      repeat (first | rw [zw_ca_o (q := v + _) (by omega)] | rw [zw_cf_o (q := v + _) (by omega)] | rw [zw_ca_s hi])
      repeat (first | rw [zw_ca_o (by omega)] | rw [zw_cf_o (by omega)])
  · unfold zw_cp
    rw [zw_ca_s hi]
    repeat (first | rw [zw_ca_o (by omega)] | rw [zw_cf_o (by omega)])
