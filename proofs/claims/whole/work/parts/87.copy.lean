/-! ===== a Service is copied ===== -/
/-- M1 is M, but cells P of what lies at v are as those at w were -/
def zY (v w : Nat) (M M1 : zm_M) (P : Nat → Nat → Prop) : Prop := (∀ q, (q < v ∨ v + 361 ≤ q) → M1.1 q = M.1 q) ∧ M1.2 = M.2 ∧ ∀ o j, o < 361 → P o j → M1.1 (v + o) j = M.1 (w + o) j
theorem zY_refl {v w : Nat} {M : zm_M} : zY v w M M (fun _ _ => False) := ⟨fun _ _ => rfl, rfl, fun _ _ _ h => h.elim⟩
theorem zY_mono {v w : Nat} {M M1 : zm_M} {P R : Nat → Nat → Prop} (h : zY v w M M1 P) (hr : ∀ o j, R o j → P o j) : zY v w M M1 R := ⟨h.1, h.2.1, fun o j ho hj => h.2.2 o j ho (hr o j hj)⟩
theorem zY_ca {v w a b off n : Nat} {M M1 : zm_M} {P : Nat → Nat → Prop} (hd : v + 361 ≤ w ∨ w + 361 ≤ v) (h : zY v w M M1 P) (ho : off < 361) (ha : a = w + off) (hb : b = v + off) : zY v w M (zw_ca M1 a b n) (fun o j => P o j ∨ (o = off ∧ j < n)) := by
  subst ha; subst hb
  obtain ⟨h1, h2, h3⟩ := h
  have src : M1.1 (w + off) = M.1 (w + off) := h1 _ (by omega)
  refine ⟨fun q hq => by rw [zw_ca_o (by omega)]; exact h1 q hq, h2, fun o j hoo hj => ?_⟩
  by_cases c : o = off
  · subst c
    by_cases cj : j < n
    · rw [zw_ca_s cj, src]
    · rcases hj with z | z
      · unfold zw_ca
        rw [zm_wa_same, pk_cpy_out (Or.inr (by omega))]
        exact h3 o j hoo z
      · exact absurd z.2 cj
  · rw [zw_ca_o (by omega)]
    rcases hj with z | z
    · exact h3 o j hoo z
    · exact absurd z.1 c
theorem zY_cf {v w a b off k : Nat} {M M1 : zm_M} {P : Nat → Nat → Prop} (hd : v + 361 ≤ w ∨ w + 361 ≤ v) (h : zY v w M M1 P) (ho : off < 361) (ha : a = w + off) (hb : b = v + off) : zY v w M (zw_cf M1 a b k) (fun o j => P o j ∨ (o = off ∧ j = k)) := by
  subst ha; subst hb
  obtain ⟨h1, h2, h3⟩ := h
  have src : M1.1 (w + off) = M.1 (w + off) := h1 _ (by omega)
  refine ⟨fun q hq => by rw [zw_cf_o (by omega)]; exact h1 q hq, h2, fun o j hoo hj => ?_⟩
  by_cases c : o = off
  · subst c
    rw [zw_cf_s]
    by_cases cj : j = k
    · rw [if_pos cj, src, cj]
    · rw [if_neg cj]
      rcases hj with z | z
      · exact h3 o j hoo z
      · exact absurd z.2 cj
  · rw [zw_cf_o (by omega)]
    rcases hj with z | z
    · exact h3 o j hoo z
    · exact absurd z.1 c
/-- the cells of a World that are copied -/
def zW_in (off o j : Nat) : Prop := (o = off ∧ (j = 0 ∨ j = 1 ∨ j = 2 ∨ j = 11)) ∨ (off + 1 ≤ o ∧ o ≤ off + 8 ∧ j < 10) ∨ (o = off + 9 ∧ j < 120)
theorem zY_w {v w a b off : Nat} {M M1 : zm_M} {P : Nat → Nat → Prop} (hd : v + 361 ≤ w ∨ w + 361 ≤ v) (h : zY v w M M1 P) (ho : off + 9 < 361) (ha : a = w + off) (hb : b = v + off) : zY v w M (zw_cp M1 b a) (fun o j => P o j ∨ zW_in off o j) := by
  subst ha; subst hb
  unfold zw_cp
  refine zY_mono (zY_ca hd (zY_cf hd (zY_ca hd (zY_ca hd (zY_ca hd (zY_ca hd (zY_ca hd (zY_ca hd (zY_ca hd (zY_ca hd (zY_cf hd (zY_cf hd (zY_cf hd h (off := off) (by omega) rfl rfl) (off := off) (by omega) rfl rfl) (off := off) (by omega) rfl rfl) (off := off + 1) (by omega) rfl rfl) (off := off + 2) (by omega) rfl rfl) (off := off + 3) (by omega) rfl rfl) (off := off + 4) (by omega) rfl rfl) (off := off + 5) (by omega) rfl rfl) (off := off + 6) (by omega) rfl rfl) (off := off + 7) (by omega) rfl rfl) (off := off + 8) (by omega) rfl rfl) (off := off) (by omega) rfl rfl) (off := off + 9) (by omega) rfl rfl) (fun o j hj => ?_)
  rcases hj with z | z
  · simp only [z, true_or]
  · unfold zW_in at z
    rcases z with ⟨rfl, rfl | rfl | rfl | rfl⟩ | ⟨h1, h2, h3⟩ | ⟨rfl, h3⟩
    · simp
    · simp
    · simp
    · simp
    · rcases (show o = off + 1 ∨ o = off + 2 ∨ o = off + 3 ∨ o = off + 4 ∨ o = off + 5 ∨ o = off + 6 ∨ o = off + 7 ∨ o = off + 8 by omega) with rfl | rfl | rfl | rfl | rfl | rfl | rfl | rfl <;> simp [h3]
    · simp [h3]
/-- Staff -/
def zY_cs (M : zm_M) (v w : Nat) : zm_M := zw_ca (zw_ca (zw_ca (zw_ca (zw_ca (zw_cf M w v 0) (w + 1) (v + 1) 10) (w + 2) (v + 2) 10) (w + 3) (v + 3) 10) (w + 4) (v + 4) 10) (w + 5) (v + 5) 10
def zs_ok (w : Nat) : Prop := zm_ob w 7 ∧ ∀ j, 1 ≤ j → j ≤ 5 → zm_ar (w + j) 0 10
theorem c7_copy {E : zm_E} (hE : zm_ok E.2.2.1 E.2.2.2.2) (d : Nat) {v w : Nat} (hv : zs_ok v) (hw : zs_ok w) {M : zm_M} {Q : Option Value → zm_M → Prop} (q : Q none (zY_cs M v w)) : zm_R E (d + 1) mX7_copy [.ref v, .ref w] M Q := by
  refine zX7_copy hE rfl (fun G h0 => ?_)
  show G 0 [some (.ref v), some (.ref w)] [] M
  have ov := eq_true hv.1
  have ow := eq_true hw.1
  have c1 := eq_true (zw_cpok (n := 10) (hw.2 1 (by decide) (by decide)) (hv.2 1 (by decide) (by decide)) rfl (by decide))
  have c2 := eq_true (zw_cpok (n := 10) (hw.2 2 (by decide) (by decide)) (hv.2 2 (by decide) (by decide)) rfl (by decide))
  have c3 := eq_true (zw_cpok (n := 10) (hw.2 3 (by decide) (by decide)) (hv.2 3 (by decide) (by decide)) rfl (by decide))
  have c4 := eq_true (zw_cpok (n := 10) (hw.2 4 (by decide) (by decide)) (hv.2 4 (by decide) (by decide)) rfl (by decide))
  have c5 := eq_true (zw_cpok (n := 10) (hw.2 5 (by decide) (by decide)) (hv.2 5 (by decide) (by decide)) rfl (by decide))
  refine h0 _ _ _ ?_
  simp only [bX7_copy_0, zw_0, zw_1, zs_aloadn0, zs_aloadNn0, zs_aloadn1, zs_aloadNn1, zg_7_9, zq_7_9, zg_7_15, zs_iconst, zs_bipush, zi_7_31, zg_7_19, zg_7_22, zg_7_25, zg_7_28, zs_return, zh_0, zh_1, zh_2, zh_3, zh_4, zt_i, zt_l, zt_r, zt_n, zn_int, zn_b0, zn_b1, zb_15, zb_16, zb_17, za_18, za_19, za_20, za_21, za_22, zb_23, za_24, za_25, za_26, za_27, za_28, za_29, za_30, za_31, za_32, zb_35, za_36, za_37, za_38, za_39, za_40, zb_377, zb_378, za_379, za_380, za_381, za_382, za_383, zb_384, za_385, za_386, za_387, za_388, za_389, za_390, za_391, za_392, za_393, zb_396, za_397, za_398, za_399, za_400, za_401, zb_738, za_739, za_740, za_741, za_742, za_743, za_744, za_745, za_746, za_747, zb_748, za_749, za_750, zb_751, zb_752, za_753, za_754, za_755, za_756, zb_757, za_758, za_759, za_760, zb_761, za_763, za_764, za_765, true_and, and_true, Nat.reduceAdd, ov, ow, c1, c2, c3, c4, c5]
  exact q
theorem zY_s {v w a b : Nat} {M M1 : zm_M} {P : Nat → Nat → Prop} (hd : v + 361 ≤ w ∨ w + 361 ≤ v) (h : zY v w M M1 P) (ha : a = w + 1) (hb : b = v + 1) : zY v w M (zY_cs M1 b a) (fun o j => P o j ∨ (o = 1 ∧ j = 0) ∨ (2 ≤ o ∧ o ≤ 6 ∧ j < 10)) := by
  subst ha; subst hb
  unfold zY_cs
  refine zY_mono (zY_ca hd (zY_ca hd (zY_ca hd (zY_ca hd (zY_ca hd (zY_cf hd h (off := 1) (by omega) rfl rfl) (off := 2) (by omega) rfl rfl) (off := 3) (by omega) rfl rfl) (off := 4) (by omega) rfl rfl) (off := 5) (by omega) rfl rfl) (off := 6) (by omega) rfl rfl) (fun o j hj => ?_)
  rcases hj with z | ⟨rfl, rfl⟩ | ⟨h1, h2, h3⟩
  · simp only [z, true_or]
  · simp
  · rcases (show o = 2 ∨ o = 3 ∨ o = 4 ∨ o = 5 ∨ o = 6 by omega) with rfl | rfl | rfl | rfl | rfl <;> simp [h3]
/-- Pile -/
def zY_cp (M : zm_M) (v w : Nat) : zm_M := zw_ca (zw_cf M w v 0) (w + 1) (v + 1) 8
theorem c4_copy {E : zm_E} (hE : zm_ok E.2.2.1 E.2.2.2.2) (d : Nat) {v w : Nat} (ov : zm_ob v 4 = True) (ow : zm_ob w 4 = True) (av : zm_ar (v + 1) 0 8) (aw : zm_ar (w + 1) 0 8) {M : zm_M} {Q : Option Value → zm_M → Prop} (q : Q none (zY_cp M v w)) : zm_R E (d + 1) mX4_copy [.ref v, .ref w] M Q := by
  refine zX4_copy hE rfl (fun G h0 => ?_)
  show G 0 [some (.ref v), some (.ref w)] [] M
  have c1 := eq_true (zw_cpok (n := 8) aw av rfl (by decide))
  refine h0 _ _ _ ?_
  simp only [bX4_copy_0, zw_0, zw_1, zs_aloadn0, zs_aloadNn0, zs_aloadn1, zs_aloadNn1, zg_4_9, zq_4_9, zg_4_18, zs_iconst, zs_bipush, zi_4_25, zs_return, zh_0, zh_1, zh_2, zh_3, zh_4, zt_i, zt_l, zt_r, zt_n, zn_int, zn_b0, zn_b1, zb_15, zb_16, zb_17, za_18, za_19, za_20, za_21, za_22, zb_23, za_24, za_25, za_26, za_27, za_28, za_29, za_30, za_31, za_32, zb_35, za_36, za_37, za_38, za_39, za_40, zb_377, zb_378, za_379, za_380, za_381, za_382, za_383, zb_384, za_385, za_386, za_387, za_388, za_389, za_390, za_391, za_392, za_393, zb_396, za_397, za_398, za_399, za_400, za_401, zb_738, za_739, za_740, za_741, za_742, za_743, za_744, za_745, za_746, za_747, zb_748, za_749, za_750, zb_751, zb_752, za_753, za_754, za_755, za_756, zb_757, za_758, za_759, za_760, zb_761, za_763, za_764, za_765, true_and, and_true, Nat.reduceAdd, ov, ow, c1]
  exact q
/-- Law -/
def zY_cl (M : zm_M) (v w : Nat) : zm_M := zw_ca (zw_ca (zw_cf (zw_ca (zw_ca (zw_ca (zw_ca (zw_ca (zw_ca (zw_cf M w v 0) (w + 1) (v + 1) 24) (w + 2) (v + 2) 24) (w + 3) (v + 3) 24) (w + 4) (v + 4) 24) (w + 5) (v + 5) 3) (w + 6) (v + 6) 3) w v 7) (w + 7) (v + 7) 300) (w + 8) (v + 8) 300
def zL_in (off o j : Nat) : Prop := (o = off ∧ (j = 0 ∨ j = 7)) ∨ (off + 1 ≤ o ∧ o ≤ off + 4 ∧ j < 24) ∨ (off + 5 ≤ o ∧ o ≤ off + 6 ∧ j < 3) ∨ (off + 7 ≤ o ∧ o ≤ off + 8 ∧ j < 300)
theorem c1_copy {E : zm_E} (hE : zm_ok E.2.2.1 E.2.2.2.2) (d : Nat) {v w : Nat} (hv : zl_ok v) (hw : zl_ok w) {M : zm_M} {Q : Option Value → zm_M → Prop} (q : Q none (zY_cl M v w)) : zm_R E (d + 1) mX1_copy [.ref v, .ref w] M Q := by
  refine zX1_copy hE rfl (fun G h0 => ?_)
  show G 0 [some (.ref v), some (.ref w)] [] M
  have ov := eq_true hv.2.1
  have ow := eq_true hw.2.1
  have c1 := eq_true (zw_cpok (n := 24) (hw.2.2.1 1 (by decide) (by decide)) (hv.2.2.1 1 (by decide) (by decide)) rfl (by decide))
  have c2 := eq_true (zw_cpok (n := 24) (hw.2.2.1 2 (by decide) (by decide)) (hv.2.2.1 2 (by decide) (by decide)) rfl (by decide))
  have c3 := eq_true (zw_cpok (n := 24) (hw.2.2.1 3 (by decide) (by decide)) (hv.2.2.1 3 (by decide) (by decide)) rfl (by decide))
  have c4 := eq_true (zw_cpok (n := 24) (hw.2.2.1 4 (by decide) (by decide)) (hv.2.2.1 4 (by decide) (by decide)) rfl (by decide))
  have c5 := eq_true (zw_cpok (n := 3) (hw.2.2.2.1 5 (by decide) (by decide)) (hv.2.2.2.1 5 (by decide) (by decide)) rfl (by decide))
  have c6 := eq_true (zw_cpok (n := 3) (hw.2.2.2.1 6 (by decide) (by decide)) (hv.2.2.2.1 6 (by decide) (by decide)) rfl (by decide))
  have c7 := eq_true (zw_cpok (n := 300) (hw.2.2.2.2 7 (by decide) (by decide)) (hv.2.2.2.2 7 (by decide) (by decide)) rfl (by decide))
  have c8 := eq_true (zw_cpok (n := 300) (hw.2.2.2.2 8 (by decide) (by decide)) (hv.2.2.2.2 8 (by decide) (by decide)) rfl (by decide))
  refine h0 _ _ _ ?_
  simp only [bX1_copy_0, zw_0, zw_1, zs_aloadn0, zs_aloadNn0, zs_aloadn1, zs_aloadNn1, zg_1_9, zq_1_9, zg_1_15, zs_iconst, zs_bipush, zi_1_43, zg_1_19, zg_1_22, zg_1_25, zg_1_28, zg_1_31, zg_1_34, zq_1_34, zg_1_37, zs_sipush, zg_1_40, zs_return, zh_0, zh_1, zh_2, zh_3, zh_4, zt_i, zt_l, zt_r, zt_n, zn_int, zn_b0, zn_b1, zb_15, zb_16, zb_17, za_18, za_19, za_20, za_21, za_22, zb_23, za_24, za_25, za_26, za_27, za_28, za_29, za_30, za_31, za_32, zb_35, za_36, za_37, za_38, za_39, za_40, zb_377, zb_378, za_379, za_380, za_381, za_382, za_383, zb_384, za_385, za_386, za_387, za_388, za_389, za_390, za_391, za_392, za_393, zb_396, za_397, za_398, za_399, za_400, za_401, zb_738, za_739, za_740, za_741, za_742, za_743, za_744, za_745, za_746, za_747, zb_748, za_749, za_750, zb_751, zb_752, za_753, za_754, za_755, za_756, zb_757, za_758, za_759, za_760, zb_761, za_763, za_764, za_765, true_and, and_true, Nat.reduceAdd, ov, ow, c1, c2, c3, c4, c5, c6, c7, c8]
  exact q
theorem zY_l {v w a b off : Nat} {M M1 : zm_M} {P : Nat → Nat → Prop} (hd : v + 361 ≤ w ∨ w + 361 ≤ v) (h : zY v w M M1 P) (ho : off + 8 < 361) (ha : a = w + off) (hb : b = v + off) : zY v w M (zY_cl M1 b a) (fun o j => P o j ∨ zL_in off o j) := by
  subst ha; subst hb
  unfold zY_cl
  refine zY_mono (zY_ca hd (zY_ca hd (zY_cf hd (zY_ca hd (zY_ca hd (zY_ca hd (zY_ca hd (zY_ca hd (zY_ca hd (zY_cf hd h (off := off) (by omega) rfl rfl) (off := off + 1) (by omega) rfl rfl) (off := off + 2) (by omega) rfl rfl) (off := off + 3) (by omega) rfl rfl) (off := off + 4) (by omega) rfl rfl) (off := off + 5) (by omega) rfl rfl) (off := off + 6) (by omega) rfl rfl) (off := off) (by omega) rfl rfl) (off := off + 7) (by omega) rfl rfl) (off := off + 8) (by omega) rfl rfl) (fun o j hj => ?_)
  rcases hj with z | z
  · simp only [z, true_or]
  · unfold zL_in at z
    rcases z with ⟨rfl, rfl | rfl⟩ | ⟨h1, h2, h3⟩ | ⟨h1, h2, h3⟩ | ⟨h1, h2, h3⟩
    · simp
    · simp
    · rcases (show o = off + 1 ∨ o = off + 2 ∨ o = off + 3 ∨ o = off + 4 by omega) with rfl | rfl | rfl | rfl <;> simp [h3]
    · rcases (show o = off + 5 ∨ o = off + 6 by omega) with rfl | rfl <;> simp [h3]
    · rcases (show o = off + 7 ∨ o = off + 8 by omega) with rfl | rfl <;> simp [h3]
