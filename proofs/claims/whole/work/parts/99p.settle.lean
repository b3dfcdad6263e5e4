/-! ===== the reference: what waits is settled ===== -/
theorem zs_gt0 {a : Nat} (h : 0 < a) (h2 : a < 2 ^ 31) : ¬ nI a ≤ 0 := fun z => by
  have := (nI_leI (a := a) (b := 0) h2 (by decide)).mp z
  omega
def zs_op (c : Nat) : Nat := if zk_rk c = 7 ∨ c = 20 then 1 else 0
def zs_se (r : Nat) : List Nat → Nat → List (Nat × Nat) → List Nat × Nat × List (Nat × Nat)
  | [], o, cs => ([], o, cs)
  | c :: ws, o, cs => if r ≤ zk_rk c then zs_se r ws (o - zs_op c) (cs ++ [(c, 0)]) else (c :: ws, o, cs)
/-- how many of them stand open -/
def zs_cn : List Nat → Nat
  | [] => 0
  | c :: ws => (if zk_rk c = 7 ∨ c = 20 ∨ 40 ≤ c then 1 else 0) + zs_cn ws
def zs_tr : List Nat → Nat
  | [] => 0
  | c :: _ => zk_rk c
def zs_iv : List Nat → Prop
  | [] => True
  | c :: ws => ((zk_rk c = 7 ∨ c = 20 ∨ 40 ≤ c) ∨ zs_tr ws < zk_rk c) ∧ c < 100 ∧ zs_iv ws
def zs_V (m c0 k : Nat) (ws : List Nat) (o : Nat) (cs : List (Nat × Nat)) : Prop := zs_iv ws ∧ zs_cn ws = o ∧ o ≤ 8 ∧ c0 + cs.length + ws.length ≤ k ∧ k ≤ m ∧ m ≤ 300
def zs_hw (c : Nat) : Nat := if zk_rk c = 7 ∨ c = 20 ∨ 40 ≤ c then 0 else zk_rk c
def zs_hd : List Nat → Nat
  | [] => 0
  | c :: _ => zs_hw c
theorem zs_hw_6 (c : Nat) : zs_hw c ≤ 6 ∧ zs_hw c ≤ zk_rk c := by
  have := zk_rk_7 c
  unfold zs_hw
  split <;> omega
theorem zs_hd_6 (ws : List Nat) : zs_hd ws ≤ 6 ∧ zs_hd ws ≤ zs_tr ws := by
  cases ws with
  | nil => exact ⟨by decide, by decide⟩
  | cons c ws => exact zs_hw_6 c
theorem zs_len : ∀ ws, zs_iv ws → ws.length ≤ 7 * zs_cn ws + zs_hd ws := by
  intro ws
  induction ws with
  | nil => intro _; simp
  | cons c ws ih =>
    intro h
    have i := ih h.2.2
    have tr := zs_hd_6 ws
    simp only [List.length_cons, zs_cn, zs_hd, zs_hw]
    by_cases z : zk_rk c = 7 ∨ c = 20 ∨ 40 ≤ c
    · rw [if_pos z, if_pos z]; omega
    · rw [if_neg z, if_neg z]
      rcases h.1 with y | y
      · exact absurd y z
      · omega
theorem zs_len62 {ws : List Nat} (h : zs_iv ws) (h8 : zs_cn ws ≤ 8) : ws.length ≤ 62 := by
  have := zs_len ws h
  have := zs_hd_6 ws
  omega
def zh_cs (p : Nat) (cs : List (Nat × Nat)) (f : Nat → Int32) : Prop := ∀ i, i < cs.length → f (p + 2 * i) = nI (cs.getD i (0, 0)).1 ∧ f (p + 2 * i + 1) = nI (cs.getD i (0, 0)).2
theorem zh_cs_c {p : Nat} {cs : List (Nat × Nat)} {f g : Nat → Int32} (h : zh_cs p cs f) (e : ∀ j, p ≤ j → j < p + 2 * cs.length → g j = f j) : zh_cs p cs g := by
  intro i hi
  rw [e _ (by omega) (by omega), e _ (by omega) (by omega)]
  exact h i hi
theorem zh_cs_s {p : Nat} {cs : List (Nat × Nat)} {f : Nat → Int32} {x : Nat × Nat} (h : zh_cs p cs f) (e1 : f (p + 2 * cs.length) = nI x.1) (e2 : f (p + 2 * cs.length + 1) = nI x.2) : zh_cs p (cs ++ [x]) f := by
  intro i hi
  rw [List.length_append] at hi
  have hi : i < cs.length + 1 := hi
  by_cases c : i < cs.length
  · rw [show (cs ++ [x]).getD i (0, 0) = cs.getD i (0, 0) from by simp [List.getD_eq_getElem?_getD, List.getElem?_append_left c]]
    exact h i c
  · have c : i = cs.length := by omega
    subst c
    rw [show (cs ++ [x]).getD cs.length (0, 0) = x from by simp [List.getD_eq_getElem?_getD]]
    exact ⟨e1, e2⟩
def zh_S (tp : Nat → Nat) (n b c0 cl k : Nat) (ws : List Nat) (o : Nat) (wh : Bool) (cs : List (Nat × Nat)) (M : zm_M) : Prop :=
  (zk_tm tp n M ∧ zk_at tp n (zk_st tp n k) M) ∧ zh_W ws M ∧ M.1 0 17 = nI o ∧ M.1 0 18 = zi_b wh ∧ M.1 0 12 = nI b ∧ M.1 0 13 = nI (c0 + cs.length) ∧ M.1 0 14 = nI cl ∧ zh_cs (b + 97 + 2 * c0) cs (M.1 3)
def zh_F (b c0 : Nat) (M M' : zm_M) : Prop := zf [0, 3, 5] M M' ∧ zg 0 [7, 8, 9, 10, 13, 16, 17, 18] M M' ∧ (∀ j, j < b + 97 + 2 * c0 ∨ b + 705 ≤ j → M'.1 3 j = M.1 3 j) ∧ ∀ j, j ≠ 11 → M'.2.1 0 j = M.2.1 0 j
theorem zh_F_refl {b c0 : Nat} {M : zm_M} : zh_F b c0 M M := ⟨zf_refl, zg_refl, fun _ _ => rfl, fun _ _ => rfl⟩
theorem zh_F_trans {b c0 : Nat} {M M' M'' : zm_M} (h : zh_F b c0 M M') (h2 : zh_F b c0 M' M'') : zh_F b c0 M M'' := ⟨zf_trans h.1 h2.1, zg_trans h.2.1 h2.2.1, fun j hj => (h2.2.2.1 j hj).trans (h.2.2.1 j hj), fun j hj => (h2.2.2.2 j hj).trans (h.2.2.2 j hj)⟩
theorem zh_F_f {b c0 : Nat} {M M' : zm_M} (h : zk_f M M') : zh_F b c0 M M' := ⟨zf_sub h.1 (by simp), fun j hj => h.2.1 j (fun z => hj (by simp at z ⊢; omega)), fun j _ => by rw [(h.1 3 (by decide)).1], h.2.2.1⟩
theorem zh_F_0 {b c0 k : Nat} {v : Int32} {M M' : zm_M} (h : zh_F b c0 M M') (hk : k ∈ [7, 8, 9, 10, 13, 16, 17, 18]) : zh_F b c0 M (zm_wi M' 0 k v) := ⟨zf_wi h.1 (by decide), zg_wi h.2.1 hk, fun j hj => by rw [zm_wi_other (by decide)]; exact h.2.2.1 j hj, h.2.2.2⟩
theorem zh_F_5 {b c0 k : Nat} {v : Int32} {M M' : zm_M} (h : zh_F b c0 M M') : zh_F b c0 M (zm_wi M' 5 k v) := ⟨zf_wi h.1 (by decide), fun j hj => by rw [zm_wi_other (by decide)]; exact h.2.1 j hj, fun j hj => by rw [zm_wi_other (by decide)]; exact h.2.2.1 j hj, h.2.2.2⟩
theorem zh_F_3 {b c0 k : Nat} {v : Int32} {M M' : zm_M} (h : zh_F b c0 M M') (hk : b + 97 + 2 * c0 ≤ k) (hk2 : k < b + 705) : zh_F b c0 M (zm_wi M' 3 k v) := ⟨zf_wi h.1 (by decide), fun j hj => by rw [zm_wi_other (by decide)]; exact h.2.1 j hj, fun j hj => by rw [zm_wi_same, if_neg (by omega)]; exact h.2.2.1 j hj, h.2.2.2⟩
theorem zk_at_c {tp : Nat → Nat} {n s : Nat} {M M' : zm_M} (h : zk_at tp n s M) (e : ∀ j, j ∈ [7, 8, 9, 10] → M'.1 0 j = M.1 0 j) (e2 : M'.2.1 0 11 = M.2.1 0 11) : zk_at tp n s M' := ⟨by rw [e 8 (by decide)]; exact h.1, by rw [e 7 (by decide)]; exact h.2.1, by rw [e 9 (by decide)]; exact h.2.2.1, fun z => by rw [e 10 (by decide)]; exact h.2.2.2.1 z, fun z => by rw [e2]; exact h.2.2.2.2 z⟩
/-- memory that differs only in what sums change, but for the tokens -/
theorem zh_tk {tp : Nat → Nat} {n s b c0 : Nat} {M M' : zm_M} (h : zk_tm tp n M ∧ zk_at tp n s M) (g : zh_F b c0 M M') (e : ∀ j, j ∈ [7, 8, 9, 10] → M'.1 0 j = M.1 0 j) (e2 : M'.2.1 0 11 = M.2.1 0 11) : zk_tm tp n M' ∧ zk_at tp n s M' := ⟨⟨h.1.1, by rw [g.2.1 4 (by decide)]; exact h.1.2.1, fun i hi => by rw [(g.1 4 (by decide)).1]; exact h.1.2.2.1 i hi, h.1.2.2.2⟩, zk_at_c h.2 e e2⟩
theorem c_settle {E : zm_E} (hE : zm_ok E.2.2.1 E.2.2.2.2) (d : Nat) {tp : Nat → Nat} {n m b c0 cl k r : Nat} (hr1 : 1 ≤ r) (hr : r ≤ 7) (hb : b ≤ 2115) {wh : Bool} : ∀ (ws : List Nat) (o : Nat) (cs : List (Nat × Nat)) (M : zm_M), zs_V m c0 k ws o cs → zh_S tp n b c0 cl k ws o wh cs M → zm_R E (d + 2) mX12_settle [.ref 0, .int (nI r)] M (fun x M' => x = none ∧ zh_S tp n b c0 cl k (zs_se r ws o cs).1 (zs_se r ws o cs).2.1 wh (zs_se r ws o cs).2.2 M' ∧ zs_V m c0 k (zs_se r ws o cs).1 (zs_se r ws o cs).2.1 (zs_se r ws o cs).2.2 ∧ zh_F b c0 M M') := by
  intro ws0 o0 cs0 M0 hV0 hS0
  refine zX12_settle hE rfl (fun G h0 h80 h93 => ?_)
  show G 0 [some (.ref 0), some (.int (nI r))] [] M0
  have loop : ∀ (ws : List Nat) (o : Nat) (cs : List (Nat × Nat)) (M : zm_M), zs_V m c0 k ws o cs → zh_S tp n b c0 cl k ws o wh cs M → zh_F b c0 M0 M → zs_se r ws o cs = zs_se r ws0 o0 cs0 → G 0 [some (.ref 0), some (.int (nI r))] [] M := by
    intro ws
    induction ws with
    | nil =>
      intro o cs M hV hS hF he
      refine h0 _ _ _ ?_
      simp only [bX12_settle_0, zw_0, zw_1, zs_aloadn0, zs_aloadNn0, zg_12_145, zs_ifle, zg_12_29, zs_iconst, zs_isub, zs_iaload, zi_12_148, zs_iloadn1, zs_iclt, zs_dupi, zs_dupr, zs_dupn, zq_12_145, zi_12_151, zs_bipush, zs_iceq, zs_icne, zh_0, zh_1, zh_2, zh_3, zh_4, zt_i, zt_l, zt_r, zt_n, zb_0, za_1, za_2, za_3, za_4, za_5, za_6, za_7, za_8, za_9, za_10, za_11, za_12, za_13, za_14, zu_0, zu_1, zu_2, zu_3, zu_4, zu_5, zu_6, zu_7, zu_8, zu_9, zu_10, zu_11, zu_12, zu_13, zu_14, zu_15, zu_16, zu_17, zu_18, zu_19, zu_20, zu_21, zu_22, zu_23, zu_24, zu_25, zu_26, zu_27, zu_28, zu_29, zu_30, zu_90, zv_0_9, zv_1_9, zv_2_9, zv_3_9, zv_4_9, zv_5_9, zv_6_9, zv_7_9, zv_8_9, zv_0_330, zv_0_4544, zv_1_4544, zv_2_4544, zv_3_4544, zv_4_4544, zv_5_4544, zv_6_4544, zv_7_4544, zv_8_4544, zv_9_4544, zv_10_4544, zv_11_4544, zv_12_4544, zv_13_4544, zv_14_4544, zv_15_4544, zv_16_4544, zv_17_4544, zv_18_4544, zv_19_4544, zv_20_4544, zv_21_4544, zv_22_4544, zv_23_4544, zv_24_4544, zv_25_4544, zv_26_4544, zv_27_4544, zv_28_4544, zv_29_4544, zv_0_11, zv_1_11, zv_0_160, true_and, and_true, Nat.reduceAdd, hS.2.1.1]
      refine ⟨fun _ => ?_, fun h => absurd (by decide) h⟩
      refine h93 _ _ _ ?_
      simp only [bX12_settle_93, zw_0, zw_1, zs_return, zn_int, zn_b0, zn_b1, zb_0, za_1, za_2, za_3, za_4, za_5, za_6, za_7, za_8, za_9, za_10, za_11, za_12, za_13, za_14, true_and, and_true, Nat.reduceAdd]
      rw [← he]
      exact ⟨hS, hV, hF⟩
    | cons c ws ih =>
      intro o cs M hV hS hF he
      obtain ⟨⟨i1, i2, i3⟩, v2, v3, v4, v5, v6⟩ := hV
      obtain ⟨s1, ⟨w1, w2, w3, w4, w5⟩, s3, s4, s5, s6, s7, s8⟩ := hS
      simp only [List.length_cons] at v4 w1 w2
      have vp1 : vp_in (nI ws.length) 160 := vp_in_nI (by omega) (by decide)
      have vp2 : (nI ws.length).toNatClampNeg = ws.length := nI_clamp (by omega)
      have e1 : nI (ws.length + 1) - 1 = nI ws.length := nI_pred _
      have r7 := zk_rk_7 c
      have er : (nI (zk_rk c) < nI r) = (zk_rk c < r) := propext (nI_ltI (by omega) (by omega))
      have done' : zk_rk c < r → G 93 [some (.ref 0), some (.int (nI r))] [] M := by
        intro z
        refine h93 _ _ _ ?_
        simp only [bX12_settle_93, zw_0, zw_1, zs_return, zn_int, zn_b0, zn_b1, zb_0, za_1, za_2, za_3, za_4, za_5, za_6, za_7, za_8, za_9, za_10, za_11, za_12, za_13, za_14, true_and, and_true, Nat.reduceAdd]
        rw [← he]
        simp only [zs_se]
        rw [if_neg (by omega)]
        exact ⟨⟨s1, ⟨w1, w2, w3, w4, w5⟩, s3, s4, s5, s6, s7, s8⟩, ⟨⟨i1, i2, i3⟩, v2, v3, by simp only [List.length_cons]; omega, v5, v6⟩, hF⟩
      refine h0 _ _ _ ?_
      simp only [bX12_settle_0, zw_0, zw_1, zs_aloadn0, zs_aloadNn0, zg_12_145, zs_ifle, zg_12_29, zs_iconst, zs_isub, zs_iaload, zi_12_148, zs_iloadn1, zs_iclt, zs_dupi, zs_dupr, zs_dupn, zq_12_145, zi_12_151, zs_bipush, zs_iceq, zs_icne, zh_0, zh_1, zh_2, zh_3, zh_4, zt_i, zt_l, zt_r, zt_n, zb_0, za_1, za_2, za_3, za_4, za_5, za_6, za_7, za_8, za_9, za_10, za_11, za_12, za_13, za_14, zu_0, zu_1, zu_2, zu_3, zu_4, zu_5, zu_6, zu_7, zu_8, zu_9, zu_10, zu_11, zu_12, zu_13, zu_14, zu_15, zu_16, zu_17, zu_18, zu_19, zu_20, zu_21, zu_22, zu_23, zu_24, zu_25, zu_26, zu_27, zu_28, zu_29, zu_30, zu_90, zv_0_9, zv_1_9, zv_2_9, zv_3_9, zv_4_9, zv_5_9, zv_6_9, zv_7_9, zv_8_9, zv_0_330, zv_0_4544, zv_1_4544, zv_2_4544, zv_3_4544, zv_4_4544, zv_5_4544, zv_6_4544, zv_7_4544, zv_8_4544, zv_9_4544, zv_10_4544, zv_11_4544, zv_12_4544, zv_13_4544, zv_14_4544, zv_15_4544, zv_16_4544, zv_17_4544, zv_18_4544, zv_19_4544, zv_20_4544, zv_21_4544, zv_22_4544, zv_23_4544, zv_24_4544, zv_25_4544, zv_26_4544, zv_27_4544, zv_28_4544, zv_29_4544, zv_0_11, zv_1_11, zv_0_160, true_and, and_true, Nat.reduceAdd, w1, e1, vp1, vp2, w3]
      refine ⟨fun h => absurd h (zs_gt0 (by omega) (by omega)), fun _ => ?_⟩
      refine zm_R_eq (c_rank hE (d + 0) w4 M) ?_
      simp only [bX12_settle_0, zw_0, zw_1, zs_aloadn0, zs_aloadNn0, zg_12_145, zs_ifle, zg_12_29, zs_iconst, zs_isub, zs_iaload, zi_12_148, zs_iloadn1, zs_iclt, zs_dupi, zs_dupr, zs_dupn, zq_12_145, zi_12_151, zs_bipush, zs_iceq, zs_icne, zh_0, zh_1, zh_2, zh_3, zh_4, zt_i, zt_l, zt_r, zt_n, zb_0, za_1, za_2, za_3, za_4, za_5, za_6, za_7, za_8, za_9, za_10, za_11, za_12, za_13, za_14, zu_0, zu_1, zu_2, zu_3, zu_4, zu_5, zu_6, zu_7, zu_8, zu_9, zu_10, zu_11, zu_12, zu_13, zu_14, zu_15, zu_16, zu_17, zu_18, zu_19, zu_20, zu_21, zu_22, zu_23, zu_24, zu_25, zu_26, zu_27, zu_28, zu_29, zu_30, zu_90, zv_0_9, zv_1_9, zv_2_9, zv_3_9, zv_4_9, zv_5_9, zv_6_9, zv_7_9, zv_8_9, zv_0_330, zv_0_4544, zv_1_4544, zv_2_4544, zv_3_4544, zv_4_4544, zv_5_4544, zv_6_4544, zv_7_4544, zv_8_4544, zv_9_4544, zv_10_4544, zv_11_4544, zv_12_4544, zv_13_4544, zv_14_4544, zv_15_4544, zv_16_4544, zv_17_4544, zv_18_4544, zv_19_4544, zv_20_4544, zv_21_4544, zv_22_4544, zv_23_4544, zv_24_4544, zv_25_4544, zv_26_4544, zv_27_4544, zv_28_4544, zv_29_4544, zv_0_11, zv_1_11, zv_0_160, true_and, and_true, Nat.reduceAdd, er, w1, e1, vp1, vp2]
      refine ⟨fun z => done' z, fun z => ?_⟩
      simp only [zs_se] at he
      rw [if_pos (by omega)] at he
      have a16 : (zm_wi M 0 16 (nI ws.length)).1 0 16 = nI ws.length := by rw [zm_wi_same, if_pos rfl]
      have a5 : (zm_wi M 0 16 (nI ws.length)).1 5 ws.length = nI c := by rw [zm_wi_other (by decide)]; exact w3
      have F1 : zh_F b c0 M (zm_wi M 0 16 (nI ws.length)) := zh_F_0 zh_F_refl (by decide)
      have a12 : (zm_wi M 0 16 (nI ws.length)).1 0 12 = nI b := by rw [zm_wi_same, if_neg (by decide)]; exact s5
      have a13 : (zm_wi M 0 16 (nI ws.length)).1 0 13 = nI (c0 + cs.length) := by rw [zm_wi_same, if_neg (by decide)]; exact s6
      generalize hM1 : zm_wi M 0 16 (nI ws.length) = M1 at *
      rw [a16, vp2, a5]
      refine ⟨vp1, ?_⟩
      refine c_emit hE (d + 0) (b := b) (c := c0 + cs.length) (nI c) 0 (by omega) a12 a13 ?_
      have F2 : zh_F b c0 M (zm_wi (zm_wi (zm_wi M1 3 (b + 97 + 2 * (c0 + cs.length)) (nI c)) 3 (b + 97 + 2 * (c0 + cs.length) + 1) 0) 0 13 (nI (c0 + cs.length + 1))) := zh_F_0 (zh_F_3 (zh_F_3 F1 (by omega) (by omega)) (by omega) (by omega)) (by decide)
      have b5 : (zm_wi (zm_wi (zm_wi M1 3 (b + 97 + 2 * (c0 + cs.length)) (nI c)) 3 (b + 97 + 2 * (c0 + cs.length) + 1) 0) 0 13 (nI (c0 + cs.length + 1))).1 5 = M.1 5 := by
        rw [← hM1]; rfl
      have b3 : ∀ j, (zm_wi (zm_wi (zm_wi M1 3 (b + 97 + 2 * (c0 + cs.length)) (nI c)) 3 (b + 97 + 2 * (c0 + cs.length) + 1) 0) 0 13 (nI (c0 + cs.length + 1))).1 3 j = if j = b + 97 + 2 * (c0 + cs.length) + 1 then 0 else if j = b + 97 + 2 * (c0 + cs.length) then nI c else M.1 3 j := by
        intro j
        rw [zm_wi_other (by decide), zm_wi_same, zm_wi_same, ← hM1, zm_wi_other (by decide)]
      have b0 : ∀ j, (zm_wi (zm_wi (zm_wi M1 3 (b + 97 + 2 * (c0 + cs.length)) (nI c)) 3 (b + 97 + 2 * (c0 + cs.length) + 1) 0) 0 13 (nI (c0 + cs.length + 1))).1 0 j = if j = 13 then nI (c0 + cs.length + 1) else if j = 16 then nI ws.length else M.1 0 j := by
        intro j
        rw [zm_wi_same, zm_wi_other (by decide), zm_wi_other (by decide), ← hM1, zm_wi_same]
      have bl : (zm_wi (zm_wi (zm_wi M1 3 (b + 97 + 2 * (c0 + cs.length)) (nI c)) 3 (b + 97 + 2 * (c0 + cs.length) + 1) 0) 0 13 (nI (c0 + cs.length + 1))).2.1 0 11 = M.2.1 0 11 := by rw [← hM1]; rfl
      generalize zm_wi (zm_wi (zm_wi M1 3 (b + 97 + 2 * (c0 + cs.length)) (nI c)) 3 (b + 97 + 2 * (c0 + cs.length) + 1) 0) 0 13 (nI (c0 + cs.length + 1)) = M2 at *
      have S2 : ∀ o', M2.1 0 17 = nI o' → zh_S tp n b c0 cl k ws o' wh (cs ++ [(c, 0)]) M2 := by
        intro o' ho
        refine ⟨zh_tk s1 F2 (fun j hj => ?_) bl, ⟨by rw [b0]; rfl, by omega, by rw [b5]; exact w5⟩, ho, by rw [b0]; exact s4, by rw [b0]; exact s5, by rw [b0, if_pos rfl, List.length_append]; rfl, by rw [b0]; exact s7, ?_⟩
        · rw [b0, if_neg (by simp at hj; omega), if_neg (by simp at hj; omega)]
        · refine zh_cs_s (zh_cs_c s8 (fun j j1 j2 => ?_)) ?_ ?_
          · rw [b3, if_neg (by omega), if_neg (by omega)]
          · rw [b3, if_neg (by omega), if_pos (by omega)]
          · rw [b3, if_pos (by omega)]; rfl
      have b16 : M2.1 0 16 = nI ws.length := by rw [b0]; rfl
      have b17 : M2.1 0 17 = nI o := by rw [b0]; exact s3
      have e7 : (nI (zk_rk c) = 7) = (zk_rk c = 7) := propext (nI_eq (b := 7) (by omega) (by decide))
      have e20 : (nI c = 20) = (c = 20) := propext (nI_eq (b := 20) (by omega) (by decide))
      simp only [bX12_settle_0, zw_0, zw_1, zs_aloadn0, zs_aloadNn0, zg_12_145, zs_ifle, zg_12_29, zs_iconst, zs_isub, zs_iaload, zi_12_148, zs_iloadn1, zs_iclt, zs_dupi, zs_dupr, zs_dupn, zq_12_145, zi_12_151, zs_bipush, zs_iceq, zs_icne, zh_0, zh_1, zh_2, zh_3, zh_4, zt_i, zt_l, zt_r, zt_n, zb_0, za_1, za_2, za_3, za_4, za_5, za_6, za_7, za_8, za_9, za_10, za_11, za_12, za_13, za_14, zu_0, zu_1, zu_2, zu_3, zu_4, zu_5, zu_6, zu_7, zu_8, zu_9, zu_10, zu_11, zu_12, zu_13, zu_14, zu_15, zu_16, zu_17, zu_18, zu_19, zu_20, zu_21, zu_22, zu_23, zu_24, zu_25, zu_26, zu_27, zu_28, zu_29, zu_30, zu_90, zv_0_9, zv_1_9, zv_2_9, zv_3_9, zv_4_9, zv_5_9, zv_6_9, zv_7_9, zv_8_9, zv_0_330, zv_0_4544, zv_1_4544, zv_2_4544, zv_3_4544, zv_4_4544, zv_5_4544, zv_6_4544, zv_7_4544, zv_8_4544, zv_9_4544, zv_10_4544, zv_11_4544, zv_12_4544, zv_13_4544, zv_14_4544, zv_15_4544, zv_16_4544, zv_17_4544, zv_18_4544, zv_19_4544, zv_20_4544, zv_21_4544, zv_22_4544, zv_23_4544, zv_24_4544, zv_25_4544, zv_26_4544, zv_27_4544, zv_28_4544, zv_29_4544, zv_0_11, zv_1_11, zv_0_160, true_and, and_true, Nat.reduceAdd, b16, vp1, vp2, b5, w3]
      refine zm_R_eq (c_rank hE (d + 0) w4 M2) ?_
      simp only [bX12_settle_0, zw_0, zw_1, zs_aloadn0, zs_aloadNn0, zg_12_145, zs_ifle, zg_12_29, zs_iconst, zs_isub, zs_iaload, zi_12_148, zs_iloadn1, zs_iclt, zs_dupi, zs_dupr, zs_dupn, zq_12_145, zi_12_151, zs_bipush, zs_iceq, zs_icne, zh_0, zh_1, zh_2, zh_3, zh_4, zt_i, zt_l, zt_r, zt_n, zb_0, za_1, za_2, za_3, za_4, za_5, za_6, za_7, za_8, za_9, za_10, za_11, za_12, za_13, za_14, zu_0, zu_1, zu_2, zu_3, zu_4, zu_5, zu_6, zu_7, zu_8, zu_9, zu_10, zu_11, zu_12, zu_13, zu_14, zu_15, zu_16, zu_17, zu_18, zu_19, zu_20, zu_21, zu_22, zu_23, zu_24, zu_25, zu_26, zu_27, zu_28, zu_29, zu_30, zu_90, zv_0_9, zv_1_9, zv_2_9, zv_3_9, zv_4_9, zv_5_9, zv_6_9, zv_7_9, zv_8_9, zv_0_330, zv_0_4544, zv_1_4544, zv_2_4544, zv_3_4544, zv_4_4544, zv_5_4544, zv_6_4544, zv_7_4544, zv_8_4544, zv_9_4544, zv_10_4544, zv_11_4544, zv_12_4544, zv_13_4544, zv_14_4544, zv_15_4544, zv_16_4544, zv_17_4544, zv_18_4544, zv_19_4544, zv_20_4544, zv_21_4544, zv_22_4544, zv_23_4544, zv_24_4544, zv_25_4544, zv_26_4544, zv_27_4544, zv_28_4544, zv_29_4544, zv_0_11, zv_1_11, zv_0_160, true_and, and_true, Nat.reduceAdd, e7, b16, vp1, vp2, b5, w3, e20]
      simp only [zs_cn] at v2
      have opn : (zk_rk c = 7 ∨ c = 20) → G 80 [some (.ref 0), some (.int (nI r))] [] M2 := by
        intro y
        have y1 : zs_op c = 1 := by unfold zs_op; rw [if_pos y]
        rw [if_pos (by omega)] at v2
        refine h80 _ _ _ ?_
        have eo : nI o - 1 = nI (o - 1) := by rw [show (1 : Int32) = nI 1 from rfl, zk_sub (by omega)]
        simp only [bX12_settle_80, zw_0, zw_1, zs_aloadn0, zs_aloadNn0, zs_dupi, zs_dupr, zs_dupn, zg_12_155, zs_iconst, zs_isub, zq_12_155, zs_goto, zb_0, za_1, za_2, za_3, za_4, za_5, za_6, za_7, za_8, za_9, za_10, za_11, za_12, za_13, za_14, true_and, and_true, Nat.reduceAdd, b17, eo]
        have S3 := S2 o b17
        rw [y1] at he
        refine ih (o - 1) (cs ++ [(c, 0)]) _ ⟨i3, by omega, by omega, by rw [List.length_append]; simp only [List.length_singleton]; omega, v5, v6⟩ ?_ (zh_F_trans hF (zh_F_0 F2 (by decide))) he
        obtain ⟨t1, t2, t3, t4, t5, t6, t7, t8⟩ := S3
        refine ⟨zh_tk t1 (zh_F_0 (b := b) (c0 := c0) zh_F_refl (by decide)) (fun j hj => ?_) rfl, ⟨?_, t2.2.1, t2.2.2⟩, ?_, ?_, ?_, ?_, ?_, t8⟩
        · rw [zm_wi_same, if_neg (by simp at hj; omega)]
        · rw [zm_wi_same, if_neg (by decide)]; exact t2.1
        · rw [zm_wi_same, if_pos rfl]
        · rw [zm_wi_same, if_neg (by decide)]; exact t4
        · rw [zm_wi_same, if_neg (by decide)]; exact t5
        · rw [zm_wi_same, if_neg (by decide)]; exact t6
        · rw [zm_wi_same, if_neg (by decide)]; exact t7
      refine ⟨fun y => opn (Or.inl y), fun y => ⟨fun y2 => ?_, fun y2 => opn (Or.inr y2)⟩⟩
      have y1 : zs_op c = 0 := by unfold zs_op; rw [if_neg (by omega)]
      rw [y1] at he
      have c40 : ¬ 40 ≤ c := fun x => by
        have : zk_rk c = 0 := by unfold zk_rk; rw [if_pos x]
        omega
      rw [if_neg (by omega)] at v2
      exact ih o (cs ++ [(c, 0)]) _ ⟨i3, by omega, by omega, by rw [List.length_append]; simp only [List.length_singleton]; omega, v5, v6⟩ (S2 o b17) (zh_F_trans hF F2) he
  exact loop ws0 o0 cs0 M0 hV0 hS0 zh_F_refl rfl
