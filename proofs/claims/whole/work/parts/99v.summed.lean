/-! ===== the reference: a sum ===== -/
def zs_nx (G : Nat → List Nat → Nat → Bool → List (Nat × Nat) → Prop) (Fa : Nat → Nat → Prop) : zs_X → Prop
  | .inl (k, ws, o, wh, cs) => G k ws o wh cs
  | .inr (f, j) => Fa f j
def zs_ru (T V : Nat → Nat) (cl : Nat) (G : Nat → List Nat → Nat → Bool → List (Nat × Nat) → Prop) (Fa : Nat → Nat → Prop) (Fi : Nat → List (Nat × Nat) → Prop) : Prop :=
  (∀ k ws o cs, zs_nx G Fa (zs_beg T V cl k ws o cs) → G k ws o false cs) ∧
  (∀ k ws o cs, zs_nx G (fun f j => if f = 0 then (if zs_on ws = 0 then Fi j (zs_se 1 ws o cs).2.2 else Fa 1 j) else Fa f j) (zs_beh T k ws o cs) → G k ws o true cs)
theorem zs_opn_f {k c o f j : Nat} {ws : List Nat} {cs : List (Nat × Nat)} (h : zs_opn k c ws o cs = .inr (f, j)) : f = 3 := by
  unfold zs_opn at h
  split at h
  · cases h; rfl
  · cases h
theorem zs_beg_f {T V : Nat → Nat} {cl k o f j : Nat} {ws : List Nat} {cs : List (Nat × Nat)} (h : zs_beg T V cl k ws o cs = .inr (f, j)) : 1 ≤ f ∧ f ≤ 5 := by
  unfold zs_beg at h
  split at h
  · cases h; omega
  split at h
  · cases h; omega
  split at h
  · have := zs_eo_n0 h; omega
  split at h
  · have := zs_eo_n0 h; omega
  split at h
  · have := zs_opn_f h; omega
  split at h
  · have := zs_opn_f h; omega
  split at h
  · have := zs_opn_f h; omega
  split at h
  · have := zs_opn_f h; omega
  split at h
  · have := zs_opn_f h; omega
  split at h
  · have := zs_opn_f h; omega
  · cases h; omega
theorem zs_beh_f {T : Nat → Nat} {k o f j : Nat} {ws : List Nat} {cs : List (Nat × Nat)} (h : zs_beh T k ws o cs = .inr (f, j)) : (f = 0 ∧ j = k) ∨ f = 1 := by
  unfold zs_beh at h
  split at h
  · unfold zs_pu at h; cases h
  split at h
  · cases h; exact Or.inl ⟨rfl, rfl⟩
  · unfold zs_cl at h
    split at h
    · exact Or.inr (zs_eo_n0 h)
    · cases h
theorem c_summed {E : zm_E} (hE : zm_ok E.2.2.1 E.2.2.2.2) (d : Nat) {tp : Nat → Nat} {n m b c0 cl k : Nat} {M : zm_M} (hm : zk_st tp n m = n) (hb : b ≤ 2115) (hcl : cl ≤ 8) (hTA : zk_tm tp n M ∧ zk_at tp n (zk_st tp n k) M) (h12 : M.1 0 12 = nI b) (h13 : M.1 0 13 = nI c0) (h14 : M.1 0 14 = nI cl) (hck : c0 ≤ k) (hkm : k ≤ m) (hm3 : m ≤ 300) {Fa : Nat → Nat → Prop} {Fi : Nat → List (Nat × Nat) → Prop} (run : ∀ G, zs_ru (zs_T tp n) (zs_N tp n) cl G Fa Fi → G k [] 0 false []) : zm_R E (d + 7) mX12_summed [.ref 0] M (fun r M' => zh_F b c0 M M' ∧ ((∃ f j, (1 ≤ f ∧ f ≤ 5) ∧ Fa f j ∧ r = some (.int (nI f)) ∧ zk_tm tp n M' ∧ zk_at tp n (zk_st tp n j) M') ∨ (∃ k' cs, Fi k' cs ∧ r = some (.int 0) ∧ (zk_tm tp n M' ∧ zk_at tp n (zk_st tp n k') M') ∧ M'.1 0 13 = nI (c0 + cs.length) ∧ zh_cs (b + 97 + 2 * c0) cs (M'.1 3) ∧ c0 + cs.length ≤ k' ∧ k' ≤ m))) := by
  refine zX12_summed hE rfl (fun G h0 h15 h29 h33 h40 h47 h56 => ?_)
  show G 0 [some (.ref 0), none] [] M
  have hru : zs_ru (zs_T tp n) (zs_N tp n) cl (fun k ws o wh cs => zs_V m c0 k ws o cs → ∀ M1 l1, zh_S tp n b c0 cl k ws o wh cs M1 → zh_F b c0 M M1 → G 15 [some (.ref 0), l1] [] M1) Fa Fi := by
    refine ⟨fun k ws o cs hn hV M1 l1 hS hF => ?_, fun k ws o cs hn hV M1 l1 hS hF => ?_⟩
    · have s18 : M1.1 0 18 = 0 := hS.2.2.2.1
      refine h15 _ _ _ ?_
      simp only [bX12_summed_15, zw_0, zw_1, zs_aloadn0, zs_aloadNn0, zg_12_195, zs_ifeq, zi_12_210, zs_goto, zh_0, zh_1, zh_2, zh_3, zh_4, zt_i, zt_l, zt_r, zt_n, zb_0, za_1, za_2, za_3, za_4, za_5, za_6, za_7, za_8, za_9, za_10, za_11, za_12, za_13, za_14, true_and, and_true, Nat.reduceAdd, s18, not_true_eq_false, not_false_eq_true, true_implies, false_implies]
      refine h29 _ _ _ ?_
      simp only [bX12_summed_29, zw_0, zw_1, zs_aloadn0, zs_aloadNn0, zi_12_213, zh_0, zh_1, zh_2, zh_3, zh_4, zt_i, zt_l, zt_r, zt_n, zb_0, za_1, za_2, za_3, za_4, za_5, za_6, za_7, za_8, za_9, za_10, za_11, za_12, za_13, za_14, true_and, and_true, Nat.reduceAdd]
      refine zm_R_mono (c_beginOne hE (d + 0) hm hb hcl hV hS) (fun r M2 h2 => ?_)
      cases hx : zs_beg (zs_T tp n) (zs_N tp n) cl k ws o cs with
      | inl y =>
        obtain ⟨k', ws', o', wh', cs'⟩ := y
        rw [hx] at h2 hn
        obtain ⟨F2, rfl, S2, V2⟩ := h2
        simp only [bX12_summed_29, zw_0, zw_1, zs_aloadn0, zs_aloadNn0, zi_12_213, zh_0, zh_1, zh_2, zh_3, zh_4, zt_i, zt_l, zt_r, zt_n, zb_0, za_1, za_2, za_3, za_4, za_5, za_6, za_7, za_8, za_9, za_10, za_11, za_12, za_13, za_14, true_and, and_true, Nat.reduceAdd]
        refine h33 _ _ _ ?_
        simp only [bX12_summed_33, zw_0, zw_1, zs_istoren1, zs_iloadn1, zs_ifle, zs_ireturn, zc_none, zc_int, zc_ref, zc_null, zc_long, zn_int, zn_b0, zn_b1, zb_0, za_1, za_2, za_3, za_4, za_5, za_6, za_7, za_8, za_9, za_10, za_11, za_12, za_13, za_14, true_and, and_true, Nat.reduceAdd]
        refine ⟨fun _ => ?_, fun h => absurd (by decide) h⟩
        refine h40 _ _ _ ?_
        simp only [bX12_summed_40, zw_0, zw_1, zs_iloadn1, zs_ifne, zs_goto, zb_0, za_1, za_2, za_3, za_4, za_5, za_6, za_7, za_8, za_9, za_10, za_11, za_12, za_13, za_14, true_and, and_true, Nat.reduceAdd, not_true_eq_false, not_false_eq_true, true_implies, false_implies]
        exact hn V2 M2 _ S2 (zh_F_trans hF F2)
      | inr y =>
        obtain ⟨f, j⟩ := y
        have ff := zs_beg_f hx
        rw [hx] at h2 hn
        obtain ⟨F2, rfl, T2, A2, _⟩ := h2
        rw [if_neg (by omega)]
        simp only [bX12_summed_29, zw_0, zw_1, zs_aloadn0, zs_aloadNn0, zi_12_213, zh_0, zh_1, zh_2, zh_3, zh_4, zt_i, zt_l, zt_r, zt_n, zb_0, za_1, za_2, za_3, za_4, za_5, za_6, za_7, za_8, za_9, za_10, za_11, za_12, za_13, za_14, true_and, and_true, Nat.reduceAdd]
        refine h33 _ _ _ ?_
        simp only [bX12_summed_33, zw_0, zw_1, zs_istoren1, zs_iloadn1, zs_ifle, zs_ireturn, zc_none, zc_int, zc_ref, zc_null, zc_long, zn_int, zn_b0, zn_b1, zb_0, za_1, za_2, za_3, za_4, za_5, za_6, za_7, za_8, za_9, za_10, za_11, za_12, za_13, za_14, true_and, and_true, Nat.reduceAdd]
        refine ⟨fun h => absurd h (zs_gt0 (by omega) (by omega)), fun _ => ?_⟩
        exact ⟨zh_F_trans hF F2, Or.inl ⟨f, j, ff, hn, rfl, T2, A2⟩⟩
    · have s18 : M1.1 0 18 = 1 := hS.2.2.2.1
      refine h15 _ _ _ ?_
      simp only [bX12_summed_15, zw_0, zw_1, zs_aloadn0, zs_aloadNn0, zg_12_195, zs_ifeq, zi_12_210, zs_goto, zh_0, zh_1, zh_2, zh_3, zh_4, zt_i, zt_l, zt_r, zt_n, zb_0, za_1, za_2, za_3, za_4, za_5, za_6, za_7, za_8, za_9, za_10, za_11, za_12, za_13, za_14, true_and, and_true, Nat.reduceAdd, s18]
      refine ⟨fun h => absurd h (by decide), fun _ => ?_⟩
      refine zm_R_mono (c_behindOne hE (d + 1) hm hb hV hS) (fun r M2 h2 => ?_)
      cases hx : zs_beh (zs_T tp n) k ws o cs with
      | inl y =>
        obtain ⟨k', ws', o', wh', cs'⟩ := y
        rw [hx] at h2 hn
        obtain ⟨F2, rfl, S2, V2⟩ := h2
        simp only [bX12_summed_15, zw_0, zw_1, zs_aloadn0, zs_aloadNn0, zg_12_195, zs_ifeq, zi_12_210, zs_goto, zh_0, zh_1, zh_2, zh_3, zh_4, zt_i, zt_l, zt_r, zt_n, zb_0, za_1, za_2, za_3, za_4, za_5, za_6, za_7, za_8, za_9, za_10, za_11, za_12, za_13, za_14, true_and, and_true, Nat.reduceAdd]
        refine h33 _ _ _ ?_
        simp only [bX12_summed_33, zw_0, zw_1, zs_istoren1, zs_iloadn1, zs_ifle, zs_ireturn, zc_none, zc_int, zc_ref, zc_null, zc_long, zn_int, zn_b0, zn_b1, zb_0, za_1, za_2, za_3, za_4, za_5, za_6, za_7, za_8, za_9, za_10, za_11, za_12, za_13, za_14, true_and, and_true, Nat.reduceAdd]
        refine ⟨fun _ => ?_, fun h => absurd (by decide) h⟩
        refine h40 _ _ _ ?_
        simp only [bX12_summed_40, zw_0, zw_1, zs_iloadn1, zs_ifne, zs_goto, zb_0, za_1, za_2, za_3, za_4, za_5, za_6, za_7, za_8, za_9, za_10, za_11, za_12, za_13, za_14, true_and, and_true, Nat.reduceAdd, not_true_eq_false, not_false_eq_true, true_implies, false_implies]
        exact hn V2 M2 _ S2 (zh_F_trans hF F2)
      | inr y =>
        obtain ⟨f, j⟩ := y
        have ff := zs_beh_f hx
        rw [hx] at h2 hn
        obtain ⟨F2, rfl, T2, A2, eM⟩ := h2
        simp only [zs_nx] at hn
        by_cases f0 : f = 0
        · have jk : j = k := by omega
          subst f0
          have eM := eM rfl
          rw [eM, if_pos rfl]
          rw [if_pos rfl] at hn
          simp only [bX12_summed_15, zw_0, zw_1, zs_aloadn0, zs_aloadNn0, zg_12_195, zs_ifeq, zi_12_210, zs_goto, zh_0, zh_1, zh_2, zh_3, zh_4, zt_i, zt_l, zt_r, zt_n, zb_0, za_1, za_2, za_3, za_4, za_5, za_6, za_7, za_8, za_9, za_10, za_11, za_12, za_13, za_14, true_and, and_true, Nat.reduceAdd]
          refine h33 _ _ _ ?_
          simp only [bX12_summed_33, zw_0, zw_1, zs_istoren1, zs_iloadn1, zs_ifle, zs_ireturn, zc_none, zc_int, zc_ref, zc_null, zc_long, zn_int, zn_b0, zn_b1, zb_0, za_1, za_2, za_3, za_4, za_5, za_6, za_7, za_8, za_9, za_10, za_11, za_12, za_13, za_14, true_and, and_true, Nat.reduceAdd]
          refine ⟨fun _ => ?_, fun h => absurd (by decide) h⟩
          refine h40 _ _ _ ?_
          simp only [bX12_summed_40, zw_0, zw_1, zs_iloadn1, zs_ifne, zs_goto, zb_0, za_1, za_2, za_3, za_4, za_5, za_6, za_7, za_8, za_9, za_10, za_11, za_12, za_13, za_14, true_and, and_true, Nat.reduceAdd]
          refine ⟨fun _ => ?_, fun h => absurd h (by decide)⟩
          refine h47 _ _ _ ?_
          simp only [bX12_summed_47, zw_0, zw_1, zs_aloadn0, zs_aloadNn0, zi_12_162, zs_iflt, zs_iconst, zs_ireturn, zh_0, zh_1, zh_2, zh_3, zh_4, zt_i, zt_l, zt_r, zt_n, zn_int, zn_b0, zn_b1, zb_0, za_1, za_2, za_3, za_4, za_5, za_6, za_7, za_8, za_9, za_10, za_11, za_12, za_13, za_14, true_and, and_true, Nat.reduceAdd]
          refine zm_R_eq (c_openNow hE (d + 4) hS.2.1) ?_
          have on1 := zh_on_s ws hV.1
          by_cases on0 : zs_on ws = 0
          · rw [if_pos on0] at on1 hn
            rw [on1.1]
            simp only [bX12_summed_47, zw_0, zw_1, zs_aloadn0, zs_aloadNn0, zi_12_162, zs_iflt, zs_iconst, zs_ireturn, zh_0, zh_1, zh_2, zh_3, zh_4, zt_i, zt_l, zt_r, zt_n, zn_int, zn_b0, zn_b1, zb_0, za_1, za_2, za_3, za_4, za_5, za_6, za_7, za_8, za_9, za_10, za_11, za_12, za_13, za_14, true_and, and_true, Nat.reduceAdd]
            refine ⟨fun _ => ?_, fun h => absurd (by decide) h⟩
            refine h56 _ _ _ ?_
            simp only [bX12_summed_56, zw_0, zw_1, zs_aloadn0, zs_aloadNn0, zs_iconst, zi_12_192, zs_ireturn, zh_0, zh_1, zh_2, zh_3, zh_4, zt_i, zt_l, zt_r, zt_n, zn_int, zn_b0, zn_b1, zb_0, za_1, za_2, za_3, za_4, za_5, za_6, za_7, za_8, za_9, za_10, za_11, za_12, za_13, za_14, true_and, and_true, Nat.reduceAdd]
            refine zm_R_mono (c_settle hE (d + 4) (r := 1) (by decide) (by decide) hb ws o cs M1 hV hS) (fun r M3 h3 => ?_)
            obtain ⟨rfl, S3, V3, F3⟩ := h3
            simp only [bX12_summed_56, zw_0, zw_1, zs_aloadn0, zs_aloadNn0, zs_iconst, zi_12_192, zs_ireturn, zh_0, zh_1, zh_2, zh_3, zh_4, zt_i, zt_l, zt_r, zt_n, zn_int, zn_b0, zn_b1, zb_0, za_1, za_2, za_3, za_4, za_5, za_6, za_7, za_8, za_9, za_10, za_11, za_12, za_13, za_14, true_and, and_true, Nat.reduceAdd]
            obtain ⟨s1, s2, s3, s4, s5, s6, s7, s8⟩ := S3
            have l3 := V3.2.2.2.1
            rw [jk] at hn
            exact ⟨zh_F_trans hF F3, Or.inr ⟨k, _, hn, s1, s6, s8, by omega, V3.2.2.2.2.1⟩⟩
          · rw [if_neg on0] at on1 hn
            rw [on1.1]
            simp only [bX12_summed_47, zw_0, zw_1, zs_aloadn0, zs_aloadNn0, zi_12_162, zs_iflt, zs_iconst, zs_ireturn, zh_0, zh_1, zh_2, zh_3, zh_4, zt_i, zt_l, zt_r, zt_n, zn_int, zn_b0, zn_b1, zb_0, za_1, za_2, za_3, za_4, za_5, za_6, za_7, za_8, za_9, za_10, za_11, za_12, za_13, za_14, true_and, and_true, Nat.reduceAdd]
            refine ⟨fun h => absurd h (nI_pos (by omega)), fun _ => ?_⟩
            rw [jk] at hn
            exact ⟨hF, Or.inl ⟨1, k, by omega, hn, rfl, hS.1⟩⟩
        · have f1 : f = 1 := by omega
          subst f1
          rw [if_neg (by decide)] at hn ⊢
          simp only [bX12_summed_15, zw_0, zw_1, zs_aloadn0, zs_aloadNn0, zg_12_195, zs_ifeq, zi_12_210, zs_goto, zh_0, zh_1, zh_2, zh_3, zh_4, zt_i, zt_l, zt_r, zt_n, zb_0, za_1, za_2, za_3, za_4, za_5, za_6, za_7, za_8, za_9, za_10, za_11, za_12, za_13, za_14, true_and, and_true, Nat.reduceAdd]
          refine h33 _ _ _ ?_
          simp only [bX12_summed_33, zw_0, zw_1, zs_istoren1, zs_iloadn1, zs_ifle, zs_ireturn, zc_none, zc_int, zc_ref, zc_null, zc_long, zn_int, zn_b0, zn_b1, zb_0, za_1, za_2, za_3, za_4, za_5, za_6, za_7, za_8, za_9, za_10, za_11, za_12, za_13, za_14, true_and, and_true, Nat.reduceAdd]
          refine ⟨fun h => absurd h (by decide), fun _ => ?_⟩
          exact ⟨zh_F_trans hF F2, Or.inl ⟨1, j, by omega, hn, rfl, T2, A2⟩⟩
  refine h0 _ _ _ ?_
  simp only [bX12_summed_0, zw_0, zw_1, zs_aloadn0, zs_aloadNn0, zs_iconst, zq_12_145, zq_12_155, zq_12_195, zb_0, za_1, za_2, za_3, za_4, za_5, za_6, za_7, za_8, za_9, za_10, za_11, za_12, za_13, za_14, true_and, and_true, Nat.reduceAdd, true_or]
  have F1 : zh_F b c0 M (zm_wi (zm_wi (zm_wi M 0 16 0) 0 17 0) 0 18 0) := zh_F_0 (zh_F_0 (zh_F_0 zh_F_refl (by decide)) (by decide)) (by decide)
  have b0 : ∀ j, (zm_wi (zm_wi (zm_wi M 0 16 0) 0 17 0) 0 18 0).1 0 j = if j = 18 then 0 else if j = 17 then 0 else if j = 16 then 0 else M.1 0 j := by
    intro j
    rw [zm_wi_same, zm_wi_same, zm_wi_same]
  refine run _ hru ⟨trivial, rfl, by decide, by simp only [List.length_nil]; omega, hkm, hm3⟩ _ _ ⟨zh_tk hTA F1 (fun j hj => ?_) rfl, ⟨by rw [b0]; rfl, by decide, trivial⟩, by rw [b0]; rfl, by rw [b0]; rfl, by rw [b0]; exact h12, by rw [b0]; exact h13, by rw [b0]; exact h14, fun i hi => absurd hi (by simp)⟩ F1
  rw [b0, if_neg (by simp at hj; omega), if_neg (by simp at hj; omega), if_neg (by simp at hj; omega)]
