/-! ===== who is above whom ===== -/
/-- p is above q -/
def zt_abf (b : Nat → Int32) : Nat → Nat → Nat → Bool
  | 0, _, _ => false
  | f + 1, p, q => if b q = -1 then false else if b q = nI p then true else zt_abf b f p (b q).toNatClampNeg
def zt_ab (b : Nat → Int32) (p q : Nat) : Bool := zt_abf b (q + 1) p q
theorem zt_abf_ge {n : Nat} {b : Nat → Int32} (h : zt_wf n b) (p : Nat) : ∀ (q f g : Nat), q < n → q < f → q < g → zt_abf b f p q = zt_abf b g p q := by
  intro q
  induction q using Nat.strongRecOn with
  | _ q ih =>
    intro f g hq hf hg
    obtain ⟨f, rfl⟩ : ∃ k, f = k + 1 := ⟨f - 1, by omega⟩
    obtain ⟨g, rfl⟩ : ∃ k, g = k + 1 := ⟨g - 1, by omega⟩
    simp only [zt_abf]
    rcases h.at hq with e | ⟨j, h1, h2, e⟩
    · rw [if_pos e, if_pos e]
    · have hn : ¬ b q = -1 := by rw [e]; exact zt_ne (by have := h.1; omega)
      rw [if_neg hn, if_neg hn, e, nI_clamp (by have := h.1; omega), ih j h1 f g h2 (by omega) (by omega)]
theorem zt_ab_none {b : Nat → Int32} {p q : Nat} (e : b q = -1) : zt_ab b p q = false := by
  unfold zt_ab zt_abf
  rw [if_pos e]
theorem zt_ab_boss {n : Nat} {b : Nat → Int32} (h : zt_wf n b) {p q j : Nat} (hq : q < n) (hj : j < q) (e : b q = nI j) (hp : p < n) : zt_ab b p q = (decide (j = p) || zt_ab b p j) := by
  have hn : ¬ b q = -1 := by rw [e]; exact zt_ne (by have := h.1; omega)
  have h10 := h.1
  unfold zt_ab
  rw [zt_abf, if_neg hn, e, nI_clamp (by omega), zt_abf_ge h p j q (j + 1) (by omega) hj (by omega)]
  by_cases hjp : j = p
  · rw [hjp, if_pos rfl]; simp
  · have : ¬ nI j = nI p := fun e2 => hjp ((nI_eq (by omega) (by omega)).mp e2)
    rw [if_neg this]; simp [hjp]
theorem zt_ab_lt {n : Nat} {b : Nat → Int32} (h : zt_wf n b) {p : Nat} (hp : p < n) : ∀ q, q < n → zt_ab b p q = true → p < q := by
  intro q
  induction q using Nat.strongRecOn with
  | _ q ih =>
    intro hq ha
    rcases h.at hq with e | ⟨j, h1, h2, e⟩
    · rw [zt_ab_none e] at ha; cases ha
    · rw [zt_ab_boss h hq h1 e hp] at ha
      simp only [Bool.or_eq_true, decide_eq_true_eq] at ha
      rcases ha with rfl | ha
      · exact h1
      · have := ih j h1 h2 ha; omega
def zi_b (x : Bool) : Int32 := if x then 1 else 0
theorem zi_b_b {x : Bool} : zm_nr (some .boolean) (zi_b x) = True := by
  cases x
  · exact zn_b0
  · exact zn_b1
theorem c_isAbove {E : zm_E} (hE : zm_ok E.2.2.1 E.2.2.2.2) (d : Nat) {n p q : Nat} {M : zm_M} (hw : zt_wf n (fun i => M.1 1 (90 + i))) (hp : p < n) (hq : q < n) : zm_R E (d + 1) mX12_isAbove [.ref 0, .int (nI p), .int (nI q)] M (fun r M' => r = some (.int (zi_b (zt_ab (fun i => M.1 1 (90 + i)) p q))) ∧ M' = M) := by
  refine zX12_isAbove hE rfl (fun G h0 h10 h22 h35 => ?_)
  show G 0 [some (.ref 0), some (.int (nI p)), some (.int (nI q)), none] [] M
  have hn10 := hw.1
  have loop : ∀ (y : Nat), y < n → zt_ab (fun i => M.1 1 (90 + i)) p y = zt_ab (fun i => M.1 1 (90 + i)) p q → G 10 [some (.ref 0), some (.int (nI p)), some (.int (nI q)), some (.int (M.1 1 (90 + y)))] [] M := by
    intro y
    induction y using Nat.strongRecOn with
    | _ y ih =>
      intro hy hc
      refine h10 _ _ _ ?_
      simp only [bX12_isAbove_10, zw_0, zw_1, zs_iloadn3, zs_iconst, zs_iceq, zs_iloadn1, zs_icne, zs_ireturn, zn_int, zn_b0, zn_b1, zb_0, za_1, za_2, za_3, za_4, za_5, za_6, za_7, za_8, za_9, za_10, za_11, za_12, za_13, za_14, true_and, and_true, Nat.reduceAdd]
      rcases hw.at hy with e | ⟨j, h1, h2, e⟩
      · rw [zt_ab_none (b := fun i => M.1 1 (90 + i)) e] at hc
        have e : M.1 1 (90 + y) = -1 := e
        refine ⟨fun _ => ?_, fun hne => absurd e hne⟩
        refine h35 _ _ _ ?_
        simp only [bX12_isAbove_35, zw_0, zw_1, zs_iconst, zs_ireturn, zn_int, zn_b0, zn_b1, zb_0, za_1, za_2, za_3, za_4, za_5, za_6, za_7, za_8, za_9, za_10, za_11, za_12, za_13, za_14, true_and, and_true, Nat.reduceAdd]
        rw [← hc]; rfl
      · rw [zt_ab_boss hw hy h1 e hp] at hc
        have e : M.1 1 (90 + y) = nI j := e
        refine ⟨fun hne => absurd (e.symm.trans hne) (zt_ne (by omega)), fun _ => ⟨fun hne => ?_, fun he => ?_⟩⟩
        · have hjp : ¬ j = p := fun z => hne (by rw [e, z])
          simp only [hjp, decide_false, Bool.false_or] at hc
          refine h22 _ _ _ ?_
          simp only [bX12_isAbove_22, zw_0, zw_1, zs_aloadn0, zs_aloadNn0, zg_12_7, zs_bipush, zs_iloadn3, zs_iadd, zs_iaload, zs_istoren3, zs_goto, zc_none, zc_int, zc_ref, zc_null, zc_long, zb_0, za_1, za_2, za_3, za_4, za_5, za_6, za_7, za_8, za_9, za_10, za_11, za_12, za_13, za_14, zu_0, zu_1, zu_2, zu_3, zu_4, zu_5, zu_6, zu_7, zu_8, zu_9, zu_10, zu_11, zu_12, zu_13, zu_14, zu_15, zu_16, zu_17, zu_18, zu_19, zu_20, zu_21, zu_22, zu_23, zu_24, zu_25, zu_26, zu_27, zu_28, zu_29, zu_30, zu_90, zv_0_9, zv_1_9, zv_2_9, zv_3_9, zv_4_9, zv_5_9, zv_6_9, zv_7_9, zv_8_9, zv_0_330, zv_0_4544, zv_1_4544, zv_2_4544, zv_3_4544, zv_4_4544, zv_5_4544, zv_6_4544, zv_7_4544, zv_8_4544, zv_9_4544, zv_10_4544, zv_11_4544, zv_12_4544, zv_13_4544, zv_14_4544, zv_15_4544, zv_16_4544, zv_17_4544, zv_18_4544, zv_19_4544, zv_20_4544, zv_21_4544, zv_22_4544, zv_23_4544, zv_24_4544, zv_25_4544, zv_26_4544, zv_27_4544, zv_28_4544, zv_29_4544, zv_0_11, zv_1_11, zv_0_160, true_and, and_true, Nat.reduceAdd]
          refine ⟨zx_in (n := 90 + j) (by rw [e]; exact zx_boss j) (by omega) (by decide), ?_⟩
          rw [zx_cl (n := 90 + j) (by rw [e]; exact zx_boss j) (by omega)]
          exact ih j h1 h2 hc
        · have hjp : j = p := (nI_eq (by omega) (by omega)).mp (e.symm.trans he)
          simp only [hjp, decide_true, Bool.true_or] at hc
          rw [← hc]; rfl
  refine h0 _ _ _ ?_
  simp only [bX12_isAbove_0, zw_0, zw_1, zs_aloadn0, zs_aloadNn0, zg_12_7, zs_bipush, zs_iloadn2, zs_iadd, zs_iaload, zs_istoren3, zc_none, zc_int, zc_ref, zc_null, zc_long, zb_0, za_1, za_2, za_3, za_4, za_5, za_6, za_7, za_8, za_9, za_10, za_11, za_12, za_13, za_14, zu_0, zu_1, zu_2, zu_3, zu_4, zu_5, zu_6, zu_7, zu_8, zu_9, zu_10, zu_11, zu_12, zu_13, zu_14, zu_15, zu_16, zu_17, zu_18, zu_19, zu_20, zu_21, zu_22, zu_23, zu_24, zu_25, zu_26, zu_27, zu_28, zu_29, zu_30, zu_90, zv_0_9, zv_1_9, zv_2_9, zv_3_9, zv_4_9, zv_5_9, zv_6_9, zv_7_9, zv_8_9, zv_0_330, zv_0_4544, zv_1_4544, zv_2_4544, zv_3_4544, zv_4_4544, zv_5_4544, zv_6_4544, zv_7_4544, zv_8_4544, zv_9_4544, zv_10_4544, zv_11_4544, zv_12_4544, zv_13_4544, zv_14_4544, zv_15_4544, zv_16_4544, zv_17_4544, zv_18_4544, zv_19_4544, zv_20_4544, zv_21_4544, zv_22_4544, zv_23_4544, zv_24_4544, zv_25_4544, zv_26_4544, zv_27_4544, zv_28_4544, zv_29_4544, zv_0_11, zv_1_11, zv_0_160, true_and, and_true, Nat.reduceAdd]
  refine ⟨zx_in (zx_boss q) (by omega) (by decide), ?_⟩
  rw [zx_cl (zx_boss q) (by omega)]
  exact loop q hq rfl
/-- the one right below p on the way down to q -/
def zt_dnf (b : Nat → Int32) : Nat → Nat → Nat → Nat
  | 0, _, q => q
  | f + 1, p, q => if b q = nI p then q else zt_dnf b f p (b q).toNatClampNeg
def zt_dn (b : Nat → Int32) (p q : Nat) : Nat := zt_dnf b (q + 1) p q
theorem zt_dnf_ge {n : Nat} {b : Nat → Int32} (h : zt_wf n b) {p : Nat} (hp : p < n) : ∀ (q f g : Nat), q < n → zt_ab b p q = true → q < f → q < g → zt_dnf b f p q = zt_dnf b g p q := by
  intro q
  induction q using Nat.strongRecOn with
  | _ q ih =>
    intro f g hq ha hf hg
    obtain ⟨f, rfl⟩ : ∃ k, f = k + 1 := ⟨f - 1, by omega⟩
    obtain ⟨g, rfl⟩ : ∃ k, g = k + 1 := ⟨g - 1, by omega⟩
    simp only [zt_dnf]
    have h10 := h.1
    rcases h.at hq with e | ⟨j, h1, h2, e⟩
    · rw [zt_ab_none e] at ha; cases ha
    · rw [zt_ab_boss h hq h1 e hp] at ha
      by_cases hjp : j = p
      · rw [e, hjp, if_pos rfl, if_pos rfl]
      · have hne : ¬ nI j = nI p := fun e2 => hjp ((nI_eq (by omega) (by omega)).mp e2)
        simp only [hjp, decide_false, Bool.false_or] at ha
        rw [e, if_neg hne, if_neg hne, nI_clamp (by omega), ih j h1 f g h2 ha (by omega) (by omega)]
theorem zt_dn_spec {n : Nat} {b : Nat → Int32} (h : zt_wf n b) {p : Nat} (hp : p < n) : ∀ q, q < n → zt_ab b p q = true → zt_dn b p q < n ∧ b (zt_dn b p q) = nI p ∧ zt_dn b p q ≤ q ∧ p < zt_dn b p q := by
  intro q
  induction q using Nat.strongRecOn with
  | _ q ih =>
    intro hq ha
    have h10 := h.1
    have hlt := zt_ab_lt h hp q hq ha
    rcases h.at hq with e | ⟨j, h1, h2, e⟩
    · rw [zt_ab_none e] at ha; cases ha
    · rw [zt_ab_boss h hq h1 e hp] at ha
      by_cases hjp : j = p
      · have : zt_dn b p q = q := by unfold zt_dn zt_dnf; rw [e, hjp, if_pos rfl]
        rw [this]
        exact ⟨hq, by rw [e, hjp], Nat.le_refl _, hlt⟩
      · have hne : ¬ nI j = nI p := fun e2 => hjp ((nI_eq (by omega) (by omega)).mp e2)
        simp only [hjp, decide_false, Bool.false_or] at ha
        have hd : zt_dn b p q = zt_dn b p j := by
          unfold zt_dn
          rw [zt_dnf, e, if_neg hne, nI_clamp (by omega), zt_dnf_ge h hp j q (j + 1) h2 ha h1 (by omega)]
        obtain ⟨g1, g2, g3, g4⟩ := ih j h1 h2 ha
        rw [hd]
        exact ⟨g1, g2, by omega, g4⟩
theorem c_downTo {E : zm_E} (hE : zm_ok E.2.2.1 E.2.2.2.2) (d : Nat) {n p q : Nat} {M : zm_M} (hw : zt_wf n (fun i => M.1 1 (90 + i))) (hp : p < n) (hq : q < n) (ha : zt_ab (fun i => M.1 1 (90 + i)) p q = true) : zm_R E (d + 1) mX12_downTo [.ref 0, .int (nI p), .int (nI q)] M (fun r M' => r = some (.int (nI (zt_dn (fun i => M.1 1 (90 + i)) p q))) ∧ M' = M) := by
  refine zX12_downTo hE rfl (fun G h0 h2 h28 => ?_)
  show G 0 [some (.ref 0), some (.int (nI p)), some (.int (nI q)), none] [] M
  have hn10 := hw.1
  have loop : ∀ (y : Nat), y < n → zt_ab (fun i => M.1 1 (90 + i)) p y = true → zt_dn (fun i => M.1 1 (90 + i)) p y = zt_dn (fun i => M.1 1 (90 + i)) p q → G 2 [some (.ref 0), some (.int (nI p)), some (.int (nI q)), some (.int (nI y))] [] M := by
    intro y
    induction y using Nat.strongRecOn with
    | _ y ih =>
      intro hy hb hc
      refine h2 _ _ _ ?_
      simp only [bX12_downTo_2, zw_0, zw_1, zs_aloadn0, zs_aloadNn0, zg_12_7, zs_bipush, zs_iloadn3, zs_iadd, zs_iaload, zs_iloadn1, zs_iceq, zs_istoren3, zs_goto, zc_none, zc_int, zc_ref, zc_null, zc_long, zb_0, za_1, za_2, za_3, za_4, za_5, za_6, za_7, za_8, za_9, za_10, za_11, za_12, za_13, za_14, zu_0, zu_1, zu_2, zu_3, zu_4, zu_5, zu_6, zu_7, zu_8, zu_9, zu_10, zu_11, zu_12, zu_13, zu_14, zu_15, zu_16, zu_17, zu_18, zu_19, zu_20, zu_21, zu_22, zu_23, zu_24, zu_25, zu_26, zu_27, zu_28, zu_29, zu_30, zu_90, zv_0_9, zv_1_9, zv_2_9, zv_3_9, zv_4_9, zv_5_9, zv_6_9, zv_7_9, zv_8_9, zv_0_330, zv_0_4544, zv_1_4544, zv_2_4544, zv_3_4544, zv_4_4544, zv_5_4544, zv_6_4544, zv_7_4544, zv_8_4544, zv_9_4544, zv_10_4544, zv_11_4544, zv_12_4544, zv_13_4544, zv_14_4544, zv_15_4544, zv_16_4544, zv_17_4544, zv_18_4544, zv_19_4544, zv_20_4544, zv_21_4544, zv_22_4544, zv_23_4544, zv_24_4544, zv_25_4544, zv_26_4544, zv_27_4544, zv_28_4544, zv_29_4544, zv_0_11, zv_1_11, zv_0_160, true_and, and_true, Nat.reduceAdd]
      refine ⟨zx_in (zx_boss y) (by omega) (by decide), ?_⟩
      rw [zx_cl (zx_boss y) (by omega)]
      rcases hw.at hy with e | ⟨j, h1, h3, e⟩
      · rw [zt_ab_none (b := fun i => M.1 1 (90 + i)) e] at hb; cases hb
      · rw [zt_ab_boss hw hy h1 e hp] at hb
        have e0 := e
        have e : M.1 1 (90 + y) = nI j := e
        refine ⟨fun he => ?_, fun hne => ⟨zx_in (zx_boss y) (by omega) (by decide), ?_⟩⟩
        · have hjp : j = p := (nI_eq (by omega) (by omega)).mp (e.symm.trans he)
          refine h28 _ _ _ ?_
          simp only [bX12_downTo_28, zw_0, zw_1, zs_iloadn3, zs_ireturn, zn_int, zn_b0, zn_b1, zb_0, za_1, za_2, za_3, za_4, za_5, za_6, za_7, za_8, za_9, za_10, za_11, za_12, za_13, za_14, true_and, and_true, Nat.reduceAdd]
          have : zt_dn (fun i => M.1 1 (90 + i)) p y = y := by unfold zt_dn zt_dnf; rw [if_pos (by rw [e0, hjp])]
          rw [← hc, this]
        · have hjp : ¬ j = p := fun z => hne (by rw [e, z])
          have hjn : ¬ nI j = nI p := fun e2 => hjp ((nI_eq (by omega) (by omega)).mp e2)
          simp only [hjp, decide_false, Bool.false_or] at hb
          rw [e]
          refine ih j h1 h3 hb ?_
          rw [← hc]
          unfold zt_dn
          rw [zt_dnf_ge hw hp j (j + 1) y h3 hb (by omega) h1]
          conv => rhs; rw [zt_dnf, e0, if_neg hjn, nI_clamp (by omega)]
  refine h0 _ _ _ ?_
  simp only [bX12_downTo_0, zw_0, zw_1, zs_iloadn2, zs_istoren3, zc_none, zc_int, zc_ref, zc_null, zc_long, zb_0, za_1, za_2, za_3, za_4, za_5, za_6, za_7, za_8, za_9, za_10, za_11, za_12, za_13, za_14, true_and, and_true, Nat.reduceAdd]
  exact loop q hq ha rfl
