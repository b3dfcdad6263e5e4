/-! ===== the reference: the sum of a clause ===== -/
/-- the rows of values and of truths, the top first -/
def zp_vs (f : Nat → Int64) : List Int → Prop
  | [] => True
  | v :: t => (f t.length).toInt = v ∧ zp_vs f t
def zp_ts (f : Nat → Int32) : List Bool → Prop
  | [] => True
  | v :: t => f t.length = zi_b v ∧ zp_ts f t
theorem zp_vs_c {f g : Nat → Int64} : ∀ {st : List Int}, (∀ i, i < st.length → g i = f i) → zp_vs f st → zp_vs g st := by
  intro st
  induction st with
  | nil => intro _ _; trivial
  | cons v t ih =>
    intro h hs
    exact ⟨by rw [h t.length (by simp)]; exact hs.1, ih (fun i hi => h i (by simp; omega)) hs.2⟩
theorem zp_ts_c {f g : Nat → Int32} : ∀ {st : List Bool}, (∀ i, i < st.length → g i = f i) → zp_ts f st → zp_ts g st := by
  intro st
  induction st with
  | nil => intro _ _; trivial
  | cons v t ih =>
    intro h hs
    exact ⟨by rw [h t.length (by simp)]; exact hs.1, ih (fun i hi => h i (by simp; omega)) hs.2⟩
abbrev zS : Type := List Int × List Bool
def zp_fnd (o v : Nat) (nm : Nat → Int) (rk : Int → Int) (s : zS) : Option zS :=
  if o = 0 then (if v ≤ 9999 then some ((v : Int) :: s.1, s.2) else none)
  else if o = 1 then (if v < 9 then some (nm v :: s.1, s.2) else none)
  else if o = 3 then (match s.1, s.2 with
    | y :: x :: t, b :: u => some ((if b then x else y) :: t, u)
    | _, _ => none)
  else if o = 5 then (match s.1 with
    | x :: t => some ((-x) :: t, s.2)
    | _ => none)
  else if o = 2 then (match s.1 with
    | x :: t => some (rk x :: t, s.2)
    | _ => none)
  else if o = 4 then (match s.1 with
    | y :: x :: t => some (zq_ar 11 x y :: t, s.2)
    | _ => none)
  else if 6 ≤ o ∧ o ≤ 9 then (match s.1 with
    | y :: x :: t => some (zq_ar (o + 1) x y :: t, s.2)
    | _ => none)
  else if 10 ≤ o ∧ o ≤ 15 then (match s.1 with
    | y :: x :: t => some (t, zq_cp (o + 2) x y :: s.2)
    | _ => none)
  else if o = 20 then (match s.2 with
    | b :: u => some (s.1, (!b) :: u)
    | _ => none)
  else if o = 21 ∨ o = 22 then (match s.2 with
    | c :: b :: u => some (s.1, (if o = 21 then b && c else b || c) :: u)
    | _ => none)
  else none
def zp_run (co cv : Nat → Nat) (nm : Nat → Int) (rk : Int → Int) : Nat → Nat → zS → Option zS
  | 0, _, s => some s
  | k + 1, i, s => (zp_fnd (co i) (cv i) nm rk s).bind (zp_run co cv nm rk k (i + 1))
def zp_seg (co cv : Nat → Nat) (i0 i1 : Nat) (D : zD) : Prop := i0 ≤ i1 ∧ ∀ nm rk vs ts, (∀ i, i < 9 → zq_ok (nm i)) → (∀ v, zq_ok (rk v)) → zp_run co cv nm rk (i1 - i0) i0 (vs, ts) = some (D nm rk :: vs, ts)
def zp_in (s : zS) (M : zm_M) : Prop := zp_vs (M.2.1 7) s.1 ∧ zp_ts (M.1 8) s.2 ∧ zq_all s.1
theorem zq_all_cons {v : Int} {t : List Int} : zq_all (v :: t) ↔ zq_ok v ∧ zq_all t := by
  refine ⟨fun h => ⟨h v List.mem_cons_self, fun u hu => h u (List.mem_cons_of_mem _ hu)⟩, fun h u hu => ?_⟩
  rcases List.mem_cons.mp hu with e | e
  · rw [e]; exact h.1
  · exact h.2 u e
theorem zm_wj_same (M : zm_M) (p k : Nat) (v : Int64) (j : Nat) : (zm_wj M p k v).2.1 p j = if j = k then v else M.2.1 p j := by
  simp only [zm_wj, if_true, vp_updL]
theorem zm_wj_1 (M : zm_M) (p k : Nat) (v : Int64) : (zm_wj M p k v).1 = M.1 := rfl
theorem zm_wi_2 (M : zm_M) (p k : Nat) (v : Int32) : (zm_wi M p k v).2 = M.2 := rfl
theorem zx_narb (b : Bool) : vp_nar .boolean (zi_b b) = zi_b b := by cases b <;> rfl
theorem zx_m1 (n : Nat) : nI (n + 1) + (-1) = nI n := by
  have h := nI_pred n
  rw [Int32.sub_eq_add_neg] at h; exact h
theorem zx_m2 (n : Nat) : nI (n + 2) + (-2) = nI n := by
  have h := pk_sub (a := n + 2) (b := 2) (by omega)
  rw [show n + 2 - 2 = n by omega, Int32.sub_eq_add_neg] at h; exact h
set_option maxHeartbeats 4000000 in
theorem c_summedUp {E : zm_E} (hE : zm_ok E.2.2.1 E.2.2.2.2) (d : Nat) {n t c i0 i1 : Nat} (ht : t < 4) (hcl : c < 24) (hi1 : i1 ≤ 304) {M : zm_M} (hw : zt_wf n (fun i => M.1 1 (90 + i))) (hc : M.1 1 0 = nI n) (hnm : ∀ i, i < 9 → zq_ok (M.1 6 i).toInt) {D : zD} {co cv : Nat → Nat} (e0 : M.1 3 (705 * t + 1 + 4 * c + 1) = nI i0) (e1 : M.1 3 (705 * t + 1 + 4 * c + 2) = nI i1) (ecd : ∀ i, i0 ≤ i → i < i1 → M.1 3 (705 * t + 97 + 2 * i) = nI (co i) ∧ M.1 3 (705 * t + 97 + 2 * i + 1) = nI (cv i) ∧ co i ≤ 22) (hD : zp_seg co cv i0 i1 D) {Q : Option Value → zm_M → Prop} (q : ∀ x M', x.toInt = D (fun i => (M.1 6 i).toInt) (zq_rk n (fun i => M.1 1 (90 + i))) → zq_ok x.toInt → zf [7, 8] M M' → Q (some (.long x)) M') : zm_R E (d + 3) mX12_summedUp [.ref 0, .int (nI t), .int (nI c)] M Q := by
  refine zX12_summedUp hE rfl (fun G h0 h38 h104 h112 h119 h160 h172 h199 h212 h216 h262 h283 h287 h331 h362 h363 h367 h400 h406 => ?_)
  show G 0 [some (.ref 0), some (.int (nI t)), some (.int (nI c)), none, none, none, none, none, none, none] [] M
  have hn10 := hw.1
  have rko : ∀ v, zq_ok (zq_rk n (fun i => M.1 1 (90 + i)) v) := fun v => by
    unfold zq_rk zq_ok
    split
    · next c =>
      have := zt_rk_le hw v.toNat (by omega)
      omega
    · omega
  have ex : (705 : Int32) * nI t + 1 + 4 * nI c = nI (705 * t + 1 + 4 * c) := by
    rw [show (705 : Int32) = nI 705 from rfl, pk_mul, show (4 : Int32) = nI 4 from rfl, pk_mul, nI_1, nI_add]
  have ec : (705 : Int32) * nI t + 97 = nI (705 * t + 97) := by
    rw [show (705 : Int32) = nI 705 from rfl, pk_mul]; exact nI_add _ 97
  have ex1 : nI (705 * t + 1 + 4 * c) + 1 = nI (705 * t + 1 + 4 * c + 1) := nI_1 _
  have ex2 : nI (705 * t + 1 + 4 * c) + 2 = nI (705 * t + 1 + 4 * c + 2) := nI_add _ 2
  obtain ⟨vx1, cx1⟩ := zx_ck (k := 705 * t + 1 + 4 * c) (p := 1) (N := 2820) (by omega) (by decide)
  obtain ⟨vx2, cx2⟩ := zx_ck (k := 705 * t + 1 + 4 * c) (p := 2) (N := 2820) (by omega) (by decide)
  obtain ⟨hD1, hD2⟩ := hD
  have hD2 := hD2 (fun i => (M.1 6 i).toInt) (zq_rk n (fun i => M.1 1 (90 + i))) [] [] hnm rko
  generalize hDv : D (fun i => (M.1 6 i).toInt) (zq_rk n (fun i => M.1 1 (90 + i))) = Dv at *
  have k0 : ∀ {M1 : zm_M} {p : Nat}, zf [7, 8] M M1 → p ≠ 7 → p ≠ 8 → M1.1 p = M.1 p := fun f a b => (f _ (by simp [a, b])).1
  have loop : ∀ (k i : Nat) (vs : List Int) (ts : List Bool) (M1 : zm_M) (l8 l9 : Option Value), i + k = i1 → i0 ≤ i → vs.length ≤ i - i0 → ts.length ≤ i - i0 → zf [7, 8] M M1 → zp_vs (M1.2.1 7) vs → zp_ts (M1.1 8) ts → zq_all vs → zp_run co cv (fun i => (M.1 6 i).toInt) (zq_rk n (fun i => M.1 1 (90 + i))) k i (vs, ts) = some ([Dv], []) → G 38 [some (.ref 0), some (.int (nI t)), some (.int (nI c)), some (.int (nI (705 * t + 1 + 4 * c))), some (.int (nI (705 * t + 97))), some (.int (nI vs.length)), some (.int (nI ts.length)), some (.int (nI i)), l8, l9] [] M1 := by
    intro k
    induction k with
    | zero =>
      intro i vs ts M1 l8 l9 hi hi0 hv1 ht1 f1 hvs hts hall hrun
      cases hrun
      have m2 : M1.1 3 (705 * t + 1 + 4 * c + 2) = nI i1 := by rw [k0 f1 (by decide) (by decide)]; exact e1
      refine h38 _ _ _ ?_
      simp only [bX12_summedUp_38, zw_0, zw_1, zs_iload7, zs_aloadn0, zs_aloadNn0, zg_12_16, zs_iloadn3, zs_iconst, zs_iadd, zs_iaload, zs_icge, zs_iload4, zs_imul, zs_istore8, zs_istore9, zs_iload8, zs_icgt, zg_12_35, zs_iload5, zs_ifne, zs_iload9, zs_i2l, zs_goto, zc_none, zc_int, zc_ref, zc_null, zc_long, zb_0, za_1, za_2, za_3, za_4, za_5, za_6, za_7, za_8, za_9, za_10, za_11, za_12, za_13, za_14, zu_0, zu_1, zu_2, zu_3, zu_4, zu_5, zu_6, zu_7, zu_8, zu_9, zu_10, zu_11, zu_12, zu_13, zu_14, zu_15, zu_16, zu_17, zu_18, zu_19, zu_20, zu_21, zu_22, zu_23, zu_24, zu_25, zu_26, zu_27, zu_28, zu_29, zu_30, zu_90, zv_0_9, zv_1_9, zv_2_9, zv_3_9, zv_4_9, zv_5_9, zv_6_9, zv_7_9, zv_8_9, zv_0_330, zv_0_4544, zv_1_4544, zv_2_4544, zv_3_4544, zv_4_4544, zv_5_4544, zv_6_4544, zv_7_4544, zv_8_4544, zv_9_4544, zv_10_4544, zv_11_4544, zv_12_4544, zv_13_4544, zv_14_4544, zv_15_4544, zv_16_4544, zv_17_4544, zv_18_4544, zv_19_4544, zv_20_4544, zv_21_4544, zv_22_4544, zv_23_4544, zv_24_4544, zv_25_4544, zv_26_4544, zv_27_4544, zv_28_4544, zv_29_4544, zv_0_11, zv_1_11, zv_0_160, true_and, and_true, Nat.reduceAdd, ex2, vx2, cx2, m2]
      refine ⟨fun _ => ?_, fun h => absurd (nI_le (by omega) (by omega)) h⟩
      refine h406 _ _ _ ?_
      simp only [bX12_summedUp_406, zw_0, zw_1, zs_aloadn0, zs_aloadNn0, zg_12_35, zs_iconst, zs_laload, zs_lreturn, zn_int, zn_b0, zn_b1, zb_0, za_1, za_2, za_3, za_4, za_5, za_6, za_7, za_8, za_9, za_10, za_11, za_12, za_13, za_14, zu_0, zu_1, zu_2, zu_3, zu_4, zu_5, zu_6, zu_7, zu_8, zu_9, zu_10, zu_11, zu_12, zu_13, zu_14, zu_15, zu_16, zu_17, zu_18, zu_19, zu_20, zu_21, zu_22, zu_23, zu_24, zu_25, zu_26, zu_27, zu_28, zu_29, zu_30, zu_90, zv_0_9, zv_1_9, zv_2_9, zv_3_9, zv_4_9, zv_5_9, zv_6_9, zv_7_9, zv_8_9, zv_0_330, zv_0_4544, zv_1_4544, zv_2_4544, zv_3_4544, zv_4_4544, zv_5_4544, zv_6_4544, zv_7_4544, zv_8_4544, zv_9_4544, zv_10_4544, zv_11_4544, zv_12_4544, zv_13_4544, zv_14_4544, zv_15_4544, zv_16_4544, zv_17_4544, zv_18_4544, zv_19_4544, zv_20_4544, zv_21_4544, zv_22_4544, zv_23_4544, zv_24_4544, zv_25_4544, zv_26_4544, zv_27_4544, zv_28_4544, zv_29_4544, zv_0_11, zv_1_11, zv_0_160, true_and, and_true, Nat.reduceAdd]
      have h103 : (M1.2.1 7 0).toInt = Dv := hvs.1
      exact q _ M1 h103 (by rw [h103]; exact hall _ List.mem_cons_self) f1
    | succ k ih =>
      intro i vs ts M1 l8 l9 hi hi0 hv1 ht1 f1 hvs hts hall hrun
      obtain ⟨g0, g1, g22⟩ := ecd i hi0 (by omega)
      have m2 : M1.1 3 (705 * t + 1 + 4 * c + 2) = nI i1 := by rw [k0 f1 (by decide) (by decide)]; exact e1
      have mo : M1.1 3 (705 * t + 97 + 2 * i) = nI (co i) := by rw [k0 f1 (by decide) (by decide)]; exact g0
      have mv : M1.1 3 (705 * t + 97 + 2 * i + 1) = nI (cv i) := by rw [k0 f1 (by decide) (by decide)]; exact g1
      have m6 : M1.1 6 = M.1 6 := k0 f1 (by decide) (by decide)
      have a1 : M1.1 1 = M.1 1 := k0 f1 (by decide) (by decide)
      have ei : nI (705 * t + 97) + 2 * nI i = nI (705 * t + 97 + 2 * i) := by rw [show (2 : Int32) = nI 2 from rfl, pk_mul, nI_add]
      have ei1 : nI (705 * t + 97 + 2 * i) + 1 = nI (705 * t + 97 + 2 * i + 1) := nI_1 _
      obtain ⟨vi, ci⟩ := zx_ck (k := 705 * t + 97) (p := 2 * i) (N := 2820) (by omega) (by decide)
      obtain ⟨vi1, ci1⟩ := zx_ck (k := 705 * t + 97 + 2 * i) (p := 1) (N := 2820) (by omega) (by decide)
      simp only [zp_run, Option.bind_eq_some_iff] at hrun
      obtain ⟨⟨vs', ts'⟩, hst, hrun⟩ := hrun
      generalize ho : co i = o at *
      generalize hv : cv i = v at *
      have oe : ∀ k : Nat, k < 100 → ((nI o = nI k) ↔ o = k) := fun k hk => nI_eq (by omega) (by omega)
      have o0 : (nI o = 0) = (o = 0) := propext (oe 0 (by decide))
      have o2 : (nI o = 2) = (o = 2) := propext (oe 2 (by decide))
      have o3 : (nI o = 3) = (o = 3) := propext (oe 3 (by decide))
      have o4 : (nI o = 4) = (o = 4) := propext (oe 4 (by decide))
      have o5 : (nI o = 5) = (o = 5) := propext (oe 5 (by decide))
      have o20 : (nI o = 20) = (o = 20) := propext (oe 20 (by decide))
      have o21 : (nI o = 21) = (o = 21) := propext (oe 21 (by decide))
      have og1 : ((1 : Int32) < nI o) = (1 < o) := propext (nI_ltI (a := 1) (by decide) (by omega))
      have og10 : ((10 : Int32) ≤ nI o) = (10 ≤ o) := propext (nI_leI (a := 10) (by decide) (by omega))
      have og20 : ((20 : Int32) ≤ nI o) = (20 ≤ o) := propext (nI_leI (a := 20) (by decide) (by omega))
      have go : ∀ (M2 : zm_M), zf [7, 8] M M2 → vs'.length ≤ vs.length + 1 → ts'.length ≤ ts.length + 1 → zp_vs (M2.2.1 7) vs' → zp_ts (M2.1 8) ts' → zq_all vs' → G 400 [some (.ref 0), some (.int (nI t)), some (.int (nI c)), some (.int (nI (705 * t + 1 + 4 * c))), some (.int (nI (705 * t + 97))), some (.int (nI vs'.length)), some (.int (nI ts'.length)), some (.int (nI i)), some (.int (nI o)), some (.int (nI v))] [] M2 := by
        intro M2 f2 b1 b2 b3 b4 b5
        refine h400 _ _ _ ?_
        simp only [bX12_summedUp_400, zw_0, zw_1, zs_iinc7, zs_goto, zc_none, zc_int, zc_ref, zc_null, zc_long, zb_0, za_1, za_2, za_3, za_4, za_5, za_6, za_7, za_8, za_9, za_10, za_11, za_12, za_13, za_14, true_and, and_true, Nat.reduceAdd, nI_1]
        exact ih (i + 1) vs' ts' M2 _ _ (by omega) (by omega) (by omega) (by omega) f2 b3 b4 b5 hrun
      have li : vs.length < 330 ∧ ts.length < 330 := by omega
      unfold zp_fnd at hst
      simp only at hst
      refine h38 _ _ _ ?_
      simp only [bX12_summedUp_38, zw_0, zw_1, zs_iload7, zs_aloadn0, zs_aloadNn0, zg_12_16, zs_iloadn3, zs_iconst, zs_iadd, zs_iaload, zs_icge, zs_iload4, zs_imul, zs_istore8, zs_istore9, zs_iload8, zs_icgt, zg_12_35, zs_iload5, zs_ifne, zs_iload9, zs_i2l, zs_goto, zc_none, zc_int, zc_ref, zc_null, zc_long, zb_0, za_1, za_2, za_3, za_4, za_5, za_6, za_7, za_8, za_9, za_10, za_11, za_12, za_13, za_14, zu_0, zu_1, zu_2, zu_3, zu_4, zu_5, zu_6, zu_7, zu_8, zu_9, zu_10, zu_11, zu_12, zu_13, zu_14, zu_15, zu_16, zu_17, zu_18, zu_19, zu_20, zu_21, zu_22, zu_23, zu_24, zu_25, zu_26, zu_27, zu_28, zu_29, zu_30, zu_90, zv_0_9, zv_1_9, zv_2_9, zv_3_9, zv_4_9, zv_5_9, zv_6_9, zv_7_9, zv_8_9, zv_0_330, zv_0_4544, zv_1_4544, zv_2_4544, zv_3_4544, zv_4_4544, zv_5_4544, zv_6_4544, zv_7_4544, zv_8_4544, zv_9_4544, zv_10_4544, zv_11_4544, zv_12_4544, zv_13_4544, zv_14_4544, zv_15_4544, zv_16_4544, zv_17_4544, zv_18_4544, zv_19_4544, zv_20_4544, zv_21_4544, zv_22_4544, zv_23_4544, zv_24_4544, zv_25_4544, zv_26_4544, zv_27_4544, zv_28_4544, zv_29_4544, zv_0_11, zv_1_11, zv_0_160, true_and, and_true, Nat.reduceAdd, ex2, vx2, cx2, m2, ei, vi, ci, mo, ei1, vi1, ci1, mv, og1, o0]
      refine ⟨fun h => absurd h (nI_ge (by omega) (by omega)), fun _ => ⟨fun hgt => ?_, fun hle => ?_⟩⟩
      · rw [if_neg (by omega), if_neg (by omega)] at hst
        refine h119 _ _ _ ?_
        simp only [bX12_summedUp_119, zw_0, zw_1, zs_iload8, zs_iconst, zs_icne, zs_iinc5, zs_iinc6, zs_aloadn0, zs_aloadNn0, zg_12_39, zs_iload6, zs_baload, zs_ifne, zg_12_35, zs_iload5, zs_isub, zs_laload, zs_lastore, zs_goto, zc_none, zc_int, zc_ref, zc_null, zc_long, zb_0, za_1, za_2, za_3, za_4, za_5, za_6, za_7, za_8, za_9, za_10, za_11, za_12, za_13, za_14, zu_0, zu_1, zu_2, zu_3, zu_4, zu_5, zu_6, zu_7, zu_8, zu_9, zu_10, zu_11, zu_12, zu_13, zu_14, zu_15, zu_16, zu_17, zu_18, zu_19, zu_20, zu_21, zu_22, zu_23, zu_24, zu_25, zu_26, zu_27, zu_28, zu_29, zu_30, zu_90, zv_0_9, zv_1_9, zv_2_9, zv_3_9, zv_4_9, zv_5_9, zv_6_9, zv_7_9, zv_8_9, zv_0_330, zv_0_4544, zv_1_4544, zv_2_4544, zv_3_4544, zv_4_4544, zv_5_4544, zv_6_4544, zv_7_4544, zv_8_4544, zv_9_4544, zv_10_4544, zv_11_4544, zv_12_4544, zv_13_4544, zv_14_4544, zv_15_4544, zv_16_4544, zv_17_4544, zv_18_4544, zv_19_4544, zv_20_4544, zv_21_4544, zv_22_4544, zv_23_4544, zv_24_4544, zv_25_4544, zv_26_4544, zv_27_4544, zv_28_4544, zv_29_4544, zv_0_11, zv_1_11, zv_0_160, true_and, and_true, Nat.reduceAdd, o3]
        refine ⟨fun n3 => ?_, fun e3 => ?_⟩
        · rw [if_neg n3] at hst
          refine h160 _ _ _ ?_
          simp only [bX12_summedUp_160, zw_0, zw_1, zs_iload8, zs_iconst, zs_iceq, zs_icne, zb_0, za_1, za_2, za_3, za_4, za_5, za_6, za_7, za_8, za_9, za_10, za_11, za_12, za_13, za_14, true_and, and_true, Nat.reduceAdd, o5, o2]
          have un : ∀ (x : Int) (tl : List Int) (y : Int64), vs = x :: tl → vs' = y.toInt :: tl → ts' = ts → zq_ok y.toInt → G 212 [some (.ref 0), some (.int (nI t)), some (.int (nI c)), some (.int (nI (705 * t + 1 + 4 * c))), some (.int (nI (705 * t + 97))), some (.int (nI vs.length)), some (.int (nI ts.length)), some (.int (nI i)), some (.int (nI o)), some (.int (nI v))] [.long y, .int (nI tl.length), .ref 7] M1 := by
            intro x tl y hvs1 hvs2 hts2 hy
            have lt : tl.length < 330 := by have := li.1; rw [hvs1] at this; simp at this; omega
            have v1 : vp_in (nI tl.length) 330 := vp_in_nI lt (by decide)
            have v2 : (nI tl.length).toNatClampNeg = tl.length := nI_clamp (by omega)
            refine h212 _ _ _ ?_
            simp only [bX12_summedUp_212, zw_0, zw_1, zs_lastore, zs_goto, zb_0, za_1, za_2, za_3, za_4, za_5, za_6, za_7, za_8, za_9, za_10, za_11, za_12, za_13, za_14, zu_0, zu_1, zu_2, zu_3, zu_4, zu_5, zu_6, zu_7, zu_8, zu_9, zu_10, zu_11, zu_12, zu_13, zu_14, zu_15, zu_16, zu_17, zu_18, zu_19, zu_20, zu_21, zu_22, zu_23, zu_24, zu_25, zu_26, zu_27, zu_28, zu_29, zu_30, zu_90, zv_0_9, zv_1_9, zv_2_9, zv_3_9, zv_4_9, zv_5_9, zv_6_9, zv_7_9, zv_8_9, zv_0_330, zv_0_4544, zv_1_4544, zv_2_4544, zv_3_4544, zv_4_4544, zv_5_4544, zv_6_4544, zv_7_4544, zv_8_4544, zv_9_4544, zv_10_4544, zv_11_4544, zv_12_4544, zv_13_4544, zv_14_4544, zv_15_4544, zv_16_4544, zv_17_4544, zv_18_4544, zv_19_4544, zv_20_4544, zv_21_4544, zv_22_4544, zv_23_4544, zv_24_4544, zv_25_4544, zv_26_4544, zv_27_4544, zv_28_4544, zv_29_4544, zv_0_11, zv_1_11, zv_0_160, true_and, and_true, Nat.reduceAdd, v1, v2]
            have go := go (zm_wj M1 7 tl.length y) (zf_wj f1 (by decide)) (by rw [hvs1, hvs2]; simp) (by rw [hts2]; omega) ?_ (by rw [hts2]; exact hts) ?_
            · rw [hvs2, hts2] at go
              rw [hvs1]; exact go
            · rw [hvs2]
              rw [hvs1] at hvs
              refine ⟨by rw [zm_wj_same, if_pos rfl], zp_vs_c (fun j hj => ?_) hvs.2⟩
              rw [zm_wj_same, if_neg (by omega)]
            · rw [hvs2]
              rw [hvs1] at hall
              exact zq_all_cons.mpr ⟨hy, (zq_all_cons.mp hall).2⟩
          have un0 : (o = 5 ∨ o = 2) → G 172 [some (.ref 0), some (.int (nI t)), some (.int (nI c)), some (.int (nI (705 * t + 1 + 4 * c))), some (.int (nI (705 * t + 97))), some (.int (nI vs.length)), some (.int (nI ts.length)), some (.int (nI i)), some (.int (nI o)), some (.int (nI v))] [] M1 := by
            intro h52
            cases vs with
            | nil =>
              exfalso
              rcases h52 with rfl | rfl <;> simp at hst
            | cons x tl =>
              have lt : tl.length < 330 := by have := li.1; simp at this; omega
              have v1 : vp_in (nI tl.length) 330 := vp_in_nI lt (by decide)
              have v2 : (nI tl.length).toNatClampNeg = tl.length := nI_clamp (by omega)
              have ep : nI (x :: tl).length - 1 = nI tl.length := nI_pred _
              have hx0 := (zq_all_cons.mp hall).1
              have hx1 := hx0
              unfold zq_ok at hx1
              refine h172 _ _ _ ?_
              simp only [bX12_summedUp_172, zw_0, zw_1, zs_aloadn0, zs_aloadNn0, zg_12_35, zs_iload5, zs_iconst, zs_isub, zs_iload8, zs_icne, zs_laload, zs_lneg, zs_goto, zb_0, za_1, za_2, za_3, za_4, za_5, za_6, za_7, za_8, za_9, za_10, za_11, za_12, za_13, za_14, zu_0, zu_1, zu_2, zu_3, zu_4, zu_5, zu_6, zu_7, zu_8, zu_9, zu_10, zu_11, zu_12, zu_13, zu_14, zu_15, zu_16, zu_17, zu_18, zu_19, zu_20, zu_21, zu_22, zu_23, zu_24, zu_25, zu_26, zu_27, zu_28, zu_29, zu_30, zu_90, zv_0_9, zv_1_9, zv_2_9, zv_3_9, zv_4_9, zv_5_9, zv_6_9, zv_7_9, zv_8_9, zv_0_330, zv_0_4544, zv_1_4544, zv_2_4544, zv_3_4544, zv_4_4544, zv_5_4544, zv_6_4544, zv_7_4544, zv_8_4544, zv_9_4544, zv_10_4544, zv_11_4544, zv_12_4544, zv_13_4544, zv_14_4544, zv_15_4544, zv_16_4544, zv_17_4544, zv_18_4544, zv_19_4544, zv_20_4544, zv_21_4544, zv_22_4544, zv_23_4544, zv_24_4544, zv_25_4544, zv_26_4544, zv_27_4544, zv_28_4544, zv_29_4544, zv_0_11, zv_1_11, zv_0_160, true_and, and_true, Nat.reduceAdd, ep, v1, v2, o5]
              refine ⟨fun n5 => ?_, fun e5 => ?_⟩
              · have e2 : o = 2 := by omega
                rw [if_neg n5, if_pos e2] at hst
                cases hst
                refine h199 _ _ _ ?_
                simp only [bX12_summedUp_199, zw_0, zw_1, zs_aloadn0, zs_aloadNn0, zg_12_35, zs_iload5, zs_iconst, zs_isub, zs_laload, zi_12_267, zh_0, zh_1, zh_2, zh_3, zh_4, zt_i, zt_l, zt_r, zt_n, zb_0, za_1, za_2, za_3, za_4, za_5, za_6, za_7, za_8, za_9, za_10, za_11, za_12, za_13, za_14, zu_0, zu_1, zu_2, zu_3, zu_4, zu_5, zu_6, zu_7, zu_8, zu_9, zu_10, zu_11, zu_12, zu_13, zu_14, zu_15, zu_16, zu_17, zu_18, zu_19, zu_20, zu_21, zu_22, zu_23, zu_24, zu_25, zu_26, zu_27, zu_28, zu_29, zu_30, zu_90, zv_0_9, zv_1_9, zv_2_9, zv_3_9, zv_4_9, zv_5_9, zv_6_9, zv_7_9, zv_8_9, zv_0_330, zv_0_4544, zv_1_4544, zv_2_4544, zv_3_4544, zv_4_4544, zv_5_4544, zv_6_4544, zv_7_4544, zv_8_4544, zv_9_4544, zv_10_4544, zv_11_4544, zv_12_4544, zv_13_4544, zv_14_4544, zv_15_4544, zv_16_4544, zv_17_4544, zv_18_4544, zv_19_4544, zv_20_4544, zv_21_4544, zv_22_4544, zv_23_4544, zv_24_4544, zv_25_4544, zv_26_4544, zv_27_4544, zv_28_4544, zv_29_4544, zv_0_11, zv_1_11, zv_0_160, true_and, and_true, Nat.reduceAdd, ep, v1, v2]
                refine c_ranksOf hE (d + 0) (n := n) hvs.1 hx0 (by rw [a1]; exact hw) (by rw [a1]; exact hc) (fun y hy => ?_)
                rw [a1] at hy
                simp only [bX12_summedUp_199, zw_0, zw_1, zs_aloadn0, zs_aloadNn0, zg_12_35, zs_iload5, zs_iconst, zs_isub, zs_laload, zi_12_267, zh_0, zh_1, zh_2, zh_3, zh_4, zt_i, zt_l, zt_r, zt_n, zb_0, za_1, za_2, za_3, za_4, za_5, za_6, za_7, za_8, za_9, za_10, za_11, za_12, za_13, za_14, zu_0, zu_1, zu_2, zu_3, zu_4, zu_5, zu_6, zu_7, zu_8, zu_9, zu_10, zu_11, zu_12, zu_13, zu_14, zu_15, zu_16, zu_17, zu_18, zu_19, zu_20, zu_21, zu_22, zu_23, zu_24, zu_25, zu_26, zu_27, zu_28, zu_29, zu_30, zu_90, zv_0_9, zv_1_9, zv_2_9, zv_3_9, zv_4_9, zv_5_9, zv_6_9, zv_7_9, zv_8_9, zv_0_330, zv_0_4544, zv_1_4544, zv_2_4544, zv_3_4544, zv_4_4544, zv_5_4544, zv_6_4544, zv_7_4544, zv_8_4544, zv_9_4544, zv_10_4544, zv_11_4544, zv_12_4544, zv_13_4544, zv_14_4544, zv_15_4544, zv_16_4544, zv_17_4544, zv_18_4544, zv_19_4544, zv_20_4544, zv_21_4544, zv_22_4544, zv_23_4544, zv_24_4544, zv_25_4544, zv_26_4544, zv_27_4544, zv_28_4544, zv_29_4544, zv_0_11, zv_1_11, zv_0_160, true_and, and_true, Nat.reduceAdd]
                exact un x tl y rfl (by rw [hy]) rfl (by rw [hy]; exact rko _)
              · rw [if_pos e5] at hst
                cases hst
                have hy : (-(M1.2.1 7 tl.length)).toInt = -x := by
                  rw [Int64.toInt_neg, hvs.1, Int.bmod_eq_of_le (by omega) (by omega)]
                exact un x tl _ rfl (by rw [hy]) rfl (by rw [hy]; exact ⟨by omega, by omega⟩)
          refine ⟨fun e5 => un0 (Or.inl e5), fun n5 => ⟨fun n2 => ?_, fun e2 => un0 (Or.inr e2)⟩⟩
          rw [if_neg n5, if_neg n2] at hst
          refine h216 _ _ _ ?_
          simp only [bX12_summedUp_216, zw_0, zw_1, zs_iload8, zs_bipush, zs_icge, zs_iinc5, zs_aloadn0, zs_aloadNn0, zg_12_35, zs_iload5, zs_iconst, zs_isub, zs_icne, zs_laload, zi_12_270, zs_goto, zc_none, zc_int, zc_ref, zc_null, zc_long, zh_0, zh_1, zh_2, zh_3, zh_4, zt_i, zt_l, zt_r, zt_n, zb_0, za_1, za_2, za_3, za_4, za_5, za_6, za_7, za_8, za_9, za_10, za_11, za_12, za_13, za_14, zu_0, zu_1, zu_2, zu_3, zu_4, zu_5, zu_6, zu_7, zu_8, zu_9, zu_10, zu_11, zu_12, zu_13, zu_14, zu_15, zu_16, zu_17, zu_18, zu_19, zu_20, zu_21, zu_22, zu_23, zu_24, zu_25, zu_26, zu_27, zu_28, zu_29, zu_30, zu_90, zv_0_9, zv_1_9, zv_2_9, zv_3_9, zv_4_9, zv_5_9, zv_6_9, zv_7_9, zv_8_9, zv_0_330, zv_0_4544, zv_1_4544, zv_2_4544, zv_3_4544, zv_4_4544, zv_5_4544, zv_6_4544, zv_7_4544, zv_8_4544, zv_9_4544, zv_10_4544, zv_11_4544, zv_12_4544, zv_13_4544, zv_14_4544, zv_15_4544, zv_16_4544, zv_17_4544, zv_18_4544, zv_19_4544, zv_20_4544, zv_21_4544, zv_22_4544, zv_23_4544, zv_24_4544, zv_25_4544, zv_26_4544, zv_27_4544, zv_28_4544, zv_29_4544, zv_0_11, zv_1_11, zv_0_160, true_and, and_true, Nat.reduceAdd, og10, o4]
          refine ⟨fun h10 => ?_, fun h10 => ?_⟩
          · rw [if_neg (by omega), if_neg (by omega)] at hst
            refine h287 _ _ _ ?_
            simp only [bX12_summedUp_287, zw_0, zw_1, zs_iload8, zs_bipush, zs_icge, zs_iinc5, zs_aloadn0, zs_aloadNn0, zg_12_39, zs_iload6, zg_12_35, zs_iload5, zs_laload, zs_iconst, zs_iadd, zi_12_278, zs_bastore, zs_iinc6, zs_goto, zc_none, zc_int, zc_ref, zc_null, zc_long, zh_0, zh_1, zh_2, zh_3, zh_4, zt_i, zt_l, zt_r, zt_n, zb_0, za_1, za_2, za_3, za_4, za_5, za_6, za_7, za_8, za_9, za_10, za_11, za_12, za_13, za_14, zu_0, zu_1, zu_2, zu_3, zu_4, zu_5, zu_6, zu_7, zu_8, zu_9, zu_10, zu_11, zu_12, zu_13, zu_14, zu_15, zu_16, zu_17, zu_18, zu_19, zu_20, zu_21, zu_22, zu_23, zu_24, zu_25, zu_26, zu_27, zu_28, zu_29, zu_30, zu_90, zv_0_9, zv_1_9, zv_2_9, zv_3_9, zv_4_9, zv_5_9, zv_6_9, zv_7_9, zv_8_9, zv_0_330, zv_0_4544, zv_1_4544, zv_2_4544, zv_3_4544, zv_4_4544, zv_5_4544, zv_6_4544, zv_7_4544, zv_8_4544, zv_9_4544, zv_10_4544, zv_11_4544, zv_12_4544, zv_13_4544, zv_14_4544, zv_15_4544, zv_16_4544, zv_17_4544, zv_18_4544, zv_19_4544, zv_20_4544, zv_21_4544, zv_22_4544, zv_23_4544, zv_24_4544, zv_25_4544, zv_26_4544, zv_27_4544, zv_28_4544, zv_29_4544, zv_0_11, zv_1_11, zv_0_160, true_and, and_true, Nat.reduceAdd, og20]
            refine ⟨fun h20 => ?_, fun h20 => ?_⟩
            · rw [if_neg (by omega)] at hst
              refine h331 _ _ _ ?_
              simp only [bX12_summedUp_331, zw_0, zw_1, zs_iload8, zs_bipush, zs_icne, zs_aloadn0, zs_aloadNn0, zg_12_39, zs_iload6, zs_iconst, zs_isub, zs_baload, zs_ifne, zs_goto, zb_0, za_1, za_2, za_3, za_4, za_5, za_6, za_7, za_8, za_9, za_10, za_11, za_12, za_13, za_14, zu_0, zu_1, zu_2, zu_3, zu_4, zu_5, zu_6, zu_7, zu_8, zu_9, zu_10, zu_11, zu_12, zu_13, zu_14, zu_15, zu_16, zu_17, zu_18, zu_19, zu_20, zu_21, zu_22, zu_23, zu_24, zu_25, zu_26, zu_27, zu_28, zu_29, zu_30, zu_90, zv_0_9, zv_1_9, zv_2_9, zv_3_9, zv_4_9, zv_5_9, zv_6_9, zv_7_9, zv_8_9, zv_0_330, zv_0_4544, zv_1_4544, zv_2_4544, zv_3_4544, zv_4_4544, zv_5_4544, zv_6_4544, zv_7_4544, zv_8_4544, zv_9_4544, zv_10_4544, zv_11_4544, zv_12_4544, zv_13_4544, zv_14_4544, zv_15_4544, zv_16_4544, zv_17_4544, zv_18_4544, zv_19_4544, zv_20_4544, zv_21_4544, zv_22_4544, zv_23_4544, zv_24_4544, zv_25_4544, zv_26_4544, zv_27_4544, zv_28_4544, zv_29_4544, zv_0_11, zv_1_11, zv_0_160, true_and, and_true, Nat.reduceAdd, o20]
              refine ⟨fun n20 => ?_, fun e20 => ?_⟩
              · rw [if_neg n20, if_pos (by omega)] at hst
                cases ts with
                | nil => simp at hst
                | cons cc u =>
                  cases u with
                  | nil => simp at hst
                  | cons b u =>
                    simp only [Option.some.injEq, Prod.mk.injEq] at hst
                    obtain ⟨rfl, rfl⟩ := hst
                    have lt : u.length < 330 ∧ (b :: u).length < 330 := by have := li.2; simp at this; simp; omega
                    have ep : nI (cc :: b :: u).length + (-1) = nI (b :: u).length := zx_m1 _
                    have ep2 : nI (b :: u).length - 1 = nI u.length := nI_pred _
                    have v1 : vp_in (nI u.length) 330 := vp_in_nI lt.1 (by decide)
                    have v2 : (nI u.length).toNatClampNeg = u.length := nI_clamp (by omega)
                    have v3 : vp_in (nI (b :: u).length) 330 := vp_in_nI lt.2 (by decide)
                    have v4 : (nI (b :: u).length).toNatClampNeg = (b :: u).length := nI_clamp (by omega)
                    have t1 : M1.1 8 (b :: u).length = zi_b cc := hts.1
                    have t2 : M1.1 8 u.length = zi_b b := hts.2.1
                    refine h367 _ _ _ ?_
                    simp only [bX12_summedUp_367, zw_0, zw_1, zs_iinc6, zs_aloadn0, zs_aloadNn0, zg_12_39, zs_iload6, zs_iconst, zs_isub, zs_iload8, zs_baload, zi_12_282, zs_bastore, zc_none, zc_int, zc_ref, zc_null, zc_long, zh_0, zh_1, zh_2, zh_3, zh_4, zt_i, zt_l, zt_r, zt_n, zb_0, za_1, za_2, za_3, za_4, za_5, za_6, za_7, za_8, za_9, za_10, za_11, za_12, za_13, za_14, zu_0, zu_1, zu_2, zu_3, zu_4, zu_5, zu_6, zu_7, zu_8, zu_9, zu_10, zu_11, zu_12, zu_13, zu_14, zu_15, zu_16, zu_17, zu_18, zu_19, zu_20, zu_21, zu_22, zu_23, zu_24, zu_25, zu_26, zu_27, zu_28, zu_29, zu_30, zu_90, zv_0_9, zv_1_9, zv_2_9, zv_3_9, zv_4_9, zv_5_9, zv_6_9, zv_7_9, zv_8_9, zv_0_330, zv_0_4544, zv_1_4544, zv_2_4544, zv_3_4544, zv_4_4544, zv_5_4544, zv_6_4544, zv_7_4544, zv_8_4544, zv_9_4544, zv_10_4544, zv_11_4544, zv_12_4544, zv_13_4544, zv_14_4544, zv_15_4544, zv_16_4544, zv_17_4544, zv_18_4544, zv_19_4544, zv_20_4544, zv_21_4544, zv_22_4544, zv_23_4544, zv_24_4544, zv_25_4544, zv_26_4544, zv_27_4544, zv_28_4544, zv_29_4544, zv_0_11, zv_1_11, zv_0_160, true_and, and_true, Nat.reduceAdd, ep, ep2, v1, v2, v3, v4, t1, t2]
                    refine zm_R_eq (c_joined hE (d + 1) _ b cc M1) ?_
                    simp only [bX12_summedUp_367, zw_0, zw_1, zs_iinc6, zs_aloadn0, zs_aloadNn0, zg_12_39, zs_iload6, zs_iconst, zs_isub, zs_iload8, zs_baload, zi_12_282, zs_bastore, zc_none, zc_int, zc_ref, zc_null, zc_long, zh_0, zh_1, zh_2, zh_3, zh_4, zt_i, zt_l, zt_r, zt_n, zb_0, za_1, za_2, za_3, za_4, za_5, za_6, za_7, za_8, za_9, za_10, za_11, za_12, za_13, za_14, zu_0, zu_1, zu_2, zu_3, zu_4, zu_5, zu_6, zu_7, zu_8, zu_9, zu_10, zu_11, zu_12, zu_13, zu_14, zu_15, zu_16, zu_17, zu_18, zu_19, zu_20, zu_21, zu_22, zu_23, zu_24, zu_25, zu_26, zu_27, zu_28, zu_29, zu_30, zu_90, zv_0_9, zv_1_9, zv_2_9, zv_3_9, zv_4_9, zv_5_9, zv_6_9, zv_7_9, zv_8_9, zv_0_330, zv_0_4544, zv_1_4544, zv_2_4544, zv_3_4544, zv_4_4544, zv_5_4544, zv_6_4544, zv_7_4544, zv_8_4544, zv_9_4544, zv_10_4544, zv_11_4544, zv_12_4544, zv_13_4544, zv_14_4544, zv_15_4544, zv_16_4544, zv_17_4544, zv_18_4544, zv_19_4544, zv_20_4544, zv_21_4544, zv_22_4544, zv_23_4544, zv_24_4544, zv_25_4544, zv_26_4544, zv_27_4544, zv_28_4544, zv_29_4544, zv_0_11, zv_1_11, zv_0_160, true_and, and_true, Nat.reduceAdd, v1, v2, zx_narb, o21]
                    refine go _ (zf_wi f1 (by decide)) (by omega) (by simp) ?_ ?_ hall
                    · exact hvs
                    · refine ⟨by rw [zm_wi_same, if_pos rfl], zp_ts_c (fun j hj => ?_) hts.2.2⟩
                      rw [zm_wi_same, if_neg (by omega)]
              · rw [if_pos e20] at hst
                cases ts with
                | nil => simp at hst
                | cons b u =>
                  simp only [Option.some.injEq, Prod.mk.injEq] at hst
                  obtain ⟨rfl, rfl⟩ := hst
                  have lt : u.length < 330 := by have := li.2; simp at this; omega
                  have ep2 : nI (b :: u).length - 1 = nI u.length := nI_pred _
                  have v1 : vp_in (nI u.length) 330 := vp_in_nI lt (by decide)
                  have v2 : (nI u.length).toNatClampNeg = u.length := nI_clamp (by omega)
                  have t2 : M1.1 8 u.length = zi_b b := hts.1
                  have fin : ∀ z, z = (!b) → G 363 [some (.ref 0), some (.int (nI t)), some (.int (nI c)), some (.int (nI (705 * t + 1 + 4 * c))), some (.int (nI (705 * t + 97))), some (.int (nI vs.length)), some (.int (nI (b :: u).length)), some (.int (nI i)), some (.int (nI o)), some (.int (nI v))] [.int (zi_b z), .int (nI u.length), .ref 8] M1 := by
                    intro z hz
                    refine h363 _ _ _ ?_
                    simp only [bX12_summedUp_363, zw_0, zw_1, zs_bastore, zs_goto, zb_0, za_1, za_2, za_3, za_4, za_5, za_6, za_7, za_8, za_9, za_10, za_11, za_12, za_13, za_14, zu_0, zu_1, zu_2, zu_3, zu_4, zu_5, zu_6, zu_7, zu_8, zu_9, zu_10, zu_11, zu_12, zu_13, zu_14, zu_15, zu_16, zu_17, zu_18, zu_19, zu_20, zu_21, zu_22, zu_23, zu_24, zu_25, zu_26, zu_27, zu_28, zu_29, zu_30, zu_90, zv_0_9, zv_1_9, zv_2_9, zv_3_9, zv_4_9, zv_5_9, zv_6_9, zv_7_9, zv_8_9, zv_0_330, zv_0_4544, zv_1_4544, zv_2_4544, zv_3_4544, zv_4_4544, zv_5_4544, zv_6_4544, zv_7_4544, zv_8_4544, zv_9_4544, zv_10_4544, zv_11_4544, zv_12_4544, zv_13_4544, zv_14_4544, zv_15_4544, zv_16_4544, zv_17_4544, zv_18_4544, zv_19_4544, zv_20_4544, zv_21_4544, zv_22_4544, zv_23_4544, zv_24_4544, zv_25_4544, zv_26_4544, zv_27_4544, zv_28_4544, zv_29_4544, zv_0_11, zv_1_11, zv_0_160, true_and, and_true, Nat.reduceAdd, v1, v2, zx_narb]
                    refine go _ (zf_wi f1 (by decide)) (by omega) (by simp) hvs ?_ hall
                    refine ⟨by rw [zm_wi_same, if_pos rfl, hz], zp_ts_c (fun j hj => ?_) hts.2⟩
                    rw [zm_wi_same, if_neg (by omega)]
                  rw [ep2, v2, t2, zi_b1, zi_b0]
                  refine ⟨v1, fun hb => ?_, fun hb => fin true (by rw [hb]; rfl)⟩
                  refine h362 _ _ _ ?_
                  simp only [bX12_summedUp_362, zw_0, zw_1, zs_iconst, zb_0, za_1, za_2, za_3, za_4, za_5, za_6, za_7, za_8, za_9, za_10, za_11, za_12, za_13, za_14, true_and, and_true, Nat.reduceAdd]
                  exact fin false (by rw [hb]; rfl)
            · have o15 : o ≤ 15 := by
                rcases Nat.lt_or_ge 15 o with z | z
                · rw [if_neg (by omega), if_neg (by omega), if_neg (by omega)] at hst
                  cases hst
                · exact z
              rw [if_pos (by omega)] at hst
              cases vs with
              | nil => simp at hst
              | cons y tl =>
                cases tl with
                | nil => simp at hst
                | cons x tl =>
                  simp only [Option.some.injEq, Prod.mk.injEq] at hst
                  obtain ⟨rfl, rfl⟩ := hst
                  have lt : tl.length < 330 ∧ tl.length + 1 < 330 := by have := li.1; simp at this; omega
                  have ep : nI (y :: x :: tl).length + (-2) = nI tl.length := zx_m2 _
                  have v1 : vp_in (nI tl.length) 330 := vp_in_nI lt.1 (by decide)
                  have v2 : (nI tl.length).toNatClampNeg = tl.length := nI_clamp (by omega)
                  have v3 : vp_in (nI (tl.length + 1)) 330 := vp_in_nI lt.2 (by decide)
                  have v4 : (nI (tl.length + 1)).toNatClampNeg = tl.length + 1 := nI_clamp (by omega)
                  have v5 : vp_in (nI ts.length) 330 := vp_in_nI li.2 (by decide)
                  have v6 : (nI ts.length).toNatClampNeg = ts.length := nI_clamp (by omega)
                  rw [ep]
                  refine ⟨v1, ?_⟩
                  rw [nI_1]
                  refine ⟨v3, ?_⟩
                  rw [v2, v4]
                  refine zm_R_eq (c_isAsked hE (d + 1) h10 o15 hvs.2.1 hvs.1) ?_
                  simp only [bX12_summedUp_287, zw_0, zw_1, zs_iload8, zs_bipush, zs_icge, zs_iinc5, zs_aloadn0, zs_aloadNn0, zg_12_39, zs_iload6, zg_12_35, zs_iload5, zs_laload, zs_iconst, zs_iadd, zi_12_278, zs_bastore, zs_iinc6, zs_goto, zc_none, zc_int, zc_ref, zc_null, zc_long, zh_0, zh_1, zh_2, zh_3, zh_4, zt_i, zt_l, zt_r, zt_n, zb_0, za_1, za_2, za_3, za_4, za_5, za_6, za_7, za_8, za_9, za_10, za_11, za_12, za_13, za_14, zu_0, zu_1, zu_2, zu_3, zu_4, zu_5, zu_6, zu_7, zu_8, zu_9, zu_10, zu_11, zu_12, zu_13, zu_14, zu_15, zu_16, zu_17, zu_18, zu_19, zu_20, zu_21, zu_22, zu_23, zu_24, zu_25, zu_26, zu_27, zu_28, zu_29, zu_30, zu_90, zv_0_9, zv_1_9, zv_2_9, zv_3_9, zv_4_9, zv_5_9, zv_6_9, zv_7_9, zv_8_9, zv_0_330, zv_0_4544, zv_1_4544, zv_2_4544, zv_3_4544, zv_4_4544, zv_5_4544, zv_6_4544, zv_7_4544, zv_8_4544, zv_9_4544, zv_10_4544, zv_11_4544, zv_12_4544, zv_13_4544, zv_14_4544, zv_15_4544, zv_16_4544, zv_17_4544, zv_18_4544, zv_19_4544, zv_20_4544, zv_21_4544, zv_22_4544, zv_23_4544, zv_24_4544, zv_25_4544, zv_26_4544, zv_27_4544, zv_28_4544, zv_29_4544, zv_0_11, zv_1_11, zv_0_160, true_and, and_true, Nat.reduceAdd, v5, v6, zx_narb, nI_1]
                  refine go _ (zf_wi f1 (by decide)) (by simp; omega) (by simp) hvs.2.2 ?_ (zq_all_cons.mp (zq_all_cons.mp hall).2).2
                  refine ⟨by rw [zm_wi_same, if_pos rfl], zp_ts_c (fun j hj => ?_) hts⟩
                  rw [zm_wi_same, if_neg (by omega)]
          · have bin : ∀ (y x : Int) (tl : List Int) (z : Int64), vs = y :: x :: tl → vs' = z.toInt :: tl → ts' = ts → zq_ok z.toInt → G 283 [some (.ref 0), some (.int (nI t)), some (.int (nI c)), some (.int (nI (705 * t + 1 + 4 * c))), some (.int (nI (705 * t + 97))), some (.int (nI (tl.length + 1))), some (.int (nI ts.length)), some (.int (nI i)), some (.int (nI o)), some (.int (nI v))] [.long z, .int (nI tl.length), .ref 7] M1 := by
              intro y x tl z hvs1 hvs2 hts2 hz
              have lt : tl.length < 330 := by have := li.1; rw [hvs1] at this; simp at this; omega
              have v1 : vp_in (nI tl.length) 330 := vp_in_nI lt (by decide)
              have v2 : (nI tl.length).toNatClampNeg = tl.length := nI_clamp (by omega)
              refine h283 _ _ _ ?_
              simp only [bX12_summedUp_283, zw_0, zw_1, zs_lastore, zs_goto, zb_0, za_1, za_2, za_3, za_4, za_5, za_6, za_7, za_8, za_9, za_10, za_11, za_12, za_13, za_14, zu_0, zu_1, zu_2, zu_3, zu_4, zu_5, zu_6, zu_7, zu_8, zu_9, zu_10, zu_11, zu_12, zu_13, zu_14, zu_15, zu_16, zu_17, zu_18, zu_19, zu_20, zu_21, zu_22, zu_23, zu_24, zu_25, zu_26, zu_27, zu_28, zu_29, zu_30, zu_90, zv_0_9, zv_1_9, zv_2_9, zv_3_9, zv_4_9, zv_5_9, zv_6_9, zv_7_9, zv_8_9, zv_0_330, zv_0_4544, zv_1_4544, zv_2_4544, zv_3_4544, zv_4_4544, zv_5_4544, zv_6_4544, zv_7_4544, zv_8_4544, zv_9_4544, zv_10_4544, zv_11_4544, zv_12_4544, zv_13_4544, zv_14_4544, zv_15_4544, zv_16_4544, zv_17_4544, zv_18_4544, zv_19_4544, zv_20_4544, zv_21_4544, zv_22_4544, zv_23_4544, zv_24_4544, zv_25_4544, zv_26_4544, zv_27_4544, zv_28_4544, zv_29_4544, zv_0_11, zv_1_11, zv_0_160, true_and, and_true, Nat.reduceAdd, v1, v2]
              have go := go (zm_wj M1 7 tl.length z) (zf_wj f1 (by decide)) (by rw [hvs1, hvs2]; simp <;> omega) (by rw [hts2]; omega) ?_ (by rw [hts2]; exact hts) ?_
              · rw [hvs2, hts2] at go
                exact go
              · rw [hvs2]
                rw [hvs1] at hvs
                refine ⟨by rw [zm_wj_same, if_pos rfl], zp_vs_c (fun j hj => ?_) hvs.2.2⟩
                rw [zm_wj_same, if_neg (by omega)]
              · rw [hvs2]
                rw [hvs1] at hall
                exact zq_all_cons.mpr ⟨hz, (zq_all_cons.mp (zq_all_cons.mp hall).2).2⟩
            cases vs with
            | nil =>
              exfalso
              by_cases c4 : o = 4
              · rw [if_pos c4] at hst; simp at hst
              · rw [if_neg c4, if_pos (by omega)] at hst; simp at hst
            | cons y tl =>
              cases tl with
              | nil =>
                exfalso
                by_cases c4 : o = 4
                · rw [if_pos c4] at hst; simp at hst
                · rw [if_neg c4, if_pos (by omega)] at hst; simp at hst
              | cons x tl =>
                have lt : tl.length < 330 ∧ tl.length + 1 < 330 := by have := li.1; simp at this; omega
                have ep : nI (y :: x :: tl).length + (-1) = nI (tl.length + 1) := zx_m1 _
                have ep2 : nI (tl.length + 1) - 1 = nI tl.length := nI_pred _
                have v1 : vp_in (nI tl.length) 330 := vp_in_nI lt.1 (by decide)
                have v2 : (nI tl.length).toNatClampNeg = tl.length := nI_clamp (by omega)
                have v3 : vp_in (nI (tl.length + 1)) 330 := vp_in_nI lt.2 (by decide)
                have v4 : (nI (tl.length + 1)).toNatClampNeg = tl.length + 1 := nI_clamp (by omega)
                have hy0 := (zq_all_cons.mp hall).1
                have hx0 := (zq_all_cons.mp (zq_all_cons.mp hall).2).1
                rw [ep]
                simp only [ep2, v1, v2, v3, v4, true_and]
                refine ⟨fun n4 => ?_, fun e4 => ?_⟩
                · rw [if_neg n4, if_pos (by omega)] at hst
                  simp only [Option.some.injEq, Prod.mk.injEq] at hst
                  obtain ⟨h1, h2⟩ := hst
                  refine h262 _ _ _ ?_
                  simp only [bX12_summedUp_262, zw_0, zw_1, zs_iload8, zs_aloadn0, zs_aloadNn0, zg_12_35, zs_iload5, zs_iconst, zs_isub, zs_laload, zi_12_274, zh_0, zh_1, zh_2, zh_3, zh_4, zt_i, zt_l, zt_r, zt_n, zb_0, za_1, za_2, za_3, za_4, za_5, za_6, za_7, za_8, za_9, za_10, za_11, za_12, za_13, za_14, zu_0, zu_1, zu_2, zu_3, zu_4, zu_5, zu_6, zu_7, zu_8, zu_9, zu_10, zu_11, zu_12, zu_13, zu_14, zu_15, zu_16, zu_17, zu_18, zu_19, zu_20, zu_21, zu_22, zu_23, zu_24, zu_25, zu_26, zu_27, zu_28, zu_29, zu_30, zu_90, zv_0_9, zv_1_9, zv_2_9, zv_3_9, zv_4_9, zv_5_9, zv_6_9, zv_7_9, zv_8_9, zv_0_330, zv_0_4544, zv_1_4544, zv_2_4544, zv_3_4544, zv_4_4544, zv_5_4544, zv_6_4544, zv_7_4544, zv_8_4544, zv_9_4544, zv_10_4544, zv_11_4544, zv_12_4544, zv_13_4544, zv_14_4544, zv_15_4544, zv_16_4544, zv_17_4544, zv_18_4544, zv_19_4544, zv_20_4544, zv_21_4544, zv_22_4544, zv_23_4544, zv_24_4544, zv_25_4544, zv_26_4544, zv_27_4544, zv_28_4544, zv_29_4544, zv_0_11, zv_1_11, zv_0_160, true_and, and_true, Nat.reduceAdd, ep2, v1, v2, v3, v4]
                  refine c_two hE d (by omega) (by omega) hvs.2.1 hvs.1 hx0 hy0 (fun z hz => ?_)
                  simp only [bX12_summedUp_262, zw_0, zw_1, zs_iload8, zs_aloadn0, zs_aloadNn0, zg_12_35, zs_iload5, zs_iconst, zs_isub, zs_laload, zi_12_274, zh_0, zh_1, zh_2, zh_3, zh_4, zt_i, zt_l, zt_r, zt_n, zb_0, za_1, za_2, za_3, za_4, za_5, za_6, za_7, za_8, za_9, za_10, za_11, za_12, za_13, za_14, zu_0, zu_1, zu_2, zu_3, zu_4, zu_5, zu_6, zu_7, zu_8, zu_9, zu_10, zu_11, zu_12, zu_13, zu_14, zu_15, zu_16, zu_17, zu_18, zu_19, zu_20, zu_21, zu_22, zu_23, zu_24, zu_25, zu_26, zu_27, zu_28, zu_29, zu_30, zu_90, zv_0_9, zv_1_9, zv_2_9, zv_3_9, zv_4_9, zv_5_9, zv_6_9, zv_7_9, zv_8_9, zv_0_330, zv_0_4544, zv_1_4544, zv_2_4544, zv_3_4544, zv_4_4544, zv_5_4544, zv_6_4544, zv_7_4544, zv_8_4544, zv_9_4544, zv_10_4544, zv_11_4544, zv_12_4544, zv_13_4544, zv_14_4544, zv_15_4544, zv_16_4544, zv_17_4544, zv_18_4544, zv_19_4544, zv_20_4544, zv_21_4544, zv_22_4544, zv_23_4544, zv_24_4544, zv_25_4544, zv_26_4544, zv_27_4544, zv_28_4544, zv_29_4544, zv_0_11, zv_1_11, zv_0_160, true_and, and_true, Nat.reduceAdd]
                  exact bin y x tl z rfl (by rw [← h1, hz]) h2.symm (by rw [hz]; exact zq_ar_ok _ _ _)
                · rw [if_pos e4] at hst
                  simp only [Option.some.injEq, Prod.mk.injEq] at hst
                  obtain ⟨h1, h2⟩ := hst
                  refine c_halved hE (d + 1) hvs.2.1 hvs.1 hx0 hy0 (fun z hz => ?_)
                  simp only [bX12_summedUp_216, zw_0, zw_1, zs_iload8, zs_bipush, zs_icge, zs_iinc5, zs_aloadn0, zs_aloadNn0, zg_12_35, zs_iload5, zs_iconst, zs_isub, zs_icne, zs_laload, zi_12_270, zs_goto, zc_none, zc_int, zc_ref, zc_null, zc_long, zh_0, zh_1, zh_2, zh_3, zh_4, zt_i, zt_l, zt_r, zt_n, zb_0, za_1, za_2, za_3, za_4, za_5, za_6, za_7, za_8, za_9, za_10, za_11, za_12, za_13, za_14, zu_0, zu_1, zu_2, zu_3, zu_4, zu_5, zu_6, zu_7, zu_8, zu_9, zu_10, zu_11, zu_12, zu_13, zu_14, zu_15, zu_16, zu_17, zu_18, zu_19, zu_20, zu_21, zu_22, zu_23, zu_24, zu_25, zu_26, zu_27, zu_28, zu_29, zu_30, zu_90, zv_0_9, zv_1_9, zv_2_9, zv_3_9, zv_4_9, zv_5_9, zv_6_9, zv_7_9, zv_8_9, zv_0_330, zv_0_4544, zv_1_4544, zv_2_4544, zv_3_4544, zv_4_4544, zv_5_4544, zv_6_4544, zv_7_4544, zv_8_4544, zv_9_4544, zv_10_4544, zv_11_4544, zv_12_4544, zv_13_4544, zv_14_4544, zv_15_4544, zv_16_4544, zv_17_4544, zv_18_4544, zv_19_4544, zv_20_4544, zv_21_4544, zv_22_4544, zv_23_4544, zv_24_4544, zv_25_4544, zv_26_4544, zv_27_4544, zv_28_4544, zv_29_4544, zv_0_11, zv_1_11, zv_0_160, true_and, and_true, Nat.reduceAdd]
                  exact bin y x tl z rfl (by rw [← h1, hz]) h2.symm (by rw [hz]; exact zq_ar_ok _ _ _)
        · rw [if_pos e3] at hst
          cases vs with
          | nil => simp at hst
          | cons y tl =>
            cases tl with
            | nil => simp at hst
            | cons x tl =>
              cases ts with
              | nil => simp at hst
              | cons b u =>
                simp only [Option.some.injEq, Prod.mk.injEq] at hst
                obtain ⟨rfl, rfl⟩ := hst
                have lt : tl.length < 330 ∧ tl.length + 1 < 330 ∧ u.length < 330 := by have := li.1; have := li.2; simp at *; omega
                have ep : nI (y :: x :: tl).length + (-1) = nI (tl.length + 1) := zx_m1 _
                have ep3 : nI (b :: u).length + (-1) = nI u.length := zx_m1 _
                have ep2 : nI (tl.length + 1) - 1 = nI tl.length := nI_pred _
                have v1 : vp_in (nI tl.length) 330 := vp_in_nI lt.1 (by decide)
                have v2 : (nI tl.length).toNatClampNeg = tl.length := nI_clamp (by omega)
                have v3 : vp_in (nI (tl.length + 1)) 330 := vp_in_nI lt.2.1 (by decide)
                have v4 : (nI (tl.length + 1)).toNatClampNeg = tl.length + 1 := nI_clamp (by omega)
                have v5 : vp_in (nI u.length) 330 := vp_in_nI lt.2.2 (by decide)
                have v6 : (nI u.length).toNatClampNeg = u.length := nI_clamp (by omega)
                have t2 : M1.1 8 u.length = zi_b b := hts.1
                rw [ep, ep3, v6, t2, zi_b1, zi_b0]
                simp only [ep2, v1, v2, v3, v4, true_and]
                refine ⟨v5, fun hb => ?_, fun hb => ?_⟩
                · subst hb
                  exact go M1 f1 (by simp) (by simp <;> omega) hvs.2 hts.2 (zq_all_cons.mp hall).2
                · subst hb
                  refine go (zm_wj M1 7 tl.length (M1.2.1 7 (tl.length + 1))) (zf_wj f1 (by decide)) (by simp) (by simp <;> omega) ?_ hts.2 (zq_all_cons.mpr ⟨(zq_all_cons.mp hall).1, (zq_all_cons.mp (zq_all_cons.mp hall).2).2⟩)
                  refine ⟨by rw [zm_wj_same, if_pos rfl]; exact hvs.1, zp_vs_c (fun j hj => ?_) hvs.2.2⟩
                  rw [zm_wj_same, if_neg (by omega)]
      · have v1 : vp_in (nI vs.length) 330 := vp_in_nI li.1 (by decide)
        have v2 : (nI vs.length).toNatClampNeg = vs.length := nI_clamp (by omega)
        have leaf : ∀ (z : Int64), vs' = z.toInt :: vs → ts' = ts → zq_ok z.toInt → G 112 [some (.ref 0), some (.int (nI t)), some (.int (nI c)), some (.int (nI (705 * t + 1 + 4 * c))), some (.int (nI (705 * t + 97))), some (.int (nI vs.length)), some (.int (nI ts.length)), some (.int (nI i)), some (.int (nI o)), some (.int (nI v))] [.long z, .int (nI vs.length), .ref 7] M1 := by
          intro z hvs2 hts2 hz
          refine h112 _ _ _ ?_
          simp only [bX12_summedUp_112, zw_0, zw_1, zs_lastore, zs_iinc5, zs_goto, zc_none, zc_int, zc_ref, zc_null, zc_long, zb_0, za_1, za_2, za_3, za_4, za_5, za_6, za_7, za_8, za_9, za_10, za_11, za_12, za_13, za_14, zu_0, zu_1, zu_2, zu_3, zu_4, zu_5, zu_6, zu_7, zu_8, zu_9, zu_10, zu_11, zu_12, zu_13, zu_14, zu_15, zu_16, zu_17, zu_18, zu_19, zu_20, zu_21, zu_22, zu_23, zu_24, zu_25, zu_26, zu_27, zu_28, zu_29, zu_30, zu_90, zv_0_9, zv_1_9, zv_2_9, zv_3_9, zv_4_9, zv_5_9, zv_6_9, zv_7_9, zv_8_9, zv_0_330, zv_0_4544, zv_1_4544, zv_2_4544, zv_3_4544, zv_4_4544, zv_5_4544, zv_6_4544, zv_7_4544, zv_8_4544, zv_9_4544, zv_10_4544, zv_11_4544, zv_12_4544, zv_13_4544, zv_14_4544, zv_15_4544, zv_16_4544, zv_17_4544, zv_18_4544, zv_19_4544, zv_20_4544, zv_21_4544, zv_22_4544, zv_23_4544, zv_24_4544, zv_25_4544, zv_26_4544, zv_27_4544, zv_28_4544, zv_29_4544, zv_0_11, zv_1_11, zv_0_160, true_and, and_true, Nat.reduceAdd, v1, v2, nI_1]
          have go := go (zm_wj M1 7 vs.length z) (zf_wj f1 (by decide)) (by rw [hvs2]; simp) (by rw [hts2]; omega) ?_ (by rw [hts2]; exact hts) ?_
          · rw [hvs2, hts2] at go
            exact go
          · rw [hvs2]
            refine ⟨by rw [zm_wj_same, if_pos rfl], zp_vs_c (fun j hj => ?_) hvs⟩
            rw [zm_wj_same, if_neg (by omega)]
          · rw [hvs2]
            exact zq_all_cons.mpr ⟨hz, hall⟩
        refine ⟨fun n0 => ?_, fun e0 => ?_⟩
        · rw [if_neg n0, if_pos (by omega)] at hst
          split at hst
          · next c9 =>
            simp only [Option.some.injEq, Prod.mk.injEq] at hst
            obtain ⟨h1, h2⟩ := hst
            have w1 : vp_in (nI v) 9 := vp_in_nI c9 (by decide)
            have w2 : (nI v).toNatClampNeg = v := nI_clamp (by omega)
            refine h104 _ _ _ ?_
            simp only [bX12_summedUp_104, zw_0, zw_1, zs_aloadn0, zs_aloadNn0, zg_12_32, zs_iload9, zs_iaload, zs_i2l, zb_0, za_1, za_2, za_3, za_4, za_5, za_6, za_7, za_8, za_9, za_10, za_11, za_12, za_13, za_14, zu_0, zu_1, zu_2, zu_3, zu_4, zu_5, zu_6, zu_7, zu_8, zu_9, zu_10, zu_11, zu_12, zu_13, zu_14, zu_15, zu_16, zu_17, zu_18, zu_19, zu_20, zu_21, zu_22, zu_23, zu_24, zu_25, zu_26, zu_27, zu_28, zu_29, zu_30, zu_90, zv_0_9, zv_1_9, zv_2_9, zv_3_9, zv_4_9, zv_5_9, zv_6_9, zv_7_9, zv_8_9, zv_0_330, zv_0_4544, zv_1_4544, zv_2_4544, zv_3_4544, zv_4_4544, zv_5_4544, zv_6_4544, zv_7_4544, zv_8_4544, zv_9_4544, zv_10_4544, zv_11_4544, zv_12_4544, zv_13_4544, zv_14_4544, zv_15_4544, zv_16_4544, zv_17_4544, zv_18_4544, zv_19_4544, zv_20_4544, zv_21_4544, zv_22_4544, zv_23_4544, zv_24_4544, zv_25_4544, zv_26_4544, zv_27_4544, zv_28_4544, zv_29_4544, zv_0_11, zv_1_11, zv_0_160, true_and, and_true, Nat.reduceAdd, w1, w2, m6]
            refine leaf _ (by rw [← h1, Int32.toInt_toInt64]) h2.symm ?_
            rw [Int32.toInt_toInt64]; exact hnm v c9
          · cases hst
        · rw [if_pos e0] at hst
          split at hst
          · next c9 =>
            simp only [Option.some.injEq, Prod.mk.injEq] at hst
            obtain ⟨h1, h2⟩ := hst
            have hv9 : ((nI v).toInt64).toInt = (v : Int) := by rw [Int32.toInt_toInt64, nI_toInt (by omega)]
            refine leaf _ (by rw [← h1, hv9]) h2.symm ?_
            rw [hv9]; exact ⟨by omega, by omega⟩
          · cases hst
  refine h0 _ _ _ ?_
  simp only [bX12_summedUp_0, zw_0, zw_1, zs_sipush, zs_iloadn1, zs_imul, zs_iconst, zs_iadd, zs_iloadn2, zs_istoren3, zs_bipush, zs_istore4, zs_istore5, zs_istore6, zs_aloadn0, zs_aloadNn0, zg_12_16, zs_iloadn3, zs_iaload, zs_istore7, zc_none, zc_int, zc_ref, zc_null, zc_long, zb_0, za_1, za_2, za_3, za_4, za_5, za_6, za_7, za_8, za_9, za_10, za_11, za_12, za_13, za_14, zu_0, zu_1, zu_2, zu_3, zu_4, zu_5, zu_6, zu_7, zu_8, zu_9, zu_10, zu_11, zu_12, zu_13, zu_14, zu_15, zu_16, zu_17, zu_18, zu_19, zu_20, zu_21, zu_22, zu_23, zu_24, zu_25, zu_26, zu_27, zu_28, zu_29, zu_30, zu_90, zv_0_9, zv_1_9, zv_2_9, zv_3_9, zv_4_9, zv_5_9, zv_6_9, zv_7_9, zv_8_9, zv_0_330, zv_0_4544, zv_1_4544, zv_2_4544, zv_3_4544, zv_4_4544, zv_5_4544, zv_6_4544, zv_7_4544, zv_8_4544, zv_9_4544, zv_10_4544, zv_11_4544, zv_12_4544, zv_13_4544, zv_14_4544, zv_15_4544, zv_16_4544, zv_17_4544, zv_18_4544, zv_19_4544, zv_20_4544, zv_21_4544, zv_22_4544, zv_23_4544, zv_24_4544, zv_25_4544, zv_26_4544, zv_27_4544, zv_28_4544, zv_29_4544, zv_0_11, zv_1_11, zv_0_160, true_and, and_true, Nat.reduceAdd, ex, ec, ex1, vx1, cx1, e0]
  exact loop (i1 - i0) i0 [] [] M none none (by omega) (Nat.le_refl _) (by simp) (by simp) zf_refl trivial trivial (fun u hu => absurd hu (by simp)) hD2
