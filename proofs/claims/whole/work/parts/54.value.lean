/-! ===== the class's machine: its stack, its codes, what a law says ===== -/
theorem za_of {p t n : Nat} (h : zm_ar p t n) (x : Int32) : (∃ m, zm_ar p t m ∧ vp_in x m) = vp_in x n := by
  refine propext ⟨?_, fun z => ⟨n, h, z⟩⟩
  rintro ⟨m, z1, z2⟩
  have e : (100 + t, m) = (100 + t, n) := z1.2.symm.trans h.2
  have : m = n := (Prod.mk.inj e).2
  rw [← this]; exact z2
/-- the stack, its top first -/
def zq_st (f : Nat → Int32) : List Int → Prop
  | [] => True
  | v :: t => (f t.length).toInt = v ∧ zq_st f t
theorem zq_st_c {f g : Nat → Int32} : ∀ {st : List Int}, (∀ i, i < st.length → g i = f i) → zq_st f st → zq_st g st := by
  intro st
  induction st with
  | nil => intro _ _; trivial
  | cons v t ih =>
    intro h hs
    exact ⟨by rw [h t.length (by simp)]; exact hs.1, ih (fun i hi => h i (by simp; omega)) hs.2⟩
def zq_all (st : List Int) : Prop := ∀ v, v ∈ st → zq_ok v
theorem c2_push {E : zm_E} (hE : zm_ok E.2.2.1 E.2.2.2.2) (d : Nat) {n : Nat} (hn : n < 300) (x : Int32) {M : zm_M} (hh : M.1 748 3 = nI n) {Q : Option Value → zm_M → Prop} (q : Q none (zm_wi (zm_wi M 750 n x) 748 3 (nI (n + 1)))) : zm_R E (d + 1) mX2_push [.ref 748, .int x] M Q := by
  refine zX2_push hE rfl (fun G h0 h32 => ?_)
  show G 0 [some (.ref 748), some (.int x)] [] M
  have l : zy_ly 750 = (100, 300) := by decide +kernel
  have lp : (∃ t, t < 7 ∧ zm_ar 750 t (zy_ly 750).2) = True := eq_true ⟨0, by decide, by decide, by rw [l]⟩
  have ln : Int32.ofNat (zy_ly 750).2 = 300 := by rw [l]; rfl
  have v1 : vp_in (nI n) 300 := vp_in_nI hn (by decide)
  have v2 : (nI n).toNatClampNeg = n := nI_clamp (by omega)
  have r : (zm_wi M 750 n x).1 748 3 = nI n := hh
  refine h0 _ _ _ ?_
  simp only [bX2_push_0, zw_0, zw_1, zs_aloadn0, zs_aloadNn0, zg_2_18, zg_2_15, zs_arraylength, zs_icge, zs_iloadn1, zs_iastore, zs_dupi, zs_dupr, zs_dupn, zs_iconst, zs_iadd, zq_2_18, zb_15, zb_16, zb_17, za_18, za_19, za_20, za_21, za_22, zb_23, za_24, za_25, za_26, za_27, za_28, za_29, za_30, za_31, za_32, zb_35, za_36, za_37, za_38, za_39, za_40, zb_377, zb_378, za_379, za_380, za_381, za_382, za_383, zb_384, za_385, za_386, za_387, za_388, za_389, za_390, za_391, za_392, za_393, zb_396, za_397, za_398, za_399, za_400, za_401, zb_738, za_739, za_740, za_741, za_742, za_743, za_744, za_745, za_746, za_747, zb_748, za_749, za_750, zb_751, zb_752, za_753, za_754, za_755, za_756, zb_757, za_758, za_759, za_760, zb_761, za_763, za_764, za_765, zu_0, zu_1, zu_2, zu_3, zu_4, zu_5, zu_6, zu_7, zu_8, zu_9, zu_10, zu_11, zu_12, zu_13, zu_14, zu_15, zu_16, zu_17, zu_18, zu_19, zu_20, zu_21, zu_22, zu_23, zu_24, zu_25, zu_26, zu_27, zu_28, zu_29, zu_30, zu_90, zv_0_9, zv_1_9, zv_2_9, zv_3_9, zv_4_9, zv_5_9, zv_6_9, zv_7_9, zv_8_9, zv_0_330, zv_0_4544, zv_1_4544, zv_2_4544, zv_3_4544, zv_4_4544, zv_5_4544, zv_6_4544, zv_7_4544, zv_8_4544, zv_9_4544, zv_10_4544, zv_11_4544, zv_12_4544, zv_13_4544, zv_14_4544, zv_15_4544, zv_16_4544, zv_17_4544, zv_18_4544, zv_19_4544, zv_20_4544, zv_21_4544, zv_22_4544, zv_23_4544, zv_24_4544, zv_25_4544, zv_26_4544, zv_27_4544, zv_28_4544, zv_29_4544, zv_0_11, zv_1_11, zv_0_160, true_and, and_true, Nat.reduceAdd, hh, lp, ln, v1, v2, r, nI_1]
  refine ⟨fun h => absurd h (nI_ge (b := 300) hn (by decide)), fun _ => ?_⟩
  refine h32 _ _ _ ?_
  simp only [bX2_push_32, zw_0, zw_1, zs_return, zn_int, zn_b0, zn_b1, zb_15, zb_16, zb_17, za_18, za_19, za_20, za_21, za_22, zb_23, za_24, za_25, za_26, za_27, za_28, za_29, za_30, za_31, za_32, zb_35, za_36, za_37, za_38, za_39, za_40, zb_377, zb_378, za_379, za_380, za_381, za_382, za_383, zb_384, za_385, za_386, za_387, za_388, za_389, za_390, za_391, za_392, za_393, zb_396, za_397, za_398, za_399, za_400, za_401, zb_738, za_739, za_740, za_741, za_742, za_743, za_744, za_745, za_746, za_747, zb_748, za_749, za_750, zb_751, zb_752, za_753, za_754, za_755, za_756, zb_757, za_758, za_759, za_760, zb_761, za_763, za_764, za_765, true_and, and_true, Nat.reduceAdd]
  exact q
theorem c2_pop {E : zm_E} (hE : zm_ok E.2.2.1 E.2.2.2.2) (d : Nat) {n : Nat} (hn : n < 300) {M : zm_M} (hh : M.1 748 3 = nI (n + 1)) {Q : Option Value → zm_M → Prop} (q : Q (some (.int (M.1 750 n))) (zm_wi M 748 3 (nI n))) : zm_R E (d + 1) mX2_pop [.ref 748] M Q := by
  refine zX2_pop hE rfl (fun G h0 h9 => ?_)
  show G 0 [some (.ref 748)] [] M
  have v1 : vp_in (nI n) 300 := vp_in_nI hn (by decide)
  have v2 : (nI n).toNatClampNeg = n := nI_clamp (by omega)
  have r : (zm_wi M 748 3 (nI n)).1 748 3 = nI n := by rw [zm_wi_same, if_pos rfl]
  refine h0 _ _ _ ?_
  simp only [bX2_pop_0, zw_0, zw_1, zs_aloadn0, zs_aloadNn0, zg_2_18, zs_ifne, zs_iconst, zs_ireturn, zn_int, zn_b0, zn_b1, zb_15, zb_16, zb_17, za_18, za_19, za_20, za_21, za_22, zb_23, za_24, za_25, za_26, za_27, za_28, za_29, za_30, za_31, za_32, zb_35, za_36, za_37, za_38, za_39, za_40, zb_377, zb_378, za_379, za_380, za_381, za_382, za_383, zb_384, za_385, za_386, za_387, za_388, za_389, za_390, za_391, za_392, za_393, zb_396, za_397, za_398, za_399, za_400, za_401, zb_738, za_739, za_740, za_741, za_742, za_743, za_744, za_745, za_746, za_747, zb_748, za_749, za_750, zb_751, zb_752, za_753, za_754, za_755, za_756, zb_757, za_758, za_759, za_760, zb_761, za_763, za_764, za_765, true_and, and_true, Nat.reduceAdd, hh]
  refine ⟨fun _ => ?_, fun h => absurd h (nI_ne0 (by omega) (by omega))⟩
  refine h9 _ _ _ ?_
  simp only [bX2_pop_9, zw_0, zw_1, zs_aloadn0, zs_aloadNn0, zs_dupi, zs_dupr, zs_dupn, zg_2_18, zs_iconst, zs_isub, zq_2_18, zg_2_15, zs_iaload, zs_ireturn, zn_int, zn_b0, zn_b1, zb_15, zb_16, zb_17, za_18, za_19, za_20, za_21, za_22, zb_23, za_24, za_25, za_26, za_27, za_28, za_29, za_30, za_31, za_32, zb_35, za_36, za_37, za_38, za_39, za_40, zb_377, zb_378, za_379, za_380, za_381, za_382, za_383, zb_384, za_385, za_386, za_387, za_388, za_389, za_390, za_391, za_392, za_393, zb_396, za_397, za_398, za_399, za_400, za_401, zb_738, za_739, za_740, za_741, za_742, za_743, za_744, za_745, za_746, za_747, zb_748, za_749, za_750, zb_751, zb_752, za_753, za_754, za_755, za_756, zb_757, za_758, za_759, za_760, zb_761, za_763, za_764, za_765, zu_0, zu_1, zu_2, zu_3, zu_4, zu_5, zu_6, zu_7, zu_8, zu_9, zu_10, zu_11, zu_12, zu_13, zu_14, zu_15, zu_16, zu_17, zu_18, zu_19, zu_20, zu_21, zu_22, zu_23, zu_24, zu_25, zu_26, zu_27, zu_28, zu_29, zu_30, zu_90, zv_0_9, zv_1_9, zv_2_9, zv_3_9, zv_4_9, zv_5_9, zv_6_9, zv_7_9, zv_8_9, zv_0_330, zv_0_4544, zv_1_4544, zv_2_4544, zv_3_4544, zv_4_4544, zv_5_4544, zv_6_4544, zv_7_4544, zv_8_4544, zv_9_4544, zv_10_4544, zv_11_4544, zv_12_4544, zv_13_4544, zv_14_4544, zv_15_4544, zv_16_4544, zv_17_4544, zv_18_4544, zv_19_4544, zv_20_4544, zv_21_4544, zv_22_4544, zv_23_4544, zv_24_4544, zv_25_4544, zv_26_4544, zv_27_4544, zv_28_4544, zv_29_4544, zv_0_11, zv_1_11, zv_0_160, true_and, and_true, Nat.reduceAdd, hh, nI_pred, r, v1, v2]
  exact q
/-- one code but skips -/
def zq_fnd (o w : Nat) (nm : Nat → Int) (rk : Int → Int) (st : List Int) : Option (List Int) :=
  if o = 0 then (if w ≤ 9999 then some ((w : Int) :: st) else none)
  else if o = 1 then (if w < 9 then some (nm w :: st) else none)
  else match st with
    | [] => none
    | r :: t => if o = 2 then some ((-r) :: t) else if o = 4 then (if r = 0 ∨ r = 1 then some ((1 - r) :: t) else none) else if o = 3 then some (rk r :: t)
      else match t with
        | [] => none
        | l :: t' => if 7 ≤ o ∧ o ≤ 11 then some (zq_ar o l r :: t') else if 12 ≤ o ∧ o ≤ 19 then some ((if zq_cp o l r then 1 else 0) :: t') else none
def zq_stp (cd wd : Nat → Nat) (nm : Nat → Int) (rk : Int → Int) (s : Nat × List Int) : Option (Nat × List Int) :=
  if cd s.1 = 5 then (if s.1 < wd s.1 ∧ wd s.1 ≤ 300 then some (wd s.1, s.2) else none)
  else if cd s.1 = 6 then (match s.2 with
    | [] => none
    | v :: t => if s.1 < wd s.1 ∧ wd s.1 ≤ 300 then some (if v = 0 then wd s.1 else s.1 + 1, t) else none)
  else (zq_fnd (cd s.1) (wd s.1) nm rk s.2).map (fun t => (s.1 + 1, t))
def zq_itr (cd wd : Nat → Nat) (nm : Nat → Int) (rk : Int → Int) : Nat → Nat × List Int → Option (Nat × List Int)
  | 0, s => some s
  | k + 1, s => (zq_stp cd wd nm rk s).bind (zq_itr cd wd nm rk k)
theorem zq_stp_lt {cd wd : Nat → Nat} {nm : Nat → Int} {rk : Int → Int} {s t : Nat × List Int} (h : zq_stp cd wd nm rk s = some t) : s.1 < t.1 ∧ t.2.length ≤ s.2.length + 1 := by
  obtain ⟨a, st⟩ := s
  unfold zq_stp at h
  split at h
  · split at h
    · next c => cases h; exact ⟨c.1, by simp⟩
    · cases h
  · split at h
    · cases st with
      | nil => simp at h
      | cons v t' =>
        simp only at h
        split at h
        · next c => cases h; exact ⟨by simp only; split <;> omega, by simp <;> omega⟩
        · cases h
    · simp only [Option.map_eq_some_iff] at h
      obtain ⟨u, hu, rfl⟩ := h
      refine ⟨by simp, ?_⟩
      simp only
      unfold zq_fnd at hu
      split at hu
      · split at hu
        · cases hu; simp
        · cases hu
      · split at hu
        · split at hu
          · cases hu; simp
          · cases hu
        · cases st with
          | nil => simp at hu
          | cons r t =>
            simp only at hu
            split at hu
            · cases hu; simp
            · split at hu
              · split at hu
                · cases hu; simp
                · cases hu
              · split at hu
                · cases hu; simp
                · cases t with
                  | nil => simp at hu
                  | cons l t' =>
                    simp only at hu
                    split at hu
                    · cases hu; simp <;> omega
                    · split at hu
                      · cases hu; simp <;> omega
                      · cases hu
theorem zq_itr_le {cd wd : Nat → Nat} {nm : Nat → Int} {rk : Int → Int} : ∀ k s t, zq_itr cd wd nm rk k s = some t → s.1 + k ≤ t.1 := by
  intro k
  induction k with
  | zero => intro s t h; cases h; omega
  | succ k ih =>
    intro s t h
    simp only [zq_itr, Option.bind_eq_some_iff] at h
    obtain ⟨u, h1, h2⟩ := h
    have a := (zq_stp_lt h1).1
    have b := ih u t h2
    omega
/-- what is above -/
theorem zq_rk_ok {n : Nat} {b : Nat → Int32} : True := trivial
def zq_rk (n : Nat) (b : Nat → Int32) (v : Int) : Int := if 0 ≤ v ∧ v < n then ((zt_rk b v.toNat : Nat) : Int) else 0
theorem zq_fnd_ok {o w : Nat} {nm : Nat → Int} {rk : Int → Int} {st t : List Int} (hn : ∀ i, i < 9 → zq_ok (nm i)) (hr : ∀ v, zq_ok (rk v)) (hs : zq_all st) (h : zq_fnd o w nm rk st = some t) : zq_all t := by
  have tl : ∀ {v : Int} {s : List Int}, zq_ok v → zq_all s → zq_all (v :: s) := by
    intro v s h1 h2 u hu
    rcases List.mem_cons.mp hu with e | e
    · rw [e]; exact h1
    · exact h2 u e
  unfold zq_fnd at h
  split at h
  · split at h
    · next c => cases h; exact tl ⟨by omega, by omega⟩ hs
    · cases h
  · split at h
    · split at h
      · next c => cases h; exact tl (hn w c) hs
      · cases h
    · cases st with
      | nil => simp at h
      | cons r t0 =>
        have ht : zq_all t0 := fun u hu => hs u (List.mem_cons_of_mem _ hu)
        have hr0 : zq_ok r := hs r List.mem_cons_self
        unfold zq_ok at hr0
        simp only at h
        split at h
        · cases h; exact tl ⟨by omega, by omega⟩ ht
        · split at h
          · split at h
            · next c => cases h; exact tl ⟨by omega, by omega⟩ ht
            · cases h
          · split at h
            · cases h; exact tl (hr r) ht
            · cases t0 with
              | nil => simp at h
              | cons l t' =>
                have ht' : zq_all t' := fun u hu => ht u (List.mem_cons_of_mem _ hu)
                simp only at h
                split at h
                · cases h; exact tl (zq_ar_ok _ _ _) ht'
                · split at h
                  · cases h; exact tl (by unfold zq_ok; split <;> omega) ht'
                  · cases h
theorem c2_found {E : zm_E} (hE : zm_ok E.2.2.1 E.2.2.2.2) (d : Nat) {n o w : Nat} (ho : o ≤ 19) {M : zm_M} (hw : zs_rk n M) (hc : M.1 17 0 = nI n) {st t : List Int} {v : Int} (hs : zq_all st) (hl : st.length ≤ 300) (h3 : M.1 748 3 = nI st.length) (hst : zq_st (M.1 750) st) (h : zq_fnd o w (fun i => (M.1 749 i).toInt) (zq_rk n (M.1 18)) st = some (v :: t)) {Q : Option Value → zm_M → Prop} (q : ∀ x M', x.toInt = v → M'.1 748 3 = nI t.length → M'.1 750 = M.1 750 → zf [748] M M' → Q (some (.int x)) M') : zm_R E (d + 2) mX2_found [.ref 748, .int (nI o), .int (nI w)] M Q := by
  refine zX2_found hE rfl (fun G h0 h6 h18 h52 h55 h59 h82 h83 h84 h106 h120 h121 => ?_)
  show G 0 [some (.ref 748), some (.int (nI o)), some (.int (nI w)), none, none] [] M
  have oe : ∀ k : Nat, k < 20 → ((nI o = nI k) ↔ o = k) := fun k hk => nI_eq (by omega) (by omega)
  have o0 : (nI o = 0) = (o = 0) := propext (oe 0 (by decide))
  have o1 : (nI o = 1) = (o = 1) := propext (oe 1 (by decide))
  have o2 : (nI o = 2) = (o = 2) := propext (oe 2 (by decide))
  have o3 : (nI o = 3) = (o = 3) := propext (oe 3 (by decide))
  have o4 : (nI o = 4) = (o = 4) := propext (oe 4 (by decide))
  unfold zq_fnd at h
  refine h0 _ _ _ ?_
  simp only [bX2_found_0, zw_0, zw_1, zs_iloadn1, zs_ifne, zs_iloadn2, zs_ireturn, zn_int, zn_b0, zn_b1, zb_15, zb_16, zb_17, za_18, za_19, za_20, za_21, za_22, zb_23, za_24, za_25, za_26, za_27, za_28, za_29, za_30, za_31, za_32, zb_35, za_36, za_37, za_38, za_39, za_40, zb_377, zb_378, za_379, za_380, za_381, za_382, za_383, zb_384, za_385, za_386, za_387, za_388, za_389, za_390, za_391, za_392, za_393, zb_396, za_397, za_398, za_399, za_400, za_401, zb_738, za_739, za_740, za_741, za_742, za_743, za_744, za_745, za_746, za_747, zb_748, za_749, za_750, zb_751, zb_752, za_753, za_754, za_755, za_756, zb_757, za_758, za_759, za_760, zb_761, za_763, za_764, za_765, true_and, and_true, Nat.reduceAdd, o0]
  refine ⟨fun n0 => ?_, fun e0 => ?_⟩
  · rw [if_neg n0] at h
    refine h6 _ _ _ ?_
    simp only [bX2_found_6, zw_0, zw_1, zs_iloadn1, zs_iconst, zs_icne, zs_aloadn0, zs_aloadNn0, zg_2_9, zs_iloadn2, zs_iaload, zs_ireturn, zn_int, zn_b0, zn_b1, zb_15, zb_16, zb_17, za_18, za_19, za_20, za_21, za_22, zb_23, za_24, za_25, za_26, za_27, za_28, za_29, za_30, za_31, za_32, zb_35, za_36, za_37, za_38, za_39, za_40, zb_377, zb_378, za_379, za_380, za_381, za_382, za_383, zb_384, za_385, za_386, za_387, za_388, za_389, za_390, za_391, za_392, za_393, zb_396, za_397, za_398, za_399, za_400, za_401, zb_738, za_739, za_740, za_741, za_742, za_743, za_744, za_745, za_746, za_747, zb_748, za_749, za_750, zb_751, zb_752, za_753, za_754, za_755, za_756, zb_757, za_758, za_759, za_760, zb_761, za_763, za_764, za_765, zu_0, zu_1, zu_2, zu_3, zu_4, zu_5, zu_6, zu_7, zu_8, zu_9, zu_10, zu_11, zu_12, zu_13, zu_14, zu_15, zu_16, zu_17, zu_18, zu_19, zu_20, zu_21, zu_22, zu_23, zu_24, zu_25, zu_26, zu_27, zu_28, zu_29, zu_30, zu_90, zv_0_9, zv_1_9, zv_2_9, zv_3_9, zv_4_9, zv_5_9, zv_6_9, zv_7_9, zv_8_9, zv_0_330, zv_0_4544, zv_1_4544, zv_2_4544, zv_3_4544, zv_4_4544, zv_5_4544, zv_6_4544, zv_7_4544, zv_8_4544, zv_9_4544, zv_10_4544, zv_11_4544, zv_12_4544, zv_13_4544, zv_14_4544, zv_15_4544, zv_16_4544, zv_17_4544, zv_18_4544, zv_19_4544, zv_20_4544, zv_21_4544, zv_22_4544, zv_23_4544, zv_24_4544, zv_25_4544, zv_26_4544, zv_27_4544, zv_28_4544, zv_29_4544, zv_0_11, zv_1_11, zv_0_160, true_and, and_true, Nat.reduceAdd, o1]
    refine ⟨fun n1 => ?_, fun e1 => ?_⟩
    · rw [if_neg n1] at h
      cases st with
      | nil => simp at h
      | cons r t0 =>
        have hr0 : zq_ok r := hs r List.mem_cons_self
        have ht0 : zq_all t0 := fun u hu => hs u (List.mem_cons_of_mem _ hu)
        have l0 : t0.length < 300 := by simp at hl; omega
        simp only at h
        refine h18 _ _ _ ?_
        simp only [bX2_found_18, zw_0, zw_1, zs_aloadn0, zs_aloadNn0, zi_2_60, zs_istoren3, zs_iloadn1, zs_tsw, zm_sw, zc_none, zc_int, zc_ref, zc_null, zc_long, zh_0, zh_1, zh_2, zh_3, zh_4, zt_i, zt_l, zt_r, zt_n, zb_15, zb_16, zb_17, za_18, za_19, za_20, za_21, za_22, zb_23, za_24, za_25, za_26, za_27, za_28, za_29, za_30, za_31, za_32, zb_35, za_36, za_37, za_38, za_39, za_40, zb_377, zb_378, za_379, za_380, za_381, za_382, za_383, zb_384, za_385, za_386, za_387, za_388, za_389, za_390, za_391, za_392, za_393, zb_396, za_397, za_398, za_399, za_400, za_401, zb_738, za_739, za_740, za_741, za_742, za_743, za_744, za_745, za_746, za_747, zb_748, za_749, za_750, zb_751, zb_752, za_753, za_754, za_755, za_756, zb_757, za_758, za_759, za_760, zb_761, za_763, za_764, za_765, true_and, and_true, Nat.reduceAdd]
        refine c2_pop hE (d + 0) l0 (by rw [h3]; rfl) ?_
        simp only [bX2_found_18, zw_0, zw_1, zs_aloadn0, zs_aloadNn0, zi_2_60, zs_istoren3, zs_iloadn1, zs_tsw, zm_sw, zc_none, zc_int, zc_ref, zc_null, zc_long, zh_0, zh_1, zh_2, zh_3, zh_4, zt_i, zt_l, zt_r, zt_n, zb_15, zb_16, zb_17, za_18, za_19, za_20, za_21, za_22, zb_23, za_24, za_25, za_26, za_27, za_28, za_29, za_30, za_31, za_32, zb_35, za_36, za_37, za_38, za_39, za_40, zb_377, zb_378, za_379, za_380, za_381, za_382, za_383, zb_384, za_385, za_386, za_387, za_388, za_389, za_390, za_391, za_392, za_393, zb_396, za_397, za_398, za_399, za_400, za_401, zb_738, za_739, za_740, za_741, za_742, za_743, za_744, za_745, za_746, za_747, zb_748, za_749, za_750, zb_751, zb_752, za_753, za_754, za_755, za_756, zb_757, za_758, za_759, za_760, zb_761, za_763, za_764, za_765, true_and, and_true, Nat.reduceAdd, o2, o3, o4]
        have hr : (M.1 750 t0.length).toInt = r := hst.1
        have w3 : (zm_wi M 748 3 (nI t0.length)).1 748 3 = nI t0.length := by rw [zm_wi_same, if_pos rfl]
        have f3 : zf [748] M (zm_wi M 748 3 (nI t0.length)) := zf_wi zf_refl (by decide)
        generalize hM1 : zm_wi M 748 3 (nI t0.length) = M1 at *
        have k50 : M1.1 750 = M.1 750 := (f3 750 (by decide)).1
        have k17 : M1.1 17 = M.1 17 := (f3 17 (by decide)).1
        have k20 : M1.1 20 = M.1 20 := (f3 20 (by decide)).1
        refine ⟨fun e2 => ?_, fun n2 => ⟨fun e3 => ?_, fun n3 => ⟨fun e4 => ?_, fun n4 => ?_⟩⟩⟩
        · rw [if_pos e2] at h
          obtain ⟨hv9, ht9⟩ := List.cons.inj (Option.some.inj h); rw [← hv9, ← ht9] at q
          refine h52 _ _ _ ?_
          simp only [bX2_found_52, zw_0, zw_1, zs_iloadn3, zs_ineg, zs_ireturn, zn_int, zn_b0, zn_b1, zb_15, zb_16, zb_17, za_18, za_19, za_20, za_21, za_22, zb_23, za_24, za_25, za_26, za_27, za_28, za_29, za_30, za_31, za_32, zb_35, za_36, za_37, za_38, za_39, za_40, zb_377, zb_378, za_379, za_380, za_381, za_382, za_383, zb_384, za_385, za_386, za_387, za_388, za_389, za_390, za_391, za_392, za_393, zb_396, za_397, za_398, za_399, za_400, za_401, zb_738, za_739, za_740, za_741, za_742, za_743, za_744, za_745, za_746, za_747, zb_748, za_749, za_750, zb_751, zb_752, za_753, za_754, za_755, za_756, zb_757, za_758, za_759, za_760, zb_761, za_763, za_764, za_765, true_and, and_true, Nat.reduceAdd]
          unfold zq_ok at hr0
          refine q _ M1 ?_ w3 k50 f3
          rw [Int32.toInt_neg, hr, Int.bmod_eq_of_le (by omega) (by omega)]
        · rw [if_neg n2, if_neg (by omega), if_pos e3] at h
          obtain ⟨hv9, ht9⟩ := List.cons.inj (Option.some.inj h); rw [← hv9, ← ht9] at q
          refine h59 _ _ _ ?_
          simp only [bX2_found_59, zw_0, zw_1, zs_aloadn0, zs_aloadNn0, zg_2_22, zs_iloadn3, zi_2_79, zs_ifeq, zg_2_31, zs_iaload, zs_goto, zh_0, zh_1, zh_2, zh_3, zh_4, zt_i, zt_l, zt_r, zt_n, zb_15, zb_16, zb_17, za_18, za_19, za_20, za_21, za_22, zb_23, za_24, za_25, za_26, za_27, za_28, za_29, za_30, za_31, za_32, zb_35, za_36, za_37, za_38, za_39, za_40, zb_377, zb_378, za_379, za_380, za_381, za_382, za_383, zb_384, za_385, za_386, za_387, za_388, za_389, za_390, za_391, za_392, za_393, zb_396, za_397, za_398, za_399, za_400, za_401, zb_738, za_739, za_740, za_741, za_742, za_743, za_744, za_745, za_746, za_747, zb_748, za_749, za_750, zb_751, zb_752, za_753, za_754, za_755, za_756, zb_757, za_758, za_759, za_760, zb_761, za_763, za_764, za_765, zu_0, zu_1, zu_2, zu_3, zu_4, zu_5, zu_6, zu_7, zu_8, zu_9, zu_10, zu_11, zu_12, zu_13, zu_14, zu_15, zu_16, zu_17, zu_18, zu_19, zu_20, zu_21, zu_22, zu_23, zu_24, zu_25, zu_26, zu_27, zu_28, zu_29, zu_30, zu_90, zv_0_9, zv_1_9, zv_2_9, zv_3_9, zv_4_9, zv_5_9, zv_6_9, zv_7_9, zv_8_9, zv_0_330, zv_0_4544, zv_1_4544, zv_2_4544, zv_3_4544, zv_4_4544, zv_5_4544, zv_6_4544, zv_7_4544, zv_8_4544, zv_9_4544, zv_10_4544, zv_11_4544, zv_12_4544, zv_13_4544, zv_14_4544, zv_15_4544, zv_16_4544, zv_17_4544, zv_18_4544, zv_19_4544, zv_20_4544, zv_21_4544, zv_22_4544, zv_23_4544, zv_24_4544, zv_25_4544, zv_26_4544, zv_27_4544, zv_28_4544, zv_29_4544, zv_0_11, zv_1_11, zv_0_160, true_and, and_true, Nat.reduceAdd]
          refine zm_R_eq (c7_has hE d (n := n) (by have := hw.1.1; omega) _ (by rw [k17]; exact hc)) ?_
          simp only [bX2_found_59, zw_0, zw_1, zs_aloadn0, zs_aloadNn0, zg_2_22, zs_iloadn3, zi_2_79, zs_ifeq, zg_2_31, zs_iaload, zs_goto, zh_0, zh_1, zh_2, zh_3, zh_4, zt_i, zt_l, zt_r, zt_n, zb_15, zb_16, zb_17, za_18, za_19, za_20, za_21, za_22, zb_23, za_24, za_25, za_26, za_27, za_28, za_29, za_30, za_31, za_32, zb_35, za_36, za_37, za_38, za_39, za_40, zb_377, zb_378, za_379, za_380, za_381, za_382, za_383, zb_384, za_385, za_386, za_387, za_388, za_389, za_390, za_391, za_392, za_393, zb_396, za_397, za_398, za_399, za_400, za_401, zb_738, za_739, za_740, za_741, za_742, za_743, za_744, za_745, za_746, za_747, zb_748, za_749, za_750, zb_751, zb_752, za_753, za_754, za_755, za_756, zb_757, za_758, za_759, za_760, zb_761, za_763, za_764, za_765, zu_0, zu_1, zu_2, zu_3, zu_4, zu_5, zu_6, zu_7, zu_8, zu_9, zu_10, zu_11, zu_12, zu_13, zu_14, zu_15, zu_16, zu_17, zu_18, zu_19, zu_20, zu_21, zu_22, zu_23, zu_24, zu_25, zu_26, zu_27, zu_28, zu_29, zu_30, zu_90, zv_0_9, zv_1_9, zv_2_9, zv_3_9, zv_4_9, zv_5_9, zv_6_9, zv_7_9, zv_8_9, zv_0_330, zv_0_4544, zv_1_4544, zv_2_4544, zv_3_4544, zv_4_4544, zv_5_4544, zv_6_4544, zv_7_4544, zv_8_4544, zv_9_4544, zv_10_4544, zv_11_4544, zv_12_4544, zv_13_4544, zv_14_4544, zv_15_4544, zv_16_4544, zv_17_4544, zv_18_4544, zv_19_4544, zv_20_4544, zv_21_4544, zv_22_4544, zv_23_4544, zv_24_4544, zv_25_4544, zv_26_4544, zv_27_4544, zv_28_4544, zv_29_4544, zv_0_11, zv_1_11, zv_0_160, true_and, and_true, Nat.reduceAdd, zi_b0]
          have is : zo_is n (M.1 750 t0.length) = decide (0 ≤ r ∧ r < n) := by unfold zo_is; rw [hr]
          refine ⟨fun h9 => ?_, fun h9 => ?_⟩
          · refine h82 _ _ _ ?_
            simp only [bX2_found_82, zw_0, zw_1, zs_iconst, zb_15, zb_16, zb_17, za_18, za_19, za_20, za_21, za_22, zb_23, za_24, za_25, za_26, za_27, za_28, za_29, za_30, za_31, za_32, zb_35, za_36, za_37, za_38, za_39, za_40, zb_377, zb_378, za_379, za_380, za_381, za_382, za_383, zb_384, za_385, za_386, za_387, za_388, za_389, za_390, za_391, za_392, za_393, zb_396, za_397, za_398, za_399, za_400, za_401, zb_738, za_739, za_740, za_741, za_742, za_743, za_744, za_745, za_746, za_747, zb_748, za_749, za_750, zb_751, zb_752, za_753, za_754, za_755, za_756, zb_757, za_758, za_759, za_760, zb_761, za_763, za_764, za_765, true_and, and_true, Nat.reduceAdd]
            refine h83 _ _ _ ?_
            simp only [bX2_found_83, zw_0, zw_1, zs_ireturn, zn_int, zn_b0, zn_b1, zb_15, zb_16, zb_17, za_18, za_19, za_20, za_21, za_22, zb_23, za_24, za_25, za_26, za_27, za_28, za_29, za_30, za_31, za_32, zb_35, za_36, za_37, za_38, za_39, za_40, zb_377, zb_378, za_379, za_380, za_381, za_382, za_383, zb_384, za_385, za_386, za_387, za_388, za_389, za_390, za_391, za_392, za_393, zb_396, za_397, za_398, za_399, za_400, za_401, zb_738, za_739, za_740, za_741, za_742, za_743, za_744, za_745, za_746, za_747, zb_748, za_749, za_750, zb_751, zb_752, za_753, za_754, za_755, za_756, zb_757, za_758, za_759, za_760, zb_761, za_763, za_764, za_765, true_and, and_true, Nat.reduceAdd]
            refine q _ M1 ?_ w3 k50 f3
            rw [is] at h9
            unfold zq_rk
            rw [if_neg (of_decide_eq_false h9)]; rfl
          · have h9 : zo_is n (M.1 750 t0.length) = true := by simpa using h9
            have h8 := h9
            rw [is] at h8
            have h8 := of_decide_eq_true h8
            obtain ⟨j, hj, ej⟩ := zo_of h9 (by have := hw.1.1; omega)
            have hn10 := hw.1.1
            have v1 : vp_in (nI j) 10 := vp_in_nI (by omega) (by decide)
            have v2 : (nI j).toNatClampNeg = j := nI_clamp (by omega)
            rw [ej, v2]
            refine ⟨v1, ?_⟩
            refine h83 _ _ _ ?_
            simp only [bX2_found_83, zw_0, zw_1, zs_ireturn, zn_int, zn_b0, zn_b1, zb_15, zb_16, zb_17, za_18, za_19, za_20, za_21, za_22, zb_23, za_24, za_25, za_26, za_27, za_28, za_29, za_30, za_31, za_32, zb_35, za_36, za_37, za_38, za_39, za_40, zb_377, zb_378, za_379, za_380, za_381, za_382, za_383, zb_384, za_385, za_386, za_387, za_388, za_389, za_390, za_391, za_392, za_393, zb_396, za_397, za_398, za_399, za_400, za_401, zb_738, za_739, za_740, za_741, za_742, za_743, za_744, za_745, za_746, za_747, zb_748, za_749, za_750, zb_751, zb_752, za_753, za_754, za_755, za_756, zb_757, za_758, za_759, za_760, zb_761, za_763, za_764, za_765, true_and, and_true, Nat.reduceAdd]
            refine q _ M1 ?_ w3 k50 f3
            have rj : r = (j : Int) := by rw [← hr, ej, nI_toInt (by omega)]
            have hk := zt_rk_le hw.1 j hj
            unfold zq_rk
            rw [if_pos h8, k20, hw.2 j hj, nI_toInt (by omega), rj, Int.toNat_natCast]
        · rw [if_neg n2, if_pos e4] at h
          split at h
          · next c =>
            obtain ⟨hv9, ht9⟩ := List.cons.inj (Option.some.inj h); rw [← hv9, ← ht9] at q
            refine h55 _ _ _ ?_
            simp only [bX2_found_55, zw_0, zw_1, zs_iconst, zs_iloadn3, zs_isub, zs_ireturn, zn_int, zn_b0, zn_b1, zb_15, zb_16, zb_17, za_18, za_19, za_20, za_21, za_22, zb_23, za_24, za_25, za_26, za_27, za_28, za_29, za_30, za_31, za_32, zb_35, za_36, za_37, za_38, za_39, za_40, zb_377, zb_378, za_379, za_380, za_381, za_382, za_383, zb_384, za_385, za_386, za_387, za_388, za_389, za_390, za_391, za_392, za_393, zb_396, za_397, za_398, za_399, za_400, za_401, zb_738, za_739, za_740, za_741, za_742, za_743, za_744, za_745, za_746, za_747, zb_748, za_749, za_750, zb_751, zb_752, za_753, za_754, za_755, za_756, zb_757, za_758, za_759, za_760, zb_761, za_763, za_764, za_765, true_and, and_true, Nat.reduceAdd]
            refine q _ M1 ?_ w3 k50 f3
            have := zx_subI (a := 1) (b := M.1 750 t0.length) (x := 1) (y := r) rfl hr (by omega) (by omega)
            exact this
          · cases h
        · rw [if_neg n2, if_neg n4, if_neg n3] at h
          cases t0 with
          | nil => simp at h
          | cons l t' =>
            simp only at h
            have hl0 : zq_ok l := ht0 l List.mem_cons_self
            have l1 : t'.length < 300 := by simp at l0; omega
            have hl' : (M.1 750 t'.length).toInt = l := hst.2.1
            refine h84 _ _ _ ?_
            simp only [bX2_found_84, zw_0, zw_1, zs_aloadn0, zs_aloadNn0, zi_2_60, zs_istore4, zs_iloadn1, zs_bipush, zs_icge, zs_iload4, zs_iloadn3, zi_2_82, zs_goto, zc_none, zc_int, zc_ref, zc_null, zc_long, zh_0, zh_1, zh_2, zh_3, zh_4, zt_i, zt_l, zt_r, zt_n, zb_15, zb_16, zb_17, za_18, za_19, za_20, za_21, za_22, zb_23, za_24, za_25, za_26, za_27, za_28, za_29, za_30, za_31, za_32, zb_35, za_36, za_37, za_38, za_39, za_40, zb_377, zb_378, za_379, za_380, za_381, za_382, za_383, zb_384, za_385, za_386, za_387, za_388, za_389, za_390, za_391, za_392, za_393, zb_396, za_397, za_398, za_399, za_400, za_401, zb_738, za_739, za_740, za_741, za_742, za_743, za_744, za_745, za_746, za_747, zb_748, za_749, za_750, zb_751, zb_752, za_753, za_754, za_755, za_756, zb_757, za_758, za_759, za_760, zb_761, za_763, za_764, za_765, true_and, and_true, Nat.reduceAdd]
            refine c2_pop hE (d + 0) l1 (by rw [w3]; rfl) ?_
            rw [k50]
            have w4 : (zm_wi M1 748 3 (nI t'.length)).1 748 3 = nI t'.length := by rw [zm_wi_same, if_pos rfl]
            have f4 : zf [748] M (zm_wi M1 748 3 (nI t'.length)) := zf_wi f3 (by decide)
            generalize hM2 : zm_wi M1 748 3 (nI t'.length) = M2 at *
            have j50 : M2.1 750 = M.1 750 := (f4 750 (by decide)).1
            simp only [bX2_found_84, zw_0, zw_1, zs_aloadn0, zs_aloadNn0, zi_2_60, zs_istore4, zs_iloadn1, zs_bipush, zs_icge, zs_iload4, zs_iloadn3, zi_2_82, zs_goto, zc_none, zc_int, zc_ref, zc_null, zc_long, zh_0, zh_1, zh_2, zh_3, zh_4, zt_i, zt_l, zt_r, zt_n, zb_15, zb_16, zb_17, za_18, za_19, za_20, za_21, za_22, zb_23, za_24, za_25, za_26, za_27, za_28, za_29, za_30, za_31, za_32, zb_35, za_36, za_37, za_38, za_39, za_40, zb_377, zb_378, za_379, za_380, za_381, za_382, za_383, zb_384, za_385, za_386, za_387, za_388, za_389, za_390, za_391, za_392, za_393, zb_396, za_397, za_398, za_399, za_400, za_401, zb_738, za_739, za_740, za_741, za_742, za_743, za_744, za_745, za_746, za_747, zb_748, za_749, za_750, zb_751, zb_752, za_753, za_754, za_755, za_756, zb_757, za_758, za_759, za_760, zb_761, za_763, za_764, za_765, true_and, and_true, Nat.reduceAdd]
            refine ⟨fun hge => ?_, fun hlt => ?_⟩
            · have h12 : 12 ≤ o := by
                rcases Nat.lt_or_ge o 12 with z | z
                · exact absurd hge (nI_ge (b := 12) z (by decide))
                · exact z
              rw [if_neg (by omega), if_pos (by omega)] at h
              obtain ⟨hv9, ht9⟩ := List.cons.inj (Option.some.inj h); rw [← hv9, ← ht9] at q
              refine h106 _ _ _ ?_
              simp only [bX2_found_106, zw_0, zw_1, zs_iloadn1, zs_iload4, zs_iloadn3, zi_2_86, zs_ifeq, zs_iconst, zs_goto, zh_0, zh_1, zh_2, zh_3, zh_4, zt_i, zt_l, zt_r, zt_n, zb_15, zb_16, zb_17, za_18, za_19, za_20, za_21, za_22, zb_23, za_24, za_25, za_26, za_27, za_28, za_29, za_30, za_31, za_32, zb_35, za_36, za_37, za_38, za_39, za_40, zb_377, zb_378, za_379, za_380, za_381, za_382, za_383, zb_384, za_385, za_386, za_387, za_388, za_389, za_390, za_391, za_392, za_393, zb_396, za_397, za_398, za_399, za_400, za_401, zb_738, za_739, za_740, za_741, za_742, za_743, za_744, za_745, za_746, za_747, zb_748, za_749, za_750, zb_751, zb_752, za_753, za_754, za_755, za_756, zb_757, za_758, za_759, za_760, zb_761, za_763, za_764, za_765, true_and, and_true, Nat.reduceAdd]
              refine zm_R_eq (c2_compare hE d h12 ho hl' hr) ?_
              simp only [bX2_found_106, zw_0, zw_1, zs_iloadn1, zs_iload4, zs_iloadn3, zi_2_86, zs_ifeq, zs_iconst, zs_goto, zh_0, zh_1, zh_2, zh_3, zh_4, zt_i, zt_l, zt_r, zt_n, zb_15, zb_16, zb_17, za_18, za_19, za_20, za_21, za_22, zb_23, za_24, za_25, za_26, za_27, za_28, za_29, za_30, za_31, za_32, zb_35, za_36, za_37, za_38, za_39, za_40, zb_377, zb_378, za_379, za_380, za_381, za_382, za_383, zb_384, za_385, za_386, za_387, za_388, za_389, za_390, za_391, za_392, za_393, zb_396, za_397, za_398, za_399, za_400, za_401, zb_738, za_739, za_740, za_741, za_742, za_743, za_744, za_745, za_746, za_747, zb_748, za_749, za_750, zb_751, zb_752, za_753, za_754, za_755, za_756, zb_757, za_758, za_759, za_760, zb_761, za_763, za_764, za_765, true_and, and_true, Nat.reduceAdd, zi_b0]
              refine ⟨fun h9 => ?_, fun h9 => ?_⟩
              · refine h120 _ _ _ ?_
                simp only [bX2_found_120, zw_0, zw_1, zs_iconst, zb_15, zb_16, zb_17, za_18, za_19, za_20, za_21, za_22, zb_23, za_24, za_25, za_26, za_27, za_28, za_29, za_30, za_31, za_32, zb_35, za_36, za_37, za_38, za_39, za_40, zb_377, zb_378, za_379, za_380, za_381, za_382, za_383, zb_384, za_385, za_386, za_387, za_388, za_389, za_390, za_391, za_392, za_393, zb_396, za_397, za_398, za_399, za_400, za_401, zb_738, za_739, za_740, za_741, za_742, za_743, za_744, za_745, za_746, za_747, zb_748, za_749, za_750, zb_751, zb_752, za_753, za_754, za_755, za_756, zb_757, za_758, za_759, za_760, zb_761, za_763, za_764, za_765, true_and, and_true, Nat.reduceAdd]
                refine h121 _ _ _ ?_
                simp only [bX2_found_121, zw_0, zw_1, zs_ireturn, zn_int, zn_b0, zn_b1, zb_15, zb_16, zb_17, za_18, za_19, za_20, za_21, za_22, zb_23, za_24, za_25, za_26, za_27, za_28, za_29, za_30, za_31, za_32, zb_35, za_36, za_37, za_38, za_39, za_40, zb_377, zb_378, za_379, za_380, za_381, za_382, za_383, zb_384, za_385, za_386, za_387, za_388, za_389, za_390, za_391, za_392, za_393, zb_396, za_397, za_398, za_399, za_400, za_401, zb_738, za_739, za_740, za_741, za_742, za_743, za_744, za_745, za_746, za_747, zb_748, za_749, za_750, zb_751, zb_752, za_753, za_754, za_755, za_756, zb_757, za_758, za_759, za_760, zb_761, za_763, za_764, za_765, true_and, and_true, Nat.reduceAdd]
                refine q _ M2 ?_ w4 j50 f4
                rw [h9]; rfl
              · have h9 : zq_cp o l r = true := by simpa using h9
                refine h121 _ _ _ ?_
                simp only [bX2_found_121, zw_0, zw_1, zs_ireturn, zn_int, zn_b0, zn_b1, zb_15, zb_16, zb_17, za_18, za_19, za_20, za_21, za_22, zb_23, za_24, za_25, za_26, za_27, za_28, za_29, za_30, za_31, za_32, zb_35, za_36, za_37, za_38, za_39, za_40, zb_377, zb_378, za_379, za_380, za_381, za_382, za_383, zb_384, za_385, za_386, za_387, za_388, za_389, za_390, za_391, za_392, za_393, zb_396, za_397, za_398, za_399, za_400, za_401, zb_738, za_739, za_740, za_741, za_742, za_743, za_744, za_745, za_746, za_747, zb_748, za_749, za_750, zb_751, zb_752, za_753, za_754, za_755, za_756, zb_757, za_758, za_759, za_760, zb_761, za_763, za_764, za_765, true_and, and_true, Nat.reduceAdd]
                refine q _ M2 ?_ w4 j50 f4
                rw [h9]; rfl
            · have h11 : o ≤ 11 := by
                rcases Nat.lt_or_ge o 12 with z | z
                · omega
                · exact absurd (nI_le (a := 12) z (by omega)) hlt
              rcases Nat.lt_or_ge o 7 with z | z
              · rw [if_neg (by omega), if_neg (by omega)] at h; cases h
              · rw [if_pos (by omega)] at h
                obtain ⟨hv9, ht9⟩ := List.cons.inj (Option.some.inj h); rw [← hv9, ← ht9] at q
                refine c2_reckon hE d z h11 hl' hr hl0 hr0 (fun x hx => ?_)
                simp only [bX2_found_84, zw_0, zw_1, zs_aloadn0, zs_aloadNn0, zi_2_60, zs_istore4, zs_iloadn1, zs_bipush, zs_icge, zs_iload4, zs_iloadn3, zi_2_82, zs_goto, zc_none, zc_int, zc_ref, zc_null, zc_long, zh_0, zh_1, zh_2, zh_3, zh_4, zt_i, zt_l, zt_r, zt_n, zb_15, zb_16, zb_17, za_18, za_19, za_20, za_21, za_22, zb_23, za_24, za_25, za_26, za_27, za_28, za_29, za_30, za_31, za_32, zb_35, za_36, za_37, za_38, za_39, za_40, zb_377, zb_378, za_379, za_380, za_381, za_382, za_383, zb_384, za_385, za_386, za_387, za_388, za_389, za_390, za_391, za_392, za_393, zb_396, za_397, za_398, za_399, za_400, za_401, zb_738, za_739, za_740, za_741, za_742, za_743, za_744, za_745, za_746, za_747, zb_748, za_749, za_750, zb_751, zb_752, za_753, za_754, za_755, za_756, zb_757, za_758, za_759, za_760, zb_761, za_763, za_764, za_765, true_and, and_true, Nat.reduceAdd]
                refine h121 _ _ _ ?_
                simp only [bX2_found_121, zw_0, zw_1, zs_ireturn, zn_int, zn_b0, zn_b1, zb_15, zb_16, zb_17, za_18, za_19, za_20, za_21, za_22, zb_23, za_24, za_25, za_26, za_27, za_28, za_29, za_30, za_31, za_32, zb_35, za_36, za_37, za_38, za_39, za_40, zb_377, zb_378, za_379, za_380, za_381, za_382, za_383, zb_384, za_385, za_386, za_387, za_388, za_389, za_390, za_391, za_392, za_393, zb_396, za_397, za_398, za_399, za_400, za_401, zb_738, za_739, za_740, za_741, za_742, za_743, za_744, za_745, za_746, za_747, zb_748, za_749, za_750, zb_751, zb_752, za_753, za_754, za_755, za_756, zb_757, za_758, za_759, za_760, zb_761, za_763, za_764, za_765, true_and, and_true, Nat.reduceAdd]
                exact q x M2 hx w4 j50 f4
    · rw [if_pos e1] at h
      split at h
      · next c =>
        cases h
        have v1 : vp_in (nI w) 9 := vp_in_nI c (by decide)
        have v2 : (nI w).toNatClampNeg = w := nI_clamp (by omega)
        rw [v2]
        exact ⟨v1, q _ M rfl h3 rfl zf_refl⟩
      · cases h
  · rw [if_pos e0] at h
    split at h
    · next c =>
      cases h
      exact q _ M (nI_toInt (by omega)) h3 rfl zf_refl
    · cases h
