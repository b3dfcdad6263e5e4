/-! ===== the route: the class ===== -/
/-! fields that hold a reference, which may change -/
theorem zg_3_28 {ret : Option FieldType} {Cl : zm_Me → List Value → zm_M → (Option Value → zm_M → Prop) → Prop} {J : Nat → zm_L → List Value → zm_M → Prop} {Rt : Option Value → zm_M → Prop} {k : zm_L → List Value → zm_M → Prop} {lv : zm_L} {st : List Value} {M : zm_M} {pc npc tgt p : Nat} {imm : Int32} {cs : List (Int32 × Nat)} : zm_st 3 ret Cl J Rt (pc, .getfield 28, npc, tgt, imm, cs) k lv (.ref p :: st) M = (zm_ob p 3 ∧ k lv (va_rf (M.2.2 p 7) :: st) M) := by
  have e : zm_fv id M p 3 7 = va_rf (M.2.2 p 7) := by
    show va_rf ((M.2.2 p 7).map id) = _
    rw [Option.map_id]; rfl
  refine propext ⟨fun h => ⟨h.1, ?_⟩, fun h => ⟨h.1, zo_3_28, ?_⟩⟩
  · have h2 : k lv (zm_fv id M p 3 7 :: st) M := h.2.2
    rw [e] at h2; exact h2
  · show k lv (zm_fv id M p 3 7 :: st) M
    rw [e]; exact h.2
theorem zq_3_28 {ret : Option FieldType} {Cl : zm_Me → List Value → zm_M → (Option Value → zm_M → Prop) → Prop} {J : Nat → zm_L → List Value → zm_M → Prop} {Rt : Option Value → zm_M → Prop} {k : zm_L → List Value → zm_M → Prop} {lv : zm_L} {st : List Value} {M : zm_M} {pc npc tgt p : Nat} {imm : Int32} {cs : List (Int32 × Nat)} {x : Nat} : zm_st 3 ret Cl J Rt (pc, .putfield 28, npc, tgt, imm, cs) k lv (.ref x :: .ref p :: st) M = (zm_ob p 3 ∧ k lv st (zm_wr M p 7 (some x))) := propext ⟨fun h => ⟨h.1, h.2.2⟩, fun h => ⟨h.1, zo_3_28, h.2⟩⟩
theorem zq_3_28n {ret : Option FieldType} {Cl : zm_Me → List Value → zm_M → (Option Value → zm_M → Prop) → Prop} {J : Nat → zm_L → List Value → zm_M → Prop} {Rt : Option Value → zm_M → Prop} {k : zm_L → List Value → zm_M → Prop} {lv : zm_L} {st : List Value} {M : zm_M} {pc npc tgt p : Nat} {imm : Int32} {cs : List (Int32 × Nat)} : zm_st 3 ret Cl J Rt (pc, .putfield 28, npc, tgt, imm, cs) k lv (.null :: .ref p :: st) M = (zm_ob p 3 ∧ k lv st (zm_wr M p 7 none)) := propext ⟨fun h => ⟨h.1, h.2.2⟩, fun h => ⟨h.1, zo_3_28, h.2⟩⟩
theorem zq_3_28v {ret : Option FieldType} {Cl : zm_Me → List Value → zm_M → (Option Value → zm_M → Prop) → Prop} {J : Nat → zm_L → List Value → zm_M → Prop} {Rt : Option Value → zm_M → Prop} {k : zm_L → List Value → zm_M → Prop} {lv : zm_L} {st : List Value} {M : zm_M} {pc npc tgt p : Nat} {imm : Int32} {cs : List (Int32 × Nat)} {lo : Option Nat} : zm_st 3 ret Cl J Rt (pc, .putfield 28, npc, tgt, imm, cs) k lv (va_rf lo :: .ref p :: st) M = (zm_ob p 3 ∧ k lv st (zm_wr M p 7 lo)) := by
  cases lo with
  | none => exact zq_3_28n
  | some x => exact zq_3_28
theorem zg_5_45 {ret : Option FieldType} {Cl : zm_Me → List Value → zm_M → (Option Value → zm_M → Prop) → Prop} {J : Nat → zm_L → List Value → zm_M → Prop} {Rt : Option Value → zm_M → Prop} {k : zm_L → List Value → zm_M → Prop} {lv : zm_L} {st : List Value} {M : zm_M} {pc npc tgt p : Nat} {imm : Int32} {cs : List (Int32 × Nat)} : zm_st 5 ret Cl J Rt (pc, .getfield 45, npc, tgt, imm, cs) k lv (.ref p :: st) M = (zm_ob p 5 ∧ k lv (va_rf (M.2.2 p 8) :: st) M) := by
  have e : zm_fv id M p 5 8 = va_rf (M.2.2 p 8) := by
    show va_rf ((M.2.2 p 8).map id) = _
    rw [Option.map_id]; rfl
  refine propext ⟨fun h => ⟨h.1, ?_⟩, fun h => ⟨h.1, zo_5_45, ?_⟩⟩
  · have h2 : k lv (zm_fv id M p 5 8 :: st) M := h.2.2
    rw [e] at h2; exact h2
  · show k lv (zm_fv id M p 5 8 :: st) M
    rw [e]; exact h.2
theorem zq_5_45 {ret : Option FieldType} {Cl : zm_Me → List Value → zm_M → (Option Value → zm_M → Prop) → Prop} {J : Nat → zm_L → List Value → zm_M → Prop} {Rt : Option Value → zm_M → Prop} {k : zm_L → List Value → zm_M → Prop} {lv : zm_L} {st : List Value} {M : zm_M} {pc npc tgt p : Nat} {imm : Int32} {cs : List (Int32 × Nat)} {x : Nat} : zm_st 5 ret Cl J Rt (pc, .putfield 45, npc, tgt, imm, cs) k lv (.ref x :: .ref p :: st) M = (zm_ob p 5 ∧ k lv st (zm_wr M p 8 (some x))) := propext ⟨fun h => ⟨h.1, h.2.2⟩, fun h => ⟨h.1, zo_5_45, h.2⟩⟩
theorem zq_5_45n {ret : Option FieldType} {Cl : zm_Me → List Value → zm_M → (Option Value → zm_M → Prop) → Prop} {J : Nat → zm_L → List Value → zm_M → Prop} {Rt : Option Value → zm_M → Prop} {k : zm_L → List Value → zm_M → Prop} {lv : zm_L} {st : List Value} {M : zm_M} {pc npc tgt p : Nat} {imm : Int32} {cs : List (Int32 × Nat)} : zm_st 5 ret Cl J Rt (pc, .putfield 45, npc, tgt, imm, cs) k lv (.null :: .ref p :: st) M = (zm_ob p 5 ∧ k lv st (zm_wr M p 8 none)) := propext ⟨fun h => ⟨h.1, h.2.2⟩, fun h => ⟨h.1, zo_5_45, h.2⟩⟩
theorem zq_5_45v {ret : Option FieldType} {Cl : zm_Me → List Value → zm_M → (Option Value → zm_M → Prop) → Prop} {J : Nat → zm_L → List Value → zm_M → Prop} {Rt : Option Value → zm_M → Prop} {k : zm_L → List Value → zm_M → Prop} {lv : zm_L} {st : List Value} {M : zm_M} {pc npc tgt p : Nat} {imm : Int32} {cs : List (Int32 × Nat)} {lo : Option Nat} : zm_st 5 ret Cl J Rt (pc, .putfield 45, npc, tgt, imm, cs) k lv (va_rf lo :: .ref p :: st) M = (zm_ob p 5 ∧ k lv st (zm_wr M p 8 lo)) := by
  cases lo with
  | none => exact zq_5_45n
  | some x => exact zq_5_45
theorem zg_5_51 {ret : Option FieldType} {Cl : zm_Me → List Value → zm_M → (Option Value → zm_M → Prop) → Prop} {J : Nat → zm_L → List Value → zm_M → Prop} {Rt : Option Value → zm_M → Prop} {k : zm_L → List Value → zm_M → Prop} {lv : zm_L} {st : List Value} {M : zm_M} {pc npc tgt p : Nat} {imm : Int32} {cs : List (Int32 × Nat)} : zm_st 5 ret Cl J Rt (pc, .getfield 51, npc, tgt, imm, cs) k lv (.ref p :: st) M = (zm_ob p 5 ∧ k lv (va_rf (M.2.2 p 10) :: st) M) := by
  have e : zm_fv id M p 5 10 = va_rf (M.2.2 p 10) := by
    show va_rf ((M.2.2 p 10).map id) = _
    rw [Option.map_id]; rfl
  refine propext ⟨fun h => ⟨h.1, ?_⟩, fun h => ⟨h.1, zo_5_51, ?_⟩⟩
  · have h2 : k lv (zm_fv id M p 5 10 :: st) M := h.2.2
    rw [e] at h2; exact h2
  · show k lv (zm_fv id M p 5 10 :: st) M
    rw [e]; exact h.2
theorem zq_5_51 {ret : Option FieldType} {Cl : zm_Me → List Value → zm_M → (Option Value → zm_M → Prop) → Prop} {J : Nat → zm_L → List Value → zm_M → Prop} {Rt : Option Value → zm_M → Prop} {k : zm_L → List Value → zm_M → Prop} {lv : zm_L} {st : List Value} {M : zm_M} {pc npc tgt p : Nat} {imm : Int32} {cs : List (Int32 × Nat)} {x : Nat} : zm_st 5 ret Cl J Rt (pc, .putfield 51, npc, tgt, imm, cs) k lv (.ref x :: .ref p :: st) M = (zm_ob p 5 ∧ k lv st (zm_wr M p 10 (some x))) := propext ⟨fun h => ⟨h.1, h.2.2⟩, fun h => ⟨h.1, zo_5_51, h.2⟩⟩
theorem zq_5_51n {ret : Option FieldType} {Cl : zm_Me → List Value → zm_M → (Option Value → zm_M → Prop) → Prop} {J : Nat → zm_L → List Value → zm_M → Prop} {Rt : Option Value → zm_M → Prop} {k : zm_L → List Value → zm_M → Prop} {lv : zm_L} {st : List Value} {M : zm_M} {pc npc tgt p : Nat} {imm : Int32} {cs : List (Int32 × Nat)} : zm_st 5 ret Cl J Rt (pc, .putfield 51, npc, tgt, imm, cs) k lv (.null :: .ref p :: st) M = (zm_ob p 5 ∧ k lv st (zm_wr M p 10 none)) := propext ⟨fun h => ⟨h.1, h.2.2⟩, fun h => ⟨h.1, zo_5_51, h.2⟩⟩
theorem zq_5_51v {ret : Option FieldType} {Cl : zm_Me → List Value → zm_M → (Option Value → zm_M → Prop) → Prop} {J : Nat → zm_L → List Value → zm_M → Prop} {Rt : Option Value → zm_M → Prop} {k : zm_L → List Value → zm_M → Prop} {lv : zm_L} {st : List Value} {M : zm_M} {pc npc tgt p : Nat} {imm : Int32} {cs : List (Int32 × Nat)} {lo : Option Nat} : zm_st 5 ret Cl J Rt (pc, .putfield 51, npc, tgt, imm, cs) k lv (va_rf lo :: .ref p :: st) M = (zm_ob p 5 ∧ k lv st (zm_wr M p 10 lo)) := by
  cases lo with
  | none => exact zq_5_51n
  | some x => exact zq_5_51
theorem nx_and (a b : Nat) : nI a &&& nI b = nI (a &&& b) := by
  apply Int32.toBitVec_inj.mp
  unfold nI
  simp [BitVec.ofNat_and]
theorem zr_not : ∀ t, t < 10 → (nI (2 ^ t) ^^^ (-1 : Int32) = nI (4294967295 - 2 ^ t)) := by decide
theorem zr_ntb : ∀ t, t < 10 → ∀ q, q < 10 → (4294967295 - 2 ^ t).testBit q = decide (q ≠ t) := by decide
/-- those below one, as bits -/
def zr_bl (b : Nat → Int32) (n t : Nat) : Nat := zb_set (zt_ae b t) n &&& (4294967295 - 2 ^ t)
theorem zr_bl_tb {n t q : Nat} {b : Nat → Int32} (hw : zt_wf n b) (ht : t < n) (hq : q < n) : (zr_bl b n t).testBit q = zt_ab b t q := by
  have hn := hw.1
  unfold zr_bl
  rw [Nat.testBit_and, zb_set_tb, zr_ntb t (by omega) q (by omega), decide_eq_true hq]
  unfold zt_ae
  by_cases c : t = q
  · subst c
    have : zt_ab b t t = false := by
      cases h : zt_ab b t t with
      | false => rfl
      | true => exact absurd (zt_ab_lt hw ht t ht h) (by omega)
    rw [this]; simp
  · have c2 : q ≠ t := fun z => c z.symm
    simp [c, c2]
theorem zr_bl_lt {n t : Nat} {b : Nat → Int32} (hn : n ≤ 10) : zr_bl b n t < 1024 := by
  have h1 : zr_bl b n t ≤ zb_set (zt_ae b t) n := Nat.and_le_left
  have h2 := zb_set_lt (zt_ae b t) n
  have h3 : 2 ^ n ≤ 2 ^ 10 := Nat.pow_le_pow_right (by decide) hn
  omega
/-- what the Pathfinder knows -/
def zP_f (n : Nat) (b pr cs : Nat → Int32) (fr to dd : Nat) (D : Option zD) (lw : Option Nat) (M : zm_M) : Prop := zc_s9 n b pr M ∧ (∀ i, i < n → M.1 21 i = cs i) ∧ M.1 757 8 = nI fr ∧ M.1 757 9 = nI to ∧ M.1 757 10 = nI (zr_bl b n to) ∧ M.2.2 757 7 = lw ∧ M.1 749 0 = nI dd ∧ M.1 749 7 = 0 ∧ M.1 749 8 = 0 ∧ zN M ∧ ((lw = none ∧ D = none) ∨ ∃ L, lw = some L ∧ zl_ok L ∧ zl_law M L 0 D)
theorem c3_isBelow {E : zm_E} (hE : zm_ok E.2.2.1 E.2.2.2.2) (d : Nat) {n to p : Nat} {b : Nat → Int32} {M : zm_M} (hw : zt_wf n b) (ht : to < n) (hp : p < n) (h10 : M.1 757 10 = nI (zr_bl b n to)) : zm_R E (d + 1) mX3_isBelow [.ref 757, .int (nI p)] M (fun r M' => r = some (.int (zi_b (zt_ab b to p))) ∧ M' = M) := by
  refine zX3_isBelow hE rfl (fun G h0 h16 h17 => ?_)
  show G 0 [some (.ref 757), some (.int (nI p))] [] M
  have hn := hw.1
  have hlt := zr_bl_lt (b := b) (t := to) hn
  have hb := zx_bit (S := zr_bl b n to) (q := p) (by omega) (by omega)
  rw [zr_bl_tb hw ht hp] at hb
  refine h0 _ _ _ ?_
  simp only [bX3_isBelow_0, zw_0, zw_1, zs_aloadn0, zs_aloadNn0, zg_3_38, zs_iloadn1, zs_ishr, zs_iconst, zs_iand, zs_icne, zs_goto, zb_15, zb_16, zb_17, za_18, za_19, za_20, za_21, za_22, zb_23, za_24, za_25, za_26, za_27, za_28, za_29, za_30, za_31, za_32, zb_35, za_36, za_37, za_38, za_39, za_40, zb_377, zb_378, za_379, za_380, za_381, za_382, za_383, zb_384, za_385, za_386, za_387, za_388, za_389, za_390, za_391, za_392, za_393, zb_396, za_397, za_398, za_399, za_400, za_401, zb_738, za_739, za_740, za_741, za_742, za_743, za_744, za_745, za_746, za_747, zb_748, za_749, za_750, zb_751, zb_752, za_753, za_754, za_755, za_756, zb_757, za_758, za_759, za_760, zb_761, za_763, za_764, za_765, true_and, and_true, Nat.reduceAdd, h10, hb]
  cases hab : zt_ab b to p with
  | true =>
    refine ⟨fun h => absurd rfl h, fun _ => ?_⟩
    refine h17 _ _ _ ?_
    simp only [bX3_isBelow_17, zw_0, zw_1, zs_ireturn, zn_int, zn_b0, zn_b1, zb_15, zb_16, zb_17, za_18, za_19, za_20, za_21, za_22, zb_23, za_24, za_25, za_26, za_27, za_28, za_29, za_30, za_31, za_32, zb_35, za_36, za_37, za_38, za_39, za_40, zb_377, zb_378, za_379, za_380, za_381, za_382, za_383, zb_384, za_385, za_386, za_387, za_388, za_389, za_390, za_391, za_392, za_393, zb_396, za_397, za_398, za_399, za_400, za_401, zb_738, za_739, za_740, za_741, za_742, za_743, za_744, za_745, za_746, za_747, zb_748, za_749, za_750, zb_751, zb_752, za_753, za_754, za_755, za_756, zb_757, za_758, za_759, za_760, zb_761, za_763, za_764, za_765, true_and, and_true, Nat.reduceAdd]
    rw [hab]; rfl
  | false =>
    refine ⟨fun _ => ?_, fun h => absurd h (by decide)⟩
    refine h16 _ _ _ ?_
    simp only [bX3_isBelow_16, zw_0, zw_1, zs_iconst, zb_15, zb_16, zb_17, za_18, za_19, za_20, za_21, za_22, zb_23, za_24, za_25, za_26, za_27, za_28, za_29, za_30, za_31, za_32, zb_35, za_36, za_37, za_38, za_39, za_40, zb_377, zb_378, za_379, za_380, za_381, za_382, za_383, zb_384, za_385, za_386, za_387, za_388, za_389, za_390, za_391, za_392, za_393, zb_396, za_397, za_398, za_399, za_400, za_401, zb_738, za_739, za_740, za_741, za_742, za_743, za_744, za_745, za_746, za_747, zb_748, za_749, za_750, zb_751, zb_752, za_753, za_754, za_755, za_756, zb_757, za_758, za_759, za_760, zb_761, za_763, za_764, za_765, true_and, and_true, Nat.reduceAdd]
    refine h17 _ _ _ ?_
    simp only [bX3_isBelow_17, zw_0, zw_1, zs_ireturn, zn_int, zn_b0, zn_b1, zb_15, zb_16, zb_17, za_18, za_19, za_20, za_21, za_22, zb_23, za_24, za_25, za_26, za_27, za_28, za_29, za_30, za_31, za_32, zb_35, za_36, za_37, za_38, za_39, za_40, zb_377, zb_378, za_379, za_380, za_381, za_382, za_383, zb_384, za_385, za_386, za_387, za_388, za_389, za_390, za_391, za_392, za_393, zb_396, za_397, za_398, za_399, za_400, za_401, zb_738, za_739, za_740, za_741, za_742, za_743, za_744, za_745, za_746, za_747, zb_748, za_749, za_750, zb_751, zb_752, za_753, za_754, za_755, za_756, zb_757, za_758, za_759, za_760, zb_761, za_763, za_764, za_765, true_and, and_true, Nat.reduceAdd]
    rw [hab]; rfl
/-- a step's days, 1000 for none -/
def zr_k (c : Nat) : Nat := if c = 0 then 1000 else c
theorem c3_stepDays {E : zm_E} (hE : zm_ok E.2.2.1 E.2.2.2.2) (d : Nat) {n to p e : Nat} {b pr cs : Nat → Int32} {M : zm_M} (h9 : zc_s9 n b pr M) (hcs : ∀ i, i < n → M.1 21 i = cs i) (ht : to < n) (hp : p < n) (he : e < n) (h10 : M.1 757 10 = nI (zr_bl b n to)) : zm_R E (d + 2) mX3_stepDays [.ref 757, .int (nI p), .int (nI e)] M (fun r M' => r = some (.int (nI (zr_k (zr_c b cs to p e)))) ∧ M' = M) := by
  refine zX3_stepDays hE rfl (fun G h0 h12 h27 h51 h54 => ?_)
  show G 0 [some (.ref 757), some (.int (nI p)), some (.int (nI e))] [] M
  have hw : zt_wf n b := zt_wf_c h9.1.1 h9.2.2.1
  have hn := hw.1
  have v1 : vp_in (nI p) 10 := vp_in_nI (by omega) (by decide)
  have v2 : (nI p).toNatClampNeg = p := nI_clamp (by omega)
  have m18 : M.1 18 p = b p := h9.2.2.1 p hp
  have m21 : M.1 21 p = cs p := hcs p hp
  have no : zr_c b cs to p e = 0 → G 51 [some (.ref 757), some (.int (nI p)), some (.int (nI e))] [] M := by
    intro h
    refine h51 _ _ _ ?_
    simp only [bX3_stepDays_51, zw_0, zw_1, zs_sipush, zb_15, zb_16, zb_17, za_18, za_19, za_20, za_21, za_22, zb_23, za_24, za_25, za_26, za_27, za_28, za_29, za_30, za_31, za_32, zb_35, za_36, za_37, za_38, za_39, za_40, zb_377, zb_378, za_379, za_380, za_381, za_382, za_383, zb_384, za_385, za_386, za_387, za_388, za_389, za_390, za_391, za_392, za_393, zb_396, za_397, za_398, za_399, za_400, za_401, zb_738, za_739, za_740, za_741, za_742, za_743, za_744, za_745, za_746, za_747, zb_748, za_749, za_750, zb_751, zb_752, za_753, za_754, za_755, za_756, zb_757, za_758, za_759, za_760, zb_761, za_763, za_764, za_765, true_and, and_true, Nat.reduceAdd]
    refine h54 _ _ _ ?_
    simp only [bX3_stepDays_54, zw_0, zw_1, zs_ireturn, zn_int, zn_b0, zn_b1, zb_15, zb_16, zb_17, za_18, za_19, za_20, za_21, za_22, zb_23, za_24, za_25, za_26, za_27, za_28, za_29, za_30, za_31, za_32, zb_35, za_36, za_37, za_38, za_39, za_40, zb_377, zb_378, za_379, za_380, za_381, za_382, za_383, zb_384, za_385, za_386, za_387, za_388, za_389, za_390, za_391, za_392, za_393, zb_396, za_397, za_398, za_399, za_400, za_401, zb_738, za_739, za_740, za_741, za_742, za_743, za_744, za_745, za_746, za_747, zb_748, za_749, za_750, zb_751, zb_752, za_753, za_754, za_755, za_756, zb_757, za_758, za_759, za_760, zb_761, za_763, za_764, za_765, true_and, and_true, Nat.reduceAdd]
    rw [h]; rfl
  refine h0 _ _ _ ?_
  simp only [bX3_stepDays_0, zw_0, zw_1, zs_aloadn0, zs_aloadNn0, zs_iloadn1, zi_3_85, zs_ifne, zs_sipush, zs_ireturn, zh_0, zh_1, zh_2, zh_3, zh_4, zt_i, zt_l, zt_r, zt_n, zn_int, zn_b0, zn_b1, zb_15, zb_16, zb_17, za_18, za_19, za_20, za_21, za_22, zb_23, za_24, za_25, za_26, za_27, za_28, za_29, za_30, za_31, za_32, zb_35, za_36, za_37, za_38, za_39, za_40, zb_377, zb_378, za_379, za_380, za_381, za_382, za_383, zb_384, za_385, za_386, za_387, za_388, za_389, za_390, za_391, za_392, za_393, zb_396, za_397, za_398, za_399, za_400, za_401, zb_738, za_739, za_740, za_741, za_742, za_743, za_744, za_745, za_746, za_747, zb_748, za_749, za_750, zb_751, zb_752, za_753, za_754, za_755, za_756, zb_757, za_758, za_759, za_760, zb_761, za_763, za_764, za_765, true_and, and_true, Nat.reduceAdd]
  refine zm_R_eq (c3_isBelow hE d hw ht hp h10) ?_
  simp only [bX3_stepDays_0, zw_0, zw_1, zs_aloadn0, zs_aloadNn0, zs_iloadn1, zi_3_85, zs_ifne, zs_sipush, zs_ireturn, zh_0, zh_1, zh_2, zh_3, zh_4, zt_i, zt_l, zt_r, zt_n, zn_int, zn_b0, zn_b1, zb_15, zb_16, zb_17, za_18, za_19, za_20, za_21, za_22, zb_23, za_24, za_25, za_26, za_27, za_28, za_29, za_30, za_31, za_32, zb_35, za_36, za_37, za_38, za_39, za_40, zb_377, zb_378, za_379, za_380, za_381, za_382, za_383, zb_384, za_385, za_386, za_387, za_388, za_389, za_390, za_391, za_392, za_393, zb_396, za_397, za_398, za_399, za_400, za_401, zb_738, za_739, za_740, za_741, za_742, za_743, za_744, za_745, za_746, za_747, zb_748, za_749, za_750, zb_751, zb_752, za_753, za_754, za_755, za_756, zb_757, za_758, za_759, za_760, zb_761, za_763, za_764, za_765, true_and, and_true, Nat.reduceAdd, zi_b1, zi_b0]
  refine ⟨fun hab => ?_, fun hab => ?_⟩
  · have hab : zt_ab b to p = true := by simpa using hab
    refine h12 _ _ _ ?_
    simp only [bX3_stepDays_12, zw_0, zw_1, zs_aloadn0, zs_aloadNn0, zg_3_41, zg_3_89, zs_iloadn1, zs_iaload, zs_iloadn2, zs_icne, zs_iconst, zs_ireturn, zn_int, zn_b0, zn_b1, zb_15, zb_16, zb_17, za_18, za_19, za_20, za_21, za_22, zb_23, za_24, za_25, za_26, za_27, za_28, za_29, za_30, za_31, za_32, zb_35, za_36, za_37, za_38, za_39, za_40, zb_377, zb_378, za_379, za_380, za_381, za_382, za_383, zb_384, za_385, za_386, za_387, za_388, za_389, za_390, za_391, za_392, za_393, zb_396, za_397, za_398, za_399, za_400, za_401, zb_738, za_739, za_740, za_741, za_742, za_743, za_744, za_745, za_746, za_747, zb_748, za_749, za_750, zb_751, zb_752, za_753, za_754, za_755, za_756, zb_757, za_758, za_759, za_760, zb_761, za_763, za_764, za_765, zu_0, zu_1, zu_2, zu_3, zu_4, zu_5, zu_6, zu_7, zu_8, zu_9, zu_10, zu_11, zu_12, zu_13, zu_14, zu_15, zu_16, zu_17, zu_18, zu_19, zu_20, zu_21, zu_22, zu_23, zu_24, zu_25, zu_26, zu_27, zu_28, zu_29, zu_30, zu_90, zv_0_9, zv_1_9, zv_2_9, zv_3_9, zv_4_9, zv_5_9, zv_6_9, zv_7_9, zv_8_9, zv_0_330, zv_0_4544, zv_1_4544, zv_2_4544, zv_3_4544, zv_4_4544, zv_5_4544, zv_6_4544, zv_7_4544, zv_8_4544, zv_9_4544, zv_10_4544, zv_11_4544, zv_12_4544, zv_13_4544, zv_14_4544, zv_15_4544, zv_16_4544, zv_17_4544, zv_18_4544, zv_19_4544, zv_20_4544, zv_21_4544, zv_22_4544, zv_23_4544, zv_24_4544, zv_25_4544, zv_26_4544, zv_27_4544, zv_28_4544, zv_29_4544, zv_0_11, zv_1_11, zv_0_160, true_and, and_true, Nat.reduceAdd, v1, v2, m18]
    refine ⟨fun hne => ?_, fun heq => ?_⟩
    · refine h27 _ _ _ ?_
      simp only [bX3_stepDays_27, zw_0, zw_1, zs_aloadn0, zs_aloadNn0, zs_iloadn2, zi_3_85, zs_ifeq, zg_3_41, zs_iloadn1, zi_3_92, zs_iconst, zs_goto, zh_0, zh_1, zh_2, zh_3, zh_4, zt_i, zt_l, zt_r, zt_n, zb_15, zb_16, zb_17, za_18, za_19, za_20, za_21, za_22, zb_23, za_24, za_25, za_26, za_27, za_28, za_29, za_30, za_31, za_32, zb_35, za_36, za_37, za_38, za_39, za_40, zb_377, zb_378, za_379, za_380, za_381, za_382, za_383, zb_384, za_385, za_386, za_387, za_388, za_389, za_390, za_391, za_392, za_393, zb_396, za_397, za_398, za_399, za_400, za_401, zb_738, za_739, za_740, za_741, za_742, za_743, za_744, za_745, za_746, za_747, zb_748, za_749, za_750, zb_751, zb_752, za_753, za_754, za_755, za_756, zb_757, za_758, za_759, za_760, zb_761, za_763, za_764, za_765, true_and, and_true, Nat.reduceAdd]
      refine zm_R_eq (c3_isBelow hE d hw ht he h10) ?_
      simp only [bX3_stepDays_27, zw_0, zw_1, zs_aloadn0, zs_aloadNn0, zs_iloadn2, zi_3_85, zs_ifeq, zg_3_41, zs_iloadn1, zi_3_92, zs_iconst, zs_goto, zh_0, zh_1, zh_2, zh_3, zh_4, zt_i, zt_l, zt_r, zt_n, zb_15, zb_16, zb_17, za_18, za_19, za_20, za_21, za_22, zb_23, za_24, za_25, za_26, za_27, za_28, za_29, za_30, za_31, za_32, zb_35, za_36, za_37, za_38, za_39, za_40, zb_377, zb_378, za_379, za_380, za_381, za_382, za_383, zb_384, za_385, za_386, za_387, za_388, za_389, za_390, za_391, za_392, za_393, zb_396, za_397, za_398, za_399, za_400, za_401, zb_738, za_739, za_740, za_741, za_742, za_743, za_744, za_745, za_746, za_747, zb_748, za_749, za_750, zb_751, zb_752, za_753, za_754, za_755, za_756, zb_757, za_758, za_759, za_760, zb_761, za_763, za_764, za_765, true_and, and_true, Nat.reduceAdd, zi_b0]
      refine ⟨fun hz => no ?_, fun hz => ?_⟩
      · unfold zr_c; rw [if_pos hab, if_neg hne, if_neg (by rw [hz]; simp)]
      · have hz : zt_ab b to e = true := by simpa using hz
        refine zm_R_eq (c7_areCousins hE d (p := p) (by omega) (nI e) M) ?_
        rw [m21]
        simp only [bX3_stepDays_27, zw_0, zw_1, zs_aloadn0, zs_aloadNn0, zs_iloadn2, zi_3_85, zs_ifeq, zg_3_41, zs_iloadn1, zi_3_92, zs_iconst, zs_goto, zh_0, zh_1, zh_2, zh_3, zh_4, zt_i, zt_l, zt_r, zt_n, zb_15, zb_16, zb_17, za_18, za_19, za_20, za_21, za_22, zb_23, za_24, za_25, za_26, za_27, za_28, za_29, za_30, za_31, za_32, zb_35, za_36, za_37, za_38, za_39, za_40, zb_377, zb_378, za_379, za_380, za_381, za_382, za_383, zb_384, za_385, za_386, za_387, za_388, za_389, za_390, za_391, za_392, za_393, zb_396, za_397, za_398, za_399, za_400, za_401, zb_738, za_739, za_740, za_741, za_742, za_743, za_744, za_745, za_746, za_747, zb_748, za_749, za_750, zb_751, zb_752, za_753, za_754, za_755, za_756, zb_757, za_758, za_759, za_760, zb_761, za_763, za_764, za_765, true_and, and_true, Nat.reduceAdd]
        refine ⟨fun h0 => no ?_, fun h0 => ?_⟩
        · unfold zr_c; rw [if_pos hab, if_neg hne, if_neg (by simp [h0])]
        · refine h54 _ _ _ ?_
          simp only [bX3_stepDays_54, zw_0, zw_1, zs_ireturn, zn_int, zn_b0, zn_b1, zb_15, zb_16, zb_17, za_18, za_19, za_20, za_21, za_22, zb_23, za_24, za_25, za_26, za_27, za_28, za_29, za_30, za_31, za_32, zb_35, za_36, za_37, za_38, za_39, za_40, zb_377, zb_378, za_379, za_380, za_381, za_382, za_383, zb_384, za_385, za_386, za_387, za_388, za_389, za_390, za_391, za_392, za_393, zb_396, za_397, za_398, za_399, za_400, za_401, zb_738, za_739, za_740, za_741, za_742, za_743, za_744, za_745, za_746, za_747, zb_748, za_749, za_750, zb_751, zb_752, za_753, za_754, za_755, za_756, zb_757, za_758, za_759, za_760, zb_761, za_763, za_764, za_765, true_and, and_true, Nat.reduceAdd]
          have : zr_c b cs to p e = 2 := by unfold zr_c; rw [if_pos hab, if_neg hne, if_pos ⟨h0, hz⟩]
          rw [this]; rfl
    · have : zr_c b cs to p e = 1 := by unfold zr_c; rw [if_pos hab, if_pos heq]
      rw [this]; rfl
  · have : zr_c b cs to p e = 0 := by unfold zr_c; rw [if_neg (by rw [hab]; decide)]
    rw [this]; rfl
def zP_dy (n : Nat) (dv : Nat → Nat) (M : zm_M) : Prop := ∀ q, q < n → M.1 758 q = nI (dv q)
theorem zr_min {n p e : Nat} {c : Nat → Nat → Nat} {dv : Nat → Nat} (hi : zr_i n dv) (hc : c p e ≤ 2) (hn : n ≤ 10) : (if nI (dv e) + nI (zr_k (c p e)) < nI (dv p) then nI (dv e) + nI (zr_k (c p e)) else nI (dv p)) = nI (zr_rel c dv p e p) := by
  have b1 := hi.1 p
  have b2 := hi.1 e
  have hk : zr_k (c p e) ≤ 1000 := by unfold zr_k; split <;> omega
  rw [nI_add]
  have l : (nI (dv e + zr_k (c p e)) < nI (dv p)) ↔ dv e + zr_k (c p e) < dv p := nI_ltI (by omega) (by omega)
  unfold zr_rel
  by_cases h : 0 < c p e ∧ dv e + c p e < dv p
  · have ek : zr_k (c p e) = c p e := by unfold zr_k; rw [if_neg (by omega)]
    rw [if_pos h, if_pos (l.mpr (by rw [ek]; exact h.2)), ek]
    unfold zr_up; rw [if_pos rfl]
  · rw [if_neg h, if_neg (fun z => h ?_)]
    have := l.mp z
    unfold zr_k at this
    split at this
    · omega
    · exact ⟨by omega, this⟩
theorem c3_measureDays {E : zm_E} (hE : zm_ok E.2.2.1 E.2.2.2.2) (d : Nat) {n to : Nat} {b pr cs : Nat → Int32} {M : zm_M} (h9 : zc_s9 n b pr M) (hcs : ∀ i, i < n → M.1 21 i = cs i) (ht : to < n) (hto : M.1 757 9 = nI to) (h10 : M.1 757 10 = nI (zr_bl b n to)) {Q : Option Value → zm_M → Prop} (q : ∀ M', zP_dy n (zr_ds n b cs to) M' → zf [758] M M' → Q none M') : zm_R E (d + 3) mX3_measureDays [.ref 757] M Q := by
  refine zX3_measureDays hE rfl (fun G h0 h22 h35 h48 h93 h99 h105 => ?_)
  show G 0 [some (.ref 757), none, none, none] [] M
  have hw : zt_wf n b := zt_wf_c h9.1.1 h9.2.2.1
  have hn := hw.1
  have hc2 : ∀ p e, zr_c b cs to p e ≤ 2 := fun p e => zr_c_2 b cs to p e
  have m17 : ∀ {M1 : zm_M}, zf [758] M M1 → M1.1 17 0 = nI n := fun f => by rw [(f 17 (by decide)).1]; exact h9.2.1
  have l1 : ∀ (f e p r : Nat) (dv : Nat → Nat) (M1 : zm_M), e + f = n → p < n → zr_i n dv → zP_dy n dv M1 → zf [758] M M1 → (∀ M2 l3, zP_dy n (zr_l1 (zr_c b cs to) p f e dv) M2 → zf [758] M M2 → G 93 [some (.ref 757), some (.int (nI r)), some (.int (nI p)), l3] [] M2) → G 48 [some (.ref 757), some (.int (nI r)), some (.int (nI p)), some (.int (nI e))] [] M1 := by
    intro f
    induction f with
    | zero =>
      intro e p r dv M1 he hp hi hd f1 hq
      have m0 := m17 f1
      refine h48 _ _ _ ?_
      simp only [bX3_measureDays_48, zw_0, zw_1, zs_iloadn3, zs_aloadn0, zs_aloadNn0, zg_3_41, zg_3_73, zs_icge, zg_3_9, zs_iloadn2, zs_iaload, zi_3_76, zs_iadd, zi_3_80, zs_iastore, zs_iinc3, zs_goto, zc_none, zc_int, zc_ref, zc_null, zc_long, zh_0, zh_1, zh_2, zh_3, zh_4, zt_i, zt_l, zt_r, zt_n, zb_15, zb_16, zb_17, za_18, za_19, za_20, za_21, za_22, zb_23, za_24, za_25, za_26, za_27, za_28, za_29, za_30, za_31, za_32, zb_35, za_36, za_37, za_38, za_39, za_40, zb_377, zb_378, za_379, za_380, za_381, za_382, za_383, zb_384, za_385, za_386, za_387, za_388, za_389, za_390, za_391, za_392, za_393, zb_396, za_397, za_398, za_399, za_400, za_401, zb_738, za_739, za_740, za_741, za_742, za_743, za_744, za_745, za_746, za_747, zb_748, za_749, za_750, zb_751, zb_752, za_753, za_754, za_755, za_756, zb_757, za_758, za_759, za_760, zb_761, za_763, za_764, za_765, zu_0, zu_1, zu_2, zu_3, zu_4, zu_5, zu_6, zu_7, zu_8, zu_9, zu_10, zu_11, zu_12, zu_13, zu_14, zu_15, zu_16, zu_17, zu_18, zu_19, zu_20, zu_21, zu_22, zu_23, zu_24, zu_25, zu_26, zu_27, zu_28, zu_29, zu_30, zu_90, zv_0_9, zv_1_9, zv_2_9, zv_3_9, zv_4_9, zv_5_9, zv_6_9, zv_7_9, zv_8_9, zv_0_330, zv_0_4544, zv_1_4544, zv_2_4544, zv_3_4544, zv_4_4544, zv_5_4544, zv_6_4544, zv_7_4544, zv_8_4544, zv_9_4544, zv_10_4544, zv_11_4544, zv_12_4544, zv_13_4544, zv_14_4544, zv_15_4544, zv_16_4544, zv_17_4544, zv_18_4544, zv_19_4544, zv_20_4544, zv_21_4544, zv_22_4544, zv_23_4544, zv_24_4544, zv_25_4544, zv_26_4544, zv_27_4544, zv_28_4544, zv_29_4544, zv_0_11, zv_1_11, zv_0_160, true_and, and_true, Nat.reduceAdd, m0]
      exact ⟨fun _ => hq M1 _ hd f1, fun h => absurd (nI_le (by omega) (by omega)) h⟩
    | succ f ih =>
      intro e p r dv M1 he hp hi hd f1 hq
      have m0 := m17 f1
      have v1 : vp_in (nI p) 10 := vp_in_nI (by omega) (by decide)
      have v2 : (nI p).toNatClampNeg = p := nI_clamp (by omega)
      have w1 : vp_in (nI e) 10 := vp_in_nI (by omega) (by decide)
      have w2 : (nI e).toNatClampNeg = e := nI_clamp (by omega)
      have dp := hd p hp
      have de := hd e (by omega)
      refine h48 _ _ _ ?_
      simp only [bX3_measureDays_48, zw_0, zw_1, zs_iloadn3, zs_aloadn0, zs_aloadNn0, zg_3_41, zg_3_73, zs_icge, zg_3_9, zs_iloadn2, zs_iaload, zi_3_76, zs_iadd, zi_3_80, zs_iastore, zs_iinc3, zs_goto, zc_none, zc_int, zc_ref, zc_null, zc_long, zh_0, zh_1, zh_2, zh_3, zh_4, zt_i, zt_l, zt_r, zt_n, zb_15, zb_16, zb_17, za_18, za_19, za_20, za_21, za_22, zb_23, za_24, za_25, za_26, za_27, za_28, za_29, za_30, za_31, za_32, zb_35, za_36, za_37, za_38, za_39, za_40, zb_377, zb_378, za_379, za_380, za_381, za_382, za_383, zb_384, za_385, za_386, za_387, za_388, za_389, za_390, za_391, za_392, za_393, zb_396, za_397, za_398, za_399, za_400, za_401, zb_738, za_739, za_740, za_741, za_742, za_743, za_744, za_745, za_746, za_747, zb_748, za_749, za_750, zb_751, zb_752, za_753, za_754, za_755, za_756, zb_757, za_758, za_759, za_760, zb_761, za_763, za_764, za_765, zu_0, zu_1, zu_2, zu_3, zu_4, zu_5, zu_6, zu_7, zu_8, zu_9, zu_10, zu_11, zu_12, zu_13, zu_14, zu_15, zu_16, zu_17, zu_18, zu_19, zu_20, zu_21, zu_22, zu_23, zu_24, zu_25, zu_26, zu_27, zu_28, zu_29, zu_30, zu_90, zv_0_9, zv_1_9, zv_2_9, zv_3_9, zv_4_9, zv_5_9, zv_6_9, zv_7_9, zv_8_9, zv_0_330, zv_0_4544, zv_1_4544, zv_2_4544, zv_3_4544, zv_4_4544, zv_5_4544, zv_6_4544, zv_7_4544, zv_8_4544, zv_9_4544, zv_10_4544, zv_11_4544, zv_12_4544, zv_13_4544, zv_14_4544, zv_15_4544, zv_16_4544, zv_17_4544, zv_18_4544, zv_19_4544, zv_20_4544, zv_21_4544, zv_22_4544, zv_23_4544, zv_24_4544, zv_25_4544, zv_26_4544, zv_27_4544, zv_28_4544, zv_29_4544, zv_0_11, zv_1_11, zv_0_160, true_and, and_true, Nat.reduceAdd, m0, v1, v2, w1, w2, dp, de]
      refine ⟨fun h => absurd h (nI_ge (by omega) (by omega)), fun _ => ?_⟩
      refine zm_R_eq (c3_stepDays hE d (b := b) (pr := pr) (cs := cs) (zc_s9_f h9 f1 (by decide) (by decide) (by decide) (by decide)) (fun i hi => by rw [(f1 21 (by decide)).1]; exact hcs i hi) ht hp (by omega) (by rw [(f1 757 (by decide)).1]; exact h10)) ?_
      have mn := zr_min (n := n) (p := p) (e := e) (c := zr_c b cs to) hi (hc2 p e) hn
      simp only [bX3_measureDays_48, zw_0, zw_1, zs_iloadn3, zs_aloadn0, zs_aloadNn0, zg_3_41, zg_3_73, zs_icge, zg_3_9, zs_iloadn2, zs_iaload, zi_3_76, zs_iadd, zi_3_80, zs_iastore, zs_iinc3, zs_goto, zc_none, zc_int, zc_ref, zc_null, zc_long, zh_0, zh_1, zh_2, zh_3, zh_4, zt_i, zt_l, zt_r, zt_n, zb_15, zb_16, zb_17, za_18, za_19, za_20, za_21, za_22, zb_23, za_24, za_25, za_26, za_27, za_28, za_29, za_30, za_31, za_32, zb_35, za_36, za_37, za_38, za_39, za_40, zb_377, zb_378, za_379, za_380, za_381, za_382, za_383, zb_384, za_385, za_386, za_387, za_388, za_389, za_390, za_391, za_392, za_393, zb_396, za_397, za_398, za_399, za_400, za_401, zb_738, za_739, za_740, za_741, za_742, za_743, za_744, za_745, za_746, za_747, zb_748, za_749, za_750, zb_751, zb_752, za_753, za_754, za_755, za_756, zb_757, za_758, za_759, za_760, zb_761, za_763, za_764, za_765, zu_0, zu_1, zu_2, zu_3, zu_4, zu_5, zu_6, zu_7, zu_8, zu_9, zu_10, zu_11, zu_12, zu_13, zu_14, zu_15, zu_16, zu_17, zu_18, zu_19, zu_20, zu_21, zu_22, zu_23, zu_24, zu_25, zu_26, zu_27, zu_28, zu_29, zu_30, zu_90, zv_0_9, zv_1_9, zv_2_9, zv_3_9, zv_4_9, zv_5_9, zv_6_9, zv_7_9, zv_8_9, zv_0_330, zv_0_4544, zv_1_4544, zv_2_4544, zv_3_4544, zv_4_4544, zv_5_4544, zv_6_4544, zv_7_4544, zv_8_4544, zv_9_4544, zv_10_4544, zv_11_4544, zv_12_4544, zv_13_4544, zv_14_4544, zv_15_4544, zv_16_4544, zv_17_4544, zv_18_4544, zv_19_4544, zv_20_4544, zv_21_4544, zv_22_4544, zv_23_4544, zv_24_4544, zv_25_4544, zv_26_4544, zv_27_4544, zv_28_4544, zv_29_4544, zv_0_11, zv_1_11, zv_0_160, true_and, and_true, Nat.reduceAdd, v1, v2, mn, nI_1]
      refine ih (e + 1) p r (zr_rel (zr_c b cs to) dv p e) _ (by omega) hp (zr_rel_i hc2 hn hp (by omega) hi) (fun x hx => ?_) (zf_wi f1 (by decide)) hq
      rw [zm_wi_same]
      by_cases c : x = p
      · rw [if_pos c, c]
      · rw [if_neg c, hd x hx]
        unfold zr_rel
        split
        · unfold zr_up; rw [if_neg c]
        · rfl
  have l2 : ∀ (f p r : Nat) (dv : Nat → Nat) (M1 : zm_M) (l3 : Option Value), p + f = n → zr_i n dv → zP_dy n dv M1 → zf [758] M M1 → (∀ M2 l2 l3, zP_dy n (zr_l2 (zr_c b cs to) n f p dv) M2 → zf [758] M M2 → G 99 [some (.ref 757), some (.int (nI r)), l2, l3] [] M2) → G 35 [some (.ref 757), some (.int (nI r)), some (.int (nI p)), l3] [] M1 := by
    intro f
    induction f with
    | zero =>
      intro p r dv M1 l3 hp hi hd f1 hq
      have m0 := m17 f1
      refine h35 _ _ _ ?_
      simp only [bX3_measureDays_35, zw_0, zw_1, zs_iloadn2, zs_aloadn0, zs_aloadNn0, zg_3_41, zg_3_73, zs_icge, zs_iconst, zs_istoren3, zc_none, zc_int, zc_ref, zc_null, zc_long, zb_15, zb_16, zb_17, za_18, za_19, za_20, za_21, za_22, zb_23, za_24, za_25, za_26, za_27, za_28, za_29, za_30, za_31, za_32, zb_35, za_36, za_37, za_38, za_39, za_40, zb_377, zb_378, za_379, za_380, za_381, za_382, za_383, zb_384, za_385, za_386, za_387, za_388, za_389, za_390, za_391, za_392, za_393, zb_396, za_397, za_398, za_399, za_400, za_401, zb_738, za_739, za_740, za_741, za_742, za_743, za_744, za_745, za_746, za_747, zb_748, za_749, za_750, zb_751, zb_752, za_753, za_754, za_755, za_756, zb_757, za_758, za_759, za_760, zb_761, za_763, za_764, za_765, true_and, and_true, Nat.reduceAdd, m0]
      exact ⟨fun _ => hq M1 _ _ hd f1, fun h => absurd (nI_le (by omega) (by omega)) h⟩
    | succ f ih =>
      intro p r dv M1 l3 hp hi hd f1 hq
      have m0 := m17 f1
      refine h35 _ _ _ ?_
      simp only [bX3_measureDays_35, zw_0, zw_1, zs_iloadn2, zs_aloadn0, zs_aloadNn0, zg_3_41, zg_3_73, zs_icge, zs_iconst, zs_istoren3, zc_none, zc_int, zc_ref, zc_null, zc_long, zb_15, zb_16, zb_17, za_18, za_19, za_20, za_21, za_22, zb_23, za_24, za_25, za_26, za_27, za_28, za_29, za_30, za_31, za_32, zb_35, za_36, za_37, za_38, za_39, za_40, zb_377, zb_378, za_379, za_380, za_381, za_382, za_383, zb_384, za_385, za_386, za_387, za_388, za_389, za_390, za_391, za_392, za_393, zb_396, za_397, za_398, za_399, za_400, za_401, zb_738, za_739, za_740, za_741, za_742, za_743, za_744, za_745, za_746, za_747, zb_748, za_749, za_750, zb_751, zb_752, za_753, za_754, za_755, za_756, zb_757, za_758, za_759, za_760, zb_761, za_763, za_764, za_765, true_and, and_true, Nat.reduceAdd, m0]
      refine ⟨fun h => absurd h (nI_ge (by omega) (by omega)), fun _ => ?_⟩
      refine l1 n 0 p r dv M1 (by omega) (by omega) hi hd f1 (fun M2 l3 d2 f2 => ?_)
      refine h93 _ _ _ ?_
      simp only [bX3_measureDays_93, zw_0, zw_1, zs_iinc2, zs_goto, zc_none, zc_int, zc_ref, zc_null, zc_long, zb_15, zb_16, zb_17, za_18, za_19, za_20, za_21, za_22, zb_23, za_24, za_25, za_26, za_27, za_28, za_29, za_30, za_31, za_32, zb_35, za_36, za_37, za_38, za_39, za_40, zb_377, zb_378, za_379, za_380, za_381, za_382, za_383, zb_384, za_385, za_386, za_387, za_388, za_389, za_390, za_391, za_392, za_393, zb_396, za_397, za_398, za_399, za_400, za_401, zb_738, za_739, za_740, za_741, za_742, za_743, za_744, za_745, za_746, za_747, zb_748, za_749, za_750, zb_751, zb_752, za_753, za_754, za_755, za_756, zb_757, za_758, za_759, za_760, zb_761, za_763, za_764, za_765, true_and, and_true, Nat.reduceAdd, nI_1]
      exact ih (p + 1) r _ M2 _ (by omega) (zr_l1_i hc2 hn (by omega) n 0 dv (by omega) hi) d2 f2 hq
  have l3 : ∀ (f r : Nat) (dv : Nat → Nat) (M1 : zm_M) (a2 a3 : Option Value), r + f = n → zr_i n dv → zP_dy n dv M1 → zf [758] M M1 → zr_l3 (zr_c b cs to) n f dv = zr_ds n b cs to → G 22 [some (.ref 757), some (.int (nI r)), a2, a3] [] M1 := by
    intro f
    induction f with
    | zero =>
      intro r dv M1 a2 a3 hr hi hd f1 e
      have e : dv = zr_ds n b cs to := e
      have m0 := m17 f1
      refine h22 _ _ _ ?_
      simp only [bX3_measureDays_22, zw_0, zw_1, zs_iloadn1, zs_aloadn0, zs_aloadNn0, zg_3_41, zg_3_73, zs_icge, zs_iconst, zs_istoren2, zc_none, zc_int, zc_ref, zc_null, zc_long, zb_15, zb_16, zb_17, za_18, za_19, za_20, za_21, za_22, zb_23, za_24, za_25, za_26, za_27, za_28, za_29, za_30, za_31, za_32, zb_35, za_36, za_37, za_38, za_39, za_40, zb_377, zb_378, za_379, za_380, za_381, za_382, za_383, zb_384, za_385, za_386, za_387, za_388, za_389, za_390, za_391, za_392, za_393, zb_396, za_397, za_398, za_399, za_400, za_401, zb_738, za_739, za_740, za_741, za_742, za_743, za_744, za_745, za_746, za_747, zb_748, za_749, za_750, zb_751, zb_752, za_753, za_754, za_755, za_756, zb_757, za_758, za_759, za_760, zb_761, za_763, za_764, za_765, true_and, and_true, Nat.reduceAdd, m0]
      refine ⟨fun _ => ?_, fun h => absurd (nI_le (by omega) (by omega)) h⟩
      refine h105 _ _ _ ?_
      simp only [bX3_measureDays_105, zw_0, zw_1, zs_return, zn_int, zn_b0, zn_b1, zb_15, zb_16, zb_17, za_18, za_19, za_20, za_21, za_22, zb_23, za_24, za_25, za_26, za_27, za_28, za_29, za_30, za_31, za_32, zb_35, za_36, za_37, za_38, za_39, za_40, zb_377, zb_378, za_379, za_380, za_381, za_382, za_383, zb_384, za_385, za_386, za_387, za_388, za_389, za_390, za_391, za_392, za_393, zb_396, za_397, za_398, za_399, za_400, za_401, zb_738, za_739, za_740, za_741, za_742, za_743, za_744, za_745, za_746, za_747, zb_748, za_749, za_750, zb_751, zb_752, za_753, za_754, za_755, za_756, zb_757, za_758, za_759, za_760, zb_761, za_763, za_764, za_765, true_and, and_true, Nat.reduceAdd]
      exact q M1 (by rw [← e]; exact hd) f1
    | succ f ih =>
      intro r dv M1 a2 a3 hr hi hd f1 e
      have m0 := m17 f1
      refine h22 _ _ _ ?_
      simp only [bX3_measureDays_22, zw_0, zw_1, zs_iloadn1, zs_aloadn0, zs_aloadNn0, zg_3_41, zg_3_73, zs_icge, zs_iconst, zs_istoren2, zc_none, zc_int, zc_ref, zc_null, zc_long, zb_15, zb_16, zb_17, za_18, za_19, za_20, za_21, za_22, zb_23, za_24, za_25, za_26, za_27, za_28, za_29, za_30, za_31, za_32, zb_35, za_36, za_37, za_38, za_39, za_40, zb_377, zb_378, za_379, za_380, za_381, za_382, za_383, zb_384, za_385, za_386, za_387, za_388, za_389, za_390, za_391, za_392, za_393, zb_396, za_397, za_398, za_399, za_400, za_401, zb_738, za_739, za_740, za_741, za_742, za_743, za_744, za_745, za_746, za_747, zb_748, za_749, za_750, zb_751, zb_752, za_753, za_754, za_755, za_756, zb_757, za_758, za_759, za_760, zb_761, za_763, za_764, za_765, true_and, and_true, Nat.reduceAdd, m0]
      refine ⟨fun h => absurd h (nI_ge (by omega) (by omega)), fun _ => ?_⟩
      refine l2 n 0 r dv M1 _ (by omega) hi hd f1 (fun M2 x2 x3 d2 f2 => ?_)
      refine h99 _ _ _ ?_
      simp only [bX3_measureDays_99, zw_0, zw_1, zs_iinc1, zs_goto, zc_none, zc_int, zc_ref, zc_null, zc_long, zb_15, zb_16, zb_17, za_18, za_19, za_20, za_21, za_22, zb_23, za_24, za_25, za_26, za_27, za_28, za_29, za_30, za_31, za_32, zb_35, za_36, za_37, za_38, za_39, za_40, zb_377, zb_378, za_379, za_380, za_381, za_382, za_383, zb_384, za_385, za_386, za_387, za_388, za_389, za_390, za_391, za_392, za_393, zb_396, za_397, za_398, za_399, za_400, za_401, zb_738, za_739, za_740, za_741, za_742, za_743, za_744, za_745, za_746, za_747, zb_748, za_749, za_750, zb_751, zb_752, za_753, za_754, za_755, za_756, zb_757, za_758, za_759, za_760, zb_761, za_763, za_764, za_765, true_and, and_true, Nat.reduceAdd, nI_1]
      exact ih (r + 1) _ M2 _ _ (by omega) (zr_l2_i hc2 hn n 0 dv (by omega) hi) d2 f2 e
  refine h0 _ _ _ ?_
  simp only [bX3_measureDays_0, zw_0, zw_1, zs_aloadn0, zs_aloadNn0, zg_3_9, zs_sipush, zi_3_67, zg_3_35, zs_iconst, zs_iastore, zs_istoren1, zc_none, zc_int, zc_ref, zc_null, zc_long, zh_0, zh_1, zh_2, zh_3, zh_4, zt_i, zt_l, zt_r, zt_n, zb_15, zb_16, zb_17, za_18, za_19, za_20, za_21, za_22, zb_23, za_24, za_25, za_26, za_27, za_28, za_29, za_30, za_31, za_32, zb_35, za_36, za_37, za_38, za_39, za_40, zb_377, zb_378, za_379, za_380, za_381, za_382, za_383, zb_384, za_385, za_386, za_387, za_388, za_389, za_390, za_391, za_392, za_393, zb_396, za_397, za_398, za_399, za_400, za_401, zb_738, za_739, za_740, za_741, za_742, za_743, za_744, za_745, za_746, za_747, zb_748, za_749, za_750, zb_751, zb_752, za_753, za_754, za_755, za_756, zb_757, za_758, za_759, za_760, zb_761, za_763, za_764, za_765, zu_0, zu_1, zu_2, zu_3, zu_4, zu_5, zu_6, zu_7, zu_8, zu_9, zu_10, zu_11, zu_12, zu_13, zu_14, zu_15, zu_16, zu_17, zu_18, zu_19, zu_20, zu_21, zu_22, zu_23, zu_24, zu_25, zu_26, zu_27, zu_28, zu_29, zu_30, zu_90, zv_0_9, zv_1_9, zv_2_9, zv_3_9, zv_4_9, zv_5_9, zv_6_9, zv_7_9, zv_8_9, zv_0_330, zv_0_4544, zv_1_4544, zv_2_4544, zv_3_4544, zv_4_4544, zv_5_4544, zv_6_4544, zv_7_4544, zv_8_4544, zv_9_4544, zv_10_4544, zv_11_4544, zv_12_4544, zv_13_4544, zv_14_4544, zv_15_4544, zv_16_4544, zv_17_4544, zv_18_4544, zv_19_4544, zv_20_4544, zv_21_4544, zv_22_4544, zv_23_4544, zv_24_4544, zv_25_4544, zv_26_4544, zv_27_4544, zv_28_4544, zv_29_4544, zv_0_11, zv_1_11, zv_0_160, true_and, and_true, Nat.reduceAdd]
  refine zm_R_mono (c_fill hE (d + 1) (p := 758) (N := 10) ⟨by decide, by decide +kernel⟩ (by decide) 1000) ?_
  rintro _ M1 ⟨rfl, f1, g1⟩
  have m9 : M1.1 757 9 = nI to := by rw [(f1 757 (by decide)).1]; exact hto
  have v1 : vp_in (nI to) 10 := vp_in_nI (by omega) (by decide)
  have v2 : (nI to).toNatClampNeg = to := nI_clamp (by omega)
  simp only [bX3_measureDays_0, zw_0, zw_1, zs_aloadn0, zs_aloadNn0, zg_3_9, zs_sipush, zi_3_67, zg_3_35, zs_iconst, zs_iastore, zs_istoren1, zc_none, zc_int, zc_ref, zc_null, zc_long, zh_0, zh_1, zh_2, zh_3, zh_4, zt_i, zt_l, zt_r, zt_n, zb_15, zb_16, zb_17, za_18, za_19, za_20, za_21, za_22, zb_23, za_24, za_25, za_26, za_27, za_28, za_29, za_30, za_31, za_32, zb_35, za_36, za_37, za_38, za_39, za_40, zb_377, zb_378, za_379, za_380, za_381, za_382, za_383, zb_384, za_385, za_386, za_387, za_388, za_389, za_390, za_391, za_392, za_393, zb_396, za_397, za_398, za_399, za_400, za_401, zb_738, za_739, za_740, za_741, za_742, za_743, za_744, za_745, za_746, za_747, zb_748, za_749, za_750, zb_751, zb_752, za_753, za_754, za_755, za_756, zb_757, za_758, za_759, za_760, zb_761, za_763, za_764, za_765, zu_0, zu_1, zu_2, zu_3, zu_4, zu_5, zu_6, zu_7, zu_8, zu_9, zu_10, zu_11, zu_12, zu_13, zu_14, zu_15, zu_16, zu_17, zu_18, zu_19, zu_20, zu_21, zu_22, zu_23, zu_24, zu_25, zu_26, zu_27, zu_28, zu_29, zu_30, zu_90, zv_0_9, zv_1_9, zv_2_9, zv_3_9, zv_4_9, zv_5_9, zv_6_9, zv_7_9, zv_8_9, zv_0_330, zv_0_4544, zv_1_4544, zv_2_4544, zv_3_4544, zv_4_4544, zv_5_4544, zv_6_4544, zv_7_4544, zv_8_4544, zv_9_4544, zv_10_4544, zv_11_4544, zv_12_4544, zv_13_4544, zv_14_4544, zv_15_4544, zv_16_4544, zv_17_4544, zv_18_4544, zv_19_4544, zv_20_4544, zv_21_4544, zv_22_4544, zv_23_4544, zv_24_4544, zv_25_4544, zv_26_4544, zv_27_4544, zv_28_4544, zv_29_4544, zv_0_11, zv_1_11, zv_0_160, true_and, and_true, Nat.reduceAdd, m9, v1, v2]
  refine l3 n 0 (zr_d0 to) _ none none (by omega) (zr_d0_i ht) (fun x hx => ?_) (zf_wi f1 (by decide)) rfl
  rw [zm_wi_same]
  unfold zr_d0
  by_cases c : x = to
  · rw [if_pos c, if_pos c]; rfl
  · rw [if_neg c, if_neg c]; exact g1 x (by omega)
theorem zP_f_f {n : Nat} {b pr cs : Nat → Int32} {fr to dd : Nat} {D : Option zD} {lw : Option Nat} {M M' : zm_M} {L : List Nat} (h : zP_f n b pr cs fr to dd D lw M) (hf : zf L M M') (hL : ∀ q, q ∈ L → q = 748 ∨ q = 750 ∨ 758 ≤ q) : zP_f n b pr cs fr to dd D lw M' := by
  have no : ∀ q, q ≠ 748 → q ≠ 750 → q < 758 → q ∉ L := fun q a b c z => by have := hL q z; omega
  obtain ⟨h1, h2, h3, h4, h5, h6, h7, h8, h9, h10, h11⟩ := h
  have e57 := hf 757 (no 757 (by omega) (by omega) (by omega))
  have e49 := (hf 749 (no 749 (by omega) (by omega) (by omega))).1
  refine ⟨zc_s9_f h1 hf (no _ (by omega) (by omega) (by omega)) (no _ (by omega) (by omega) (by omega)) (no _ (by omega) (by omega) (by omega)) (no _ (by omega) (by omega) (by omega)), fun i hi => by rw [(hf 21 (no _ (by omega) (by omega) (by omega))).1]; exact h2 i hi, by rw [e57.1]; exact h3, by rw [e57.1]; exact h4, by rw [e57.1]; exact h5, by rw [e57.2.2]; exact h6, by rw [e49]; exact h7, by rw [e49]; exact h8, by rw [e49]; exact h9, fun i hi => by rw [e49]; exact h10 i hi, ?_⟩
  rcases h11 with h | ⟨q, a1, a2, a3⟩
  · exact Or.inl h
  · exact Or.inr ⟨q, a1, a2, zl_law_c a3 (fun j x y => (hf _ (no _ (by have := a2.1; omega) (by have := a2.1; omega) (by have := a2.1; omega))).1)⟩
theorem c3_grown {E : zm_E} (hE : zm_ok E.2.2.1 E.2.2.2.2) (d : Nat) {n e sz fr to dd : Nat} {b pr cs : Nat → Int32} {D : Option zD} {lw : Option Nat} {M : zm_M} (hF : zP_f n b pr cs fr to dd D lw M) (hD : zDo 0 D) (he : e < n) (hsz : sz ≤ 9999) (hfr : fr < n) (hto : to < n) (hdd : dd ≤ 9999) {Q : Option Value → zm_M → Prop} (q : ∀ M', zP_f n b pr cs fr to dd D lw M' → zf [748, 749, 750] M M' → Q (some (.int (nI (zr_sz n b pr D (nI dd) fr to e sz)))) M') : zm_R E (d + 4) mX3_grown [.ref 757, .int (nI e), .int (nI sz)] M Q := by
  refine zX3_grown hE rfl (fun G h0 => ?_)
  show G 0 [some (.ref 757), some (.int (nI e)), some (.int (nI sz))] [] M
  have hF0 := hF
  obtain ⟨h9, hcs, h8', h9', h10, h7, d0, d7, d8, hN, hlw⟩ := hF
  have hw : zt_wf n b := zt_wf_c h9.1.1 h9.2.2.1
  have hn := hw.1
  refine h0 _ _ _ ?_
  simp only [bX3_grown_0, zw_0, zw_1, zs_aloadn0, zs_aloadNn0, zg_3_45, zs_iloadn1, zg_3_32, zg_3_35, zi_3_105, zg_3_55, zs_iconst, zs_iloadn2, zs_iastore, zg_3_28, zi_3_108, zs_iadd, zs_sipush, zi_3_80, zs_ireturn, zh_0, zh_1, zh_2, zh_3, zh_4, zt_i, zt_l, zt_r, zt_n, zn_int, zn_b0, zn_b1, zb_15, zb_16, zb_17, za_18, za_19, za_20, za_21, za_22, zb_23, za_24, za_25, za_26, za_27, za_28, za_29, za_30, za_31, za_32, zb_35, za_36, za_37, za_38, za_39, za_40, zb_377, zb_378, za_379, za_380, za_381, za_382, za_383, zb_384, za_385, za_386, za_387, za_388, za_389, za_390, za_391, za_392, za_393, zb_396, za_397, za_398, za_399, za_400, za_401, zb_738, za_739, za_740, za_741, za_742, za_743, za_744, za_745, za_746, za_747, zb_748, za_749, za_750, zb_751, zb_752, za_753, za_754, za_755, za_756, zb_757, za_758, za_759, za_760, zb_761, za_763, za_764, za_765, zu_0, zu_1, zu_2, zu_3, zu_4, zu_5, zu_6, zu_7, zu_8, zu_9, zu_10, zu_11, zu_12, zu_13, zu_14, zu_15, zu_16, zu_17, zu_18, zu_19, zu_20, zu_21, zu_22, zu_23, zu_24, zu_25, zu_26, zu_27, zu_28, zu_29, zu_30, zu_90, zv_0_9, zv_1_9, zv_2_9, zv_3_9, zv_4_9, zv_5_9, zv_6_9, zv_7_9, zv_8_9, zv_0_330, zv_0_4544, zv_1_4544, zv_2_4544, zv_3_4544, zv_4_4544, zv_5_4544, zv_6_4544, zv_7_4544, zv_8_4544, zv_9_4544, zv_10_4544, zv_11_4544, zv_12_4544, zv_13_4544, zv_14_4544, zv_15_4544, zv_16_4544, zv_17_4544, zv_18_4544, zv_19_4544, zv_20_4544, zv_21_4544, zv_22_4544, zv_23_4544, zv_24_4544, zv_25_4544, zv_26_4544, zv_27_4544, zv_28_4544, zv_29_4544, zv_0_11, zv_1_11, zv_0_160, true_and, and_true, Nat.reduceAdd, h8', h9']
  refine c2_name hE (d + 2) (by omega) (nI fr) (nI to) (fun M1 e1 f1 => ?_)
  generalize hM2 : zm_wi M1 749 1 (nI sz) = M2
  have f2 : zf [749] M M2 := by rw [← hM2]; exact zf_wi f1 (by decide)
  have e2 : ∀ i, i < 9 → M2.1 749 i = zr_nm b pr (nI dd) fr to e sz i := by
    intro i hi
    have e19 : M.1 19 e = pr e := h9.2.2.2.1 e he
    have e20 : M.1 20 e = nI (zt_rk b e) := by rw [h9.1.2 e he, zt_rk_c h9.1.1 h9.2.2.1 e he]
    rw [← hM2]
    rcases (show i = 0 ∨ i = 1 ∨ i = 2 ∨ i = 3 ∨ i = 4 ∨ i = 5 ∨ i = 6 ∨ i = 7 ∨ i = 8 by omega) with rfl | rfl | rfl | rfl | rfl | rfl | rfl | rfl | rfl <;> simp [zm_wi_same, e1, zr_nm, zn_l, e19, e20, d0, d7, d8]
  have nmo := zn_l_ok (pr := pr) hw hdd he h9.2.2.2.2 fr to (by omega) (by omega) sz hsz
  have n2 : zN M2 := fun i hi => by rw [e2 i hi]; exact nmo i
  have h92 : zc_s9 n b pr M2 := zc_s9_f h9 f2 (by decide) (by decide) (by decide) (by decide)
  have l7 : M2.2.2 757 7 = lw := by rw [(f2 757 (by decide)).2.2]; exact h7
  have lv : ∃ L, (va_rf lw = .null ∧ D = none) ∨ (va_rf lw = .ref L ∧ zl_ok L ∧ zl_law M2 L 0 D) := by
    rcases hlw with ⟨h, hd⟩ | ⟨L, a1, a2, a3⟩
    · exact ⟨0, Or.inl ⟨by rw [h]; rfl, hd⟩⟩
    · refine ⟨L, Or.inr ⟨by rw [a1]; rfl, a2, zl_law_c a3 (fun j x y => (f2 _ ?_).1)⟩⟩
      have := a2.1
      simp; omega
  obtain ⟨L, hL⟩ := lv
  simp only [bX3_grown_0, zw_0, zw_1, zs_aloadn0, zs_aloadNn0, zg_3_45, zs_iloadn1, zg_3_32, zg_3_35, zi_3_105, zg_3_55, zs_iconst, zs_iloadn2, zs_iastore, zg_3_28, zi_3_108, zs_iadd, zs_sipush, zi_3_80, zs_ireturn, zh_0, zh_1, zh_2, zh_3, zh_4, zt_i, zt_l, zt_r, zt_n, zn_int, zn_b0, zn_b1, zb_15, zb_16, zb_17, za_18, za_19, za_20, za_21, za_22, zb_23, za_24, za_25, za_26, za_27, za_28, za_29, za_30, za_31, za_32, zb_35, za_36, za_37, za_38, za_39, za_40, zb_377, zb_378, za_379, za_380, za_381, za_382, za_383, zb_384, za_385, za_386, za_387, za_388, za_389, za_390, za_391, za_392, za_393, zb_396, za_397, za_398, za_399, za_400, za_401, zb_738, za_739, za_740, za_741, za_742, za_743, za_744, za_745, za_746, za_747, zb_748, za_749, za_750, zb_751, zb_752, za_753, za_754, za_755, za_756, zb_757, za_758, za_759, za_760, zb_761, za_763, za_764, za_765, zu_0, zu_1, zu_2, zu_3, zu_4, zu_5, zu_6, zu_7, zu_8, zu_9, zu_10, zu_11, zu_12, zu_13, zu_14, zu_15, zu_16, zu_17, zu_18, zu_19, zu_20, zu_21, zu_22, zu_23, zu_24, zu_25, zu_26, zu_27, zu_28, zu_29, zu_30, zu_90, zv_0_9, zv_1_9, zv_2_9, zv_3_9, zv_4_9, zv_5_9, zv_6_9, zv_7_9, zv_8_9, zv_0_330, zv_0_4544, zv_1_4544, zv_2_4544, zv_3_4544, zv_4_4544, zv_5_4544, zv_6_4544, zv_7_4544, zv_8_4544, zv_9_4544, zv_10_4544, zv_11_4544, zv_12_4544, zv_13_4544, zv_14_4544, zv_15_4544, zv_16_4544, zv_17_4544, zv_18_4544, zv_19_4544, zv_20_4544, zv_21_4544, zv_22_4544, zv_23_4544, zv_24_4544, zv_25_4544, zv_26_4544, zv_27_4544, zv_28_4544, zv_29_4544, zv_0_11, zv_1_11, zv_0_160, true_and, and_true, Nat.reduceAdd, hM2, l7]
  refine c2_value hE d (L := L) (n := n) (w := 0) (by decide) h92.1 h92.2.1 n2 hL (fun x M3 hx f3 => ?_)
  have hx2 : x.toInt = zq_said D 0 (fun i => (zr_nm b pr (nI dd) fr to e sz i).toInt) (zq_rk n b) := by
    rw [hx, zq_rk_e h92.1.1 h92.2.2.1]
    exact zq_said_c hD (fun i hi => by rw [e2 i (by have : zn_k 0 = 9 := rfl; omega)])
  have hin : 0 ≤ zq_said D 0 (fun i => (zr_nm b pr (nI dd) fr to e sz i).toInt) (zq_rk n b) ∧ zq_said D 0 (fun i => (zr_nm b pr (nI dd) fr to e sz i).toInt) (zq_rk n b) ≤ 999 := zq_bd_in 0 _
  have hmin : (if (9999 : Int32) < nI sz + x then 9999 else nI sz + x) = nI (zr_sz n b pr D (nI dd) fr to e sz) := by
    have := zx_min (x := nI sz + x) (v := (sz : Int) + zq_said D 0 (fun i => (zr_nm b pr (nI dd) fr to e sz i).toInt) (zq_rk n b)) (zx_addI (nI_toInt (by omega)) hx2 (by omega) (by omega)) (by omega) (by omega)
    exact this
  simp only [bX3_grown_0, zw_0, zw_1, zs_aloadn0, zs_aloadNn0, zg_3_45, zs_iloadn1, zg_3_32, zg_3_35, zi_3_105, zg_3_55, zs_iconst, zs_iloadn2, zs_iastore, zg_3_28, zi_3_108, zs_iadd, zs_sipush, zi_3_80, zs_ireturn, zh_0, zh_1, zh_2, zh_3, zh_4, zt_i, zt_l, zt_r, zt_n, zn_int, zn_b0, zn_b1, zb_15, zb_16, zb_17, za_18, za_19, za_20, za_21, za_22, zb_23, za_24, za_25, za_26, za_27, za_28, za_29, za_30, za_31, za_32, zb_35, za_36, za_37, za_38, za_39, za_40, zb_377, zb_378, za_379, za_380, za_381, za_382, za_383, zb_384, za_385, za_386, za_387, za_388, za_389, za_390, za_391, za_392, za_393, zb_396, za_397, za_398, za_399, za_400, za_401, zb_738, za_739, za_740, za_741, za_742, za_743, za_744, za_745, za_746, za_747, zb_748, za_749, za_750, zb_751, zb_752, za_753, za_754, za_755, za_756, zb_757, za_758, za_759, za_760, zb_761, za_763, za_764, za_765, zu_0, zu_1, zu_2, zu_3, zu_4, zu_5, zu_6, zu_7, zu_8, zu_9, zu_10, zu_11, zu_12, zu_13, zu_14, zu_15, zu_16, zu_17, zu_18, zu_19, zu_20, zu_21, zu_22, zu_23, zu_24, zu_25, zu_26, zu_27, zu_28, zu_29, zu_30, zu_90, zv_0_9, zv_1_9, zv_2_9, zv_3_9, zv_4_9, zv_5_9, zv_6_9, zv_7_9, zv_8_9, zv_0_330, zv_0_4544, zv_1_4544, zv_2_4544, zv_3_4544, zv_4_4544, zv_5_4544, zv_6_4544, zv_7_4544, zv_8_4544, zv_9_4544, zv_10_4544, zv_11_4544, zv_12_4544, zv_13_4544, zv_14_4544, zv_15_4544, zv_16_4544, zv_17_4544, zv_18_4544, zv_19_4544, zv_20_4544, zv_21_4544, zv_22_4544, zv_23_4544, zv_24_4544, zv_25_4544, zv_26_4544, zv_27_4544, zv_28_4544, zv_29_4544, zv_0_11, zv_1_11, zv_0_160, true_and, and_true, Nat.reduceAdd, hmin]
  have f3' : zf [748, 749, 750] M M3 := zf_trans (zf_sub f2 (by simp)) (zf_sub f3 (by simp))
  refine q M3 ?_ f3'
  have F2 : zP_f n b pr cs fr to dd D lw M2 := by
    refine ⟨h92, fun i hi => by rw [(f2 21 (by decide)).1]; exact hcs i hi, by rw [(f2 757 (by decide)).1]; exact h8', by rw [(f2 757 (by decide)).1]; exact h9', by rw [(f2 757 (by decide)).1]; exact h10, l7, by rw [e2 0 (by decide)]; rfl, by rw [e2 7 (by decide)]; rfl, by rw [e2 8 (by decide)]; rfl, n2, ?_⟩
    rcases hlw with h | ⟨q, a1, a2, a3⟩
    · exact Or.inl h
    · refine Or.inr ⟨q, a1, a2, zl_law_c a3 (fun j x y => (f2 _ ?_).1)⟩
      have := a2.1
      simp; omega
  exact zP_f_f F2 f3 (by simp)
