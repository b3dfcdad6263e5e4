/-! ===== the reference's next token ===== -/
theorem zk_sh8 {a c : Nat} (ha : a < 2 ^ 48) (hc : c < 256) : lN a <<< (Int32.toInt64 8 &&& 63) ||| (nI c).toInt64 = lN (a * 256 + c) := by
  rw [nI_l (by omega)]
  refine Int64.toBitVec_inj.mp (BitVec.eq_of_toNat_eq ?_)
  rw [Int64.toBitVec_or, BitVec.toNat_or, Int64.toBitVec_shiftLeft]
  have e1 : ((Int32.toInt64 8 &&& 63).toBitVec.smod 64).toNat = 8 := by decide +kernel
  have t : ∀ x : Nat, x < 2 ^ 64 → (lN x).toBitVec.toNat = x := by
    intro x hx
    unfold lN
    simp [Int64.toBitVec_ofNat]
    omega
  rw [BitVec.shiftLeft_eq', BitVec.toNat_shiftLeft, e1, t a (by omega), t c (by omega), t (a * 256 + c) (by omega)]
  have h2 : a <<< 8 < 2 ^ 64 := by rw [Nat.shiftLeft_eq]; omega
  rw [Nat.mod_eq_of_lt h2, ← Nat.shiftLeft_add_eq_or_of_lt (by omega), Nat.shiftLeft_eq]
theorem zk_lt {x : Nat} (hx : x < 2 ^ 64) : (lN x).toBitVec.toNat = x := by
  unfold lN
  simp [Int64.toBitVec_ofNat]
  omega
theorem zk_sh48 {a : Nat} (ha : a < 2 ^ 62) : (lN a >>> (Int32.toInt64 48 &&& 63) = 0) = (a < 2 ^ 48) := by
  have e1 : ((Int32.toInt64 48 &&& 63).toBitVec.smod 64).toNat = 48 := by decide +kernel
  have e3 : (lN a).toBitVec.msb = false := by
    rw [BitVec.msb_eq_decide, zk_lt (by omega)]
    exact decide_eq_false (by omega)
  have e2 : (lN a >>> (Int32.toInt64 48 &&& 63)).toBitVec.toNat = a / 2 ^ 48 := by
    rw [Int64.toBitVec_shiftRight]
    unfold BitVec.sshiftRight'
    rw [e1, BitVec.sshiftRight_eq_of_msb_false e3, BitVec.toNat_ushiftRight, zk_lt (by omega), Nat.shiftRight_eq_div_pow]
  refine propext ⟨fun h => ?_, fun h => ?_⟩
  · rw [h] at e2
    have : (0 : Int64).toBitVec.toNat = 0 := rfl
    omega
  · refine Int64.toBitVec_inj.mp (BitVec.eq_of_toNat_eq ?_)
    rw [e2]
    have : (0 : Int64).toBitVec.toNat = 0 := rfl
    omega
/-- letters, packed -/
def zk_pk (tp : Nat → Nat) : Nat → Nat → Nat → Nat
  | 0, _, a => a
  | f + 1, p, a => zk_pk tp f (p + 1) (if a < 2 ^ 48 then a * 256 + tp p else 2 ^ 60)
theorem zk_pk_lt {tp : Nat → Nat} (ht : ∀ i, tp i < 256) : ∀ (f p a : Nat), a < 2 ^ 62 → zk_pk tp f p a < 2 ^ 62 := by
  intro f
  induction f with
  | zero => intro p a h; exact h
  | succ f ih =>
    intro p a h
    simp only [zk_pk]
    refine ih _ _ ?_
    have := ht p
    split <;> omega
theorem zk_nr_lt {tp : Nat → Nat} (ht : ∀ i, tp i < 256) : ∀ (f p a : Nat), a < 2 ^ 30 → zk_nr tp f p a < 2 ^ 30 := by
  intro f
  induction f with
  | zero => intro p a h; exact h
  | succ f ih =>
    intro p a h
    simp only [zk_nr]
    refine ih _ _ ?_
    have := ht p
    split <;> omega
/-- the token that begins at s lies in the reference -/
def zk_at (tp : Nat → Nat) (n s : Nat) (M : zm_M) : Prop := M.1 0 8 = nI s ∧ M.1 0 7 = nI (zk_en tp n s) ∧ M.1 0 9 = nI (zk_so tp n s) ∧ (zk_so tp n s = 1 → M.1 0 10 = nI (zk_nr tp (zk_en tp n s - s) s 0)) ∧ (zk_so tp n s = 2 → M.2.1 0 11 = lN (zk_pk tp (zk_en tp n s - s) s 0))
/-- what reading a token may change -/
def zk_f (M M' : zm_M) : Prop := zf [0] M M' ∧ zg 0 [7, 8, 9, 10] M M' ∧ (∀ j, j ≠ 11 → M'.2.1 0 j = M.2.1 0 j) ∧ M'.2.2 0 = M.2.2 0
theorem zk_f_refl {M : zm_M} : zk_f M M := ⟨zf_refl, zg_refl, fun _ _ => rfl, rfl⟩
theorem zk_f_trans {M M' M'' : zm_M} (h : zk_f M M') (h2 : zk_f M' M'') : zk_f M M'' := ⟨zf_trans h.1 h2.1, zg_trans h.2.1 h2.2.1, fun j hj => (h2.2.2.1 j hj).trans (h.2.2.1 j hj), h2.2.2.2.trans h.2.2.2⟩
theorem zk_f_wi {M M' : zm_M} {k : Nat} {v : Int32} (h : zk_f M M') (hk : k ∈ [7, 8, 9, 10]) : zk_f M (zm_wi M' 0 k v) := ⟨zf_wi h.1 (by decide), zg_wi h.2.1 hk, h.2.2.1, h.2.2.2⟩
theorem zk_f_wj {M M' : zm_M} {v : Int64} (h : zk_f M M') : zk_f M (zm_wj M' 0 11 v) := ⟨zf_wj h.1 (by decide), h.2.1, fun j hj => by rw [zm_wj_same, if_neg hj]; exact h.2.2.1 j hj, h.2.2.2⟩
theorem zk_tm_f {tp : Nat → Nat} {n : Nat} {M M' : zm_M} (h : zk_tm tp n M) (f : zk_f M M') : zk_tm tp n M' := ⟨h.1, by rw [f.2.1 4 (by decide)]; exact h.2.1, fun i hi => by rw [(f.1 4 (by decide)).1]; exact h.2.2.1 i hi, h.2.2.2⟩
