/-! ===== signs ===== -/
def zz_cd : List Nat := [60, 4, 62, 5, 61, 35, 43, 45, 42, 47, 40, 41, 59]
theorem zz_cd_1 : ∀ i, i < 13 → ∀ c, c < 256 → (decide ([c] = zz_sd.getD (28 + i) []) = decide ((if zk_sg c then c else 3) = zz_cd.getD i 0)) := by decide +kernel
theorem zz_cd_2 : ∀ i, i < 13 → decide ([60, 61] = zz_sd.getD (28 + i) []) = decide (4 = zz_cd.getD i 0) ∧ decide ([62, 61] = zz_sd.getD (28 + i) []) = decide (5 = zz_cd.getD i 0) := by decide +kernel
theorem zz_cd_3 : ∀ i, i < 13 → zz_cd.getD i 0 ≠ 0 ∧ zz_cd.getD i 0 ≠ 1 ∧ zz_cd.getD i 0 ≠ 2 ∧ zz_cd.getD i 0 ≠ 3 ∧ (∀ c, c ∈ zz_sd.getD (28 + i) [] → zk_L c = false) ∧ zz_cd.getD i 0 < 256 := by decide +kernel
theorem zk_li1 {tp : Nat → Nat} {s : Nat} : zk_li tp s (s + 1) = [tp s] := by
  unfold zk_li
  rw [Nat.add_sub_cancel_left]
  rfl
theorem zk_li2 {tp : Nat → Nat} {s : Nat} : zk_li tp s (s + 2) = [tp s, tp (s + 1)] := by
  unfold zk_li
  rw [Nat.add_sub_cancel_left]
  rfl
theorem zk_sign {tp : Nat → Nat} {n s i : Nat} (ht : ∀ j, tp j < 256) (hi : i < 13) : (zk_w tp n s = 28 + i) = (zk_so tp n s = zz_cd.getD i 0) := by
  obtain ⟨c0, c1, c2, c3, c4, c5⟩ := zz_cd_3 i hi
  unfold zk_w zk_so
  by_cases h1 : n ≤ s
  · rw [if_pos h1, if_pos h1]
    exact propext ⟨fun z => by omega, fun z => absurd z.symm c0⟩
  rw [if_neg h1, if_neg h1]
  by_cases h2 : zk_F (tp s) = true
  · rw [if_pos h2, if_pos h2]
    exact propext ⟨fun z => by omega, fun z => absurd z.symm c1⟩
  rw [if_neg h2, if_neg h2, zk_wd_li ht (by omega)]
  have hen := zk_en_in (tp := tp) (n := n) (s := s) (by omega)
  by_cases h3 : zk_L (tp s) = true
  · rw [if_pos h3]
    refine propext ⟨fun z => ?_, fun z => absurd z.symm c2⟩
    rw [← z] at c4
    have := c4 (tp s) (by
      unfold zk_li
      rw [List.mem_map]
      exact ⟨0, List.mem_range.mpr (by omega), rfl⟩)
    rw [this] at h3
    exact absurd h3 (by decide)
  rw [if_neg h3]
  by_cases h4 : (tp s = 60 ∨ tp s = 62) ∧ s + 1 < n ∧ tp (s + 1) = 61
  · rw [if_pos h4]
    have een : zk_en tp n s = s + 2 := by unfold zk_en; rw [if_neg h1, if_neg h2, if_neg h3, if_pos h4]
    rw [een, zk_li2, h4.2.2]
    have k := zz_cd_2 i hi
    rcases h4.1 with h | h
    · rw [h, if_pos rfl]
      exact propext (decide_eq_decide.mp k.1)
    · rw [h, if_neg (by decide)]
      exact propext (decide_eq_decide.mp k.2)
  · rw [if_neg h4]
    have een : zk_en tp n s = s + 1 := by unfold zk_en; rw [if_neg h1, if_neg h2, if_neg h3, if_neg h4]
    rw [een, zk_li1]
    exact propext (decide_eq_decide.mp (zz_cd_1 i hi (tp s) (ht s)))
theorem zk_stop {tp : Nat → Nat} {n s : Nat} (ht : ∀ j, tp j < 256) : (zk_w tp n s = 43) = (zk_so tp n s = 0) ∧ ((zk_w tp n s = 43) = (n ≤ s)) := by
  have h0 : (zk_w tp n s = 43) = (n ≤ s) := by
    unfold zk_w
    by_cases h1 : n ≤ s
    · rw [if_pos h1]; exact propext ⟨fun _ => h1, fun _ => rfl⟩
    rw [if_neg h1]
    refine propext ⟨fun z => ?_, fun z => absurd z h1⟩
    exfalso
    by_cases h2 : zk_F (tp s) = true
    · rw [if_pos h2] at z; omega
    rw [if_neg h2] at z
    have hen := zk_en_in (tp := tp) (n := n) (s := s) (by omega)
    have nosp : ∀ k, 41 ≤ k → k < 44 → zk_sp k tp s (zk_en tp n s) = false := by
      intro k k1 k2
      rw [zk_sp_li ht k2]
      refine decide_eq_false (fun y => ?_)
      have := congrArg List.length y
      rw [zk_li_len] at this
      rcases (show k = 41 ∨ k = 42 ∨ k = 43 by omega) with rfl | rfl | rfl
      · have e : (zz_sd.getD 41 []).length = 0 := rfl
        omega
      · have e : (zz_sd.getD 42 []).length = 0 := rfl
        omega
      · have e : (zz_sd.getD 43 []).length = 0 := rfl
        omega
    have all : ∀ (f k : Nat), k + f = 44 → zk_wf tp s (zk_en tp n s) f k = 43 → False := by
      intro f
      induction f with
      | zero => intro k _ y; simp only [zk_wf] at y; omega
      | succ f ih =>
        intro k hk y
        simp only [zk_wf] at y
        split at y
        · next sp =>
          subst y
          rw [nosp 43 (by omega) (by omega)] at sp
          exact absurd sp (by decide)
        · exact ih (k + 1) (by omega) y
    exact all 44 0 (by omega) z
  refine ⟨?_, h0⟩
  rw [h0]
  unfold zk_so
  by_cases h1 : n ≤ s
  · rw [if_pos h1]; exact propext ⟨fun _ => rfl, fun _ => h1⟩
  rw [if_neg h1]
  refine propext ⟨fun z => absurd z h1, fun z => ?_⟩
  exfalso
  split at z
  · omega
  · split at z
    · omega
    · split at z
      · split at z <;> omega
      · split at z
        · next sg =>
          rw [z] at sg
          exact absurd sg (by decide)
        · omega
