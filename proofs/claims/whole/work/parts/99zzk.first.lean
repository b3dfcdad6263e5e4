/-! ===== the first memory ===== -/
def zu_I (p : Nat) : Nat → Int32 := if p = 0 then (fun k => if k = 5 then -1 else if k = 6 then -1 else if k = 23 then 1 else 0) else if p = 1 then zu_fa 10 else if p = 2 then zu_fc (zu_fa 10) (fun _ => 0) 4544 else if p = 16 then (fun k => if k = 7 then -1 else 0) else if p = 377 then (fun k => if k = 7 then -1 else 0) else if p = 761 then (fun k => if k = 2 then -1 else if k = 9 then -1 else 0) else if (zy_ly p).1 = 10 then (fun k => if k = 1 then 181 else 0) else (fun _ => 0)
def zu_M : zm_M := (zu_I, fun _ _ => 0, fun p k => if p = 761 ∧ k = 8 then some (1000 + 43) else none)
def zu_W : zW := (0, 181, 0, 0, fun _ _ => 0, fun _ => 0, fun _ _ => 0)
def zu_V : zO := (0, fun _ => 0, fun _ => 0, fun _ => 0, fun _ => 1, zu_W, 0, fun _ => zu_W)
def zu_A0 : zA := (zu_V, -1, 0, (0, fun _ => 0), fun _ => 0, (0, fun _ => 0, fun _ => 0))
def zu_TX : zTX := fun _ => (0, fun _ => 0, fun _ => 0, fun _ => 0, fun _ => 0, fun _ => none)
theorem zu_Gi : zGi zu_TX zu_A0 := by
  refine ⟨⟨?_, by decide, fun i _ _ => rfl, fun i _ => ⟨1, by decide, rfl⟩, fun i hi => absurd hi (Nat.not_lt_zero i)⟩, by decide, Or.inl rfl, fun t w ht => absurd ht (Nat.not_lt_zero t), by decide, by decide, fun i hi => absurd hi (Nat.not_lt_zero i)⟩
  refine ⟨⟨by decide, fun h => absurd h (Nat.not_lt_zero 0), fun i _ hi => absurd hi (Nat.not_lt_zero i)⟩, fun w hw => ?_, ⟨⟨by decide, by decide⟩, ⟨0, by decide, rfl⟩, ⟨181, by decide, rfl⟩, fun k hk => absurd hk (Nat.not_lt_zero k), fun i hi => absurd hi (Nat.not_lt_zero i)⟩, fun i hi => absurd hi (Nat.not_lt_zero i)⟩
  show zDo w (if (-1 : Int32) = -1 then none else _)
  rw [if_pos rfl]
  intro D hD
  cases hD
theorem zu_Gc {M : zm_M} (h17 : M.1 17 0 = 0) (h23 : M.1 23 0 = 0 ∧ M.1 23 1 = 181 ∧ M.1 23 2 = 0 ∧ M.1 23 11 = 0) (h31 : ∀ p, M.1 31 p = 0) (h16 : M.1 16 3 = 0 ∧ M.1 16 4 = 0 ∧ M.1 16 6 = 0 ∧ M.1 16 7 = -1 ∧ M.1 16 10 = 0) (h35 : M.1 35 0 = 0) (h38 : ∀ p, M.1 38 p = 0) : zGc zu_TX zu_A0 M := by
  have no : ∀ {P : Nat → Prop} (i : Nat), i < 0 → P i := fun i hi => absurd hi (Nat.not_lt_zero i)
  refine ⟨⟨⟨⟨⟨by decide, fun h => absurd h (Nat.not_lt_zero 0), fun i _ hi => absurd hi (Nat.not_lt_zero i)⟩, fun i hi => absurd hi (Nat.not_lt_zero i)⟩, h17, fun i hi => absurd hi (Nat.not_lt_zero i), fun i hi => absurd hi (Nat.not_lt_zero i), fun i hi => absurd hi (Nat.not_lt_zero i)⟩, ⟨h23.1, h23.2.1, h23.2.2.1, h23.2.2.2, fun f k _ hk => absurd hk (Nat.not_lt_zero k), fun p _ => h31 p, fun i j hi => absurd hi (Nat.not_lt_zero i)⟩, ⟨0, h16.1, by decide, h16.2.1, by decide, fun i hi => absurd hi (Nat.not_lt_zero i)⟩, fun i hi => absurd hi (Nat.not_lt_zero i), fun i hi => absurd hi (Nat.not_lt_zero i)⟩, ⟨h16.2.2.1, h16.2.2.2.1⟩, fun t ht => absurd ht (Nat.not_lt_zero t), ⟨h35, fun i hi => absurd hi (Nat.not_lt_zero i)⟩, fun i _ => h38 i, h16.2.2.2.2, fun i hi => absurd hi (Nat.not_lt_zero i)⟩
theorem zu_fa_z {k : Nat} (h : k < 128 ∨ 138 ≤ k) (h2 : k ≠ 2) (h7 : k ≠ 7) : zu_fa 10 k = 0 := by
  unfold zu_fa
  rw [if_neg (by omega), if_neg h2, if_neg h7]
theorem zu_Gm {M : zm_M} (h : ∀ k, k < 4544 → M.1 1 k = zu_fa 10 k) : zGm zu_TX zu_A0 M := by
  have hz : ∀ k, k < 4544 → (k < 128 ∨ 138 ≤ k) → k ≠ 2 → k ≠ 7 → M.1 1 k = 0 := fun k h0 h1 h2 h3 => by rw [h k h0, zu_fa_z h1 h2 h3]
  refine ⟨⟨⟨⟨by decide, fun h => absurd h (Nat.not_lt_zero 0), fun i _ hi => absurd hi (Nat.not_lt_zero i)⟩, hz 0 (by decide) (by decide) (by decide) (by decide), fun i hi => absurd hi (Nat.not_lt_zero i), fun i hi => absurd hi (Nat.not_lt_zero i), fun i hi => absurd hi (Nat.not_lt_zero i)⟩, ⟨hz 6 (by decide) (by decide) (by decide) (by decide), ?_, hz 8 (by decide) (by decide) (by decide) (by decide), hz 9 (by decide) (by decide) (by decide) (by decide), fun p hp => hz (6 + (4 + p)) (by omega) (by omega) (by omega) (by omega), fun f k _ hk => absurd hk (Nat.not_lt_zero k), fun i hi => absurd hi (Nat.not_lt_zero i)⟩, ⟨hz 3 (by decide) (by decide) (by decide) (by decide), by decide, fun i hi => absurd hi (Nat.not_lt_zero i)⟩, fun i hi => absurd hi (Nat.not_lt_zero i), fun i hi => ?_⟩, ⟨hz 1 (by decide) (by decide) (by decide) (by decide), ?_⟩, fun t ht => absurd ht (Nat.not_lt_zero t), ⟨hz 4 (by decide) (by decide) (by decide) (by decide), fun i hi => absurd hi (Nat.not_lt_zero i)⟩, fun i hi => hz (138 + i) (by omega) (by omega) (by omega) (by omega), hz 5 (by decide) (by decide) (by decide) (by decide), fun i hi => absurd hi (Nat.not_lt_zero i)⟩
  · show M.1 1 7 = 181
    rw [h 7 (by decide)]
    rfl
  · rw [h _ (by omega)]
    show zu_fa 10 (128 + i) = 1
    unfold zu_fa
    rw [if_pos (by omega)]
  · rw [h 2 (by decide)]
    rfl
theorem zu_GG : zGG zu_M := by
  refine ⟨zu_TX, zu_A0, zu_A0, zu_Gi, zu_Gi, ?_, ?_, ?_, ?_, Nat.le_refl _, ?_, rfl, ?_, ?_⟩
  · exact zu_Gc (by decide +kernel) ⟨by decide +kernel, by decide +kernel, by decide +kernel, by decide +kernel⟩ (fun _ => rfl) ⟨by decide +kernel, by decide +kernel, by decide +kernel, by decide +kernel, by decide +kernel⟩ (by decide +kernel) (fun _ => rfl)
  · exact zu_Gm (fun _ _ => rfl)
  · exact zu_Gc (by decide +kernel) ⟨by decide +kernel, by decide +kernel, by decide +kernel, by decide +kernel⟩ (fun _ => rfl) ⟨by decide +kernel, by decide +kernel, by decide +kernel, by decide +kernel, by decide +kernel⟩ (by decide +kernel) (fun _ => rfl)
  · exact zu_Gm (fun k hk => by
      show zu_fc (zu_fa 10) (fun _ => 0) 4544 k = _
      unfold zu_fc
      rw [if_pos hk])
  · intro i hi
    show zq_ok ((0 : Int32)).toInt
    exact ⟨by decide, by decide⟩
  · exact ⟨fun _ => 0, 0, ⟨by decide, fun i hi => absurd hi (Nat.not_lt_zero i), fun _ => (by decide : (0 : Nat) < 256)⟩, by decide +kernel, by decide, by decide +kernel, fun i hi => absurd hi (Nat.not_lt_zero i), fun _ => (by decide : (0 : Nat) < 256)⟩
  · exact Or.inl ⟨by decide +kernel, by decide +kernel, by decide +kernel⟩
