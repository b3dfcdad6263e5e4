/-! ===== the reference: how tightly an operation holds ===== -/
def zk_rk (c : Nat) : Nat := if 40 ≤ c then 0 else if c = 22 then 1 else if c = 21 then 2 else if c = 20 then 3 else if 10 ≤ c then 4 else if c = 5 ∨ c = 2 ∨ c = 4 then 7 else if 8 ≤ c then 6 else 5
theorem c_rank {E : zm_E} (hE : zm_ok E.2.2.1 E.2.2.2.2) (d : Nat) {c : Nat} (hc : c < 100) (M : zm_M) : zm_R E (d + 1) mX12_rank [.int (nI c)] M (fun r M' => r = some (.int (nI (zk_rk c))) ∧ M' = M) := by
  refine zX12_rank hE rfl (fun G h0 h10 h20 h30 h40 h50 h65 h70 h81 h82 => ?_)
  show G 0 [some (.int (nI c))] [] M
  have fin : ∀ x : Nat, x = zk_rk c → G 82 [some (.int (nI c))] [.int (nI x)] M := by
    intro x hx
    refine h82 _ _ _ ?_
    simp only [bX12_rank_82, zw_0, zw_1, zs_ireturn, zn_int, zn_b0, zn_b1, zb_0, za_1, za_2, za_3, za_4, za_5, za_6, za_7, za_8, za_9, za_10, za_11, za_12, za_13, za_14, true_and, and_true, Nat.reduceAdd]
    rw [hx]
  have lt : ∀ k : Nat, k < 100 → (nI c < nI k) = (c < k) := fun k hk => propext (nI_ltI (by omega) (by omega))
  have eq : ∀ k : Nat, k < 100 → (nI c = nI k) = (c = k) := fun k hk => propext (nI_eq (by omega) (by omega))
  have l40 : (nI c < 40) = (c < 40) := lt 40 (by decide)
  have l10 : (nI c < 10) = (c < 10) := lt 10 (by decide)
  have l8 : (nI c < 8) = (c < 8) := lt 8 (by decide)
  have q22 : (nI c = 22) = (c = 22) := eq 22 (by decide)
  have q21 : (nI c = 21) = (c = 21) := eq 21 (by decide)
  have q20 : (nI c = 20) = (c = 20) := eq 20 (by decide)
  have q5 : (nI c = 5) = (c = 5) := eq 5 (by decide)
  have q2 : (nI c = 2) = (c = 2) := eq 2 (by decide)
  have q4 : (nI c = 4) = (c = 4) := eq 4 (by decide)
  refine h0 _ _ _ ?_
  simp only [bX12_rank_0, zw_0, zw_1, zs_iloadn0, zs_bipush, zs_iclt, zs_iconst, zs_goto, zb_0, za_1, za_2, za_3, za_4, za_5, za_6, za_7, za_8, za_9, za_10, za_11, za_12, za_13, za_14, true_and, and_true, Nat.reduceAdd, l40]
  refine ⟨fun a40 => ?_, fun a40 => fin 0 (by unfold zk_rk; rw [if_pos (by omega)])⟩
  refine h10 _ _ _ ?_
  simp only [bX12_rank_10, zw_0, zw_1, zs_iloadn0, zs_bipush, zs_icne, zs_iconst, zs_goto, zb_0, za_1, za_2, za_3, za_4, za_5, za_6, za_7, za_8, za_9, za_10, za_11, za_12, za_13, za_14, true_and, and_true, Nat.reduceAdd, q22]
  refine ⟨fun a22 => ?_, fun a22 => fin 1 (by subst a22; rfl)⟩
  refine h20 _ _ _ ?_
  simp only [bX12_rank_20, zw_0, zw_1, zs_iloadn0, zs_bipush, zs_icne, zs_iconst, zs_goto, zb_0, za_1, za_2, za_3, za_4, za_5, za_6, za_7, za_8, za_9, za_10, za_11, za_12, za_13, za_14, true_and, and_true, Nat.reduceAdd, q21]
  refine ⟨fun a21 => ?_, fun a21 => fin 2 (by subst a21; rfl)⟩
  refine h30 _ _ _ ?_
  simp only [bX12_rank_30, zw_0, zw_1, zs_iloadn0, zs_bipush, zs_icne, zs_iconst, zs_goto, zb_0, za_1, za_2, za_3, za_4, za_5, za_6, za_7, za_8, za_9, za_10, za_11, za_12, za_13, za_14, true_and, and_true, Nat.reduceAdd, q20]
  refine ⟨fun a20 => ?_, fun a20 => fin 3 (by subst a20; rfl)⟩
  refine h40 _ _ _ ?_
  simp only [bX12_rank_40, zw_0, zw_1, zs_iloadn0, zs_bipush, zs_iclt, zs_iconst, zs_goto, zb_0, za_1, za_2, za_3, za_4, za_5, za_6, za_7, za_8, za_9, za_10, za_11, za_12, za_13, za_14, true_and, and_true, Nat.reduceAdd, l10]
  refine ⟨fun a10 => ?_, fun a10 => fin 4 (by unfold zk_rk; rw [if_neg (by omega), if_neg a22, if_neg a21, if_neg a20, if_pos (by omega)])⟩
  have seven : (c = 5 ∨ c = 2 ∨ c = 4) → G 65 [some (.int (nI c))] [] M := by
    intro h
    refine h65 _ _ _ ?_
    simp only [bX12_rank_65, zw_0, zw_1, zs_bipush, zs_goto, zb_0, za_1, za_2, za_3, za_4, za_5, za_6, za_7, za_8, za_9, za_10, za_11, za_12, za_13, za_14, true_and, and_true, Nat.reduceAdd]
    exact fin 7 (by unfold zk_rk; rw [if_neg (by omega), if_neg a22, if_neg a21, if_neg a20, if_neg (by omega), if_pos h])
  refine h50 _ _ _ ?_
  simp only [bX12_rank_50, zw_0, zw_1, zs_iloadn0, zs_iconst, zs_iceq, zs_icne, zb_0, za_1, za_2, za_3, za_4, za_5, za_6, za_7, za_8, za_9, za_10, za_11, za_12, za_13, za_14, true_and, and_true, Nat.reduceAdd, q5, q2, q4]
  refine ⟨fun a => seven (Or.inl a), fun a5 => ⟨fun a => seven (Or.inr (Or.inl a)), fun a2 => ⟨fun a4 => ?_, fun a => seven (Or.inr (Or.inr a))⟩⟩⟩
  have n7 : ¬ (c = 5 ∨ c = 2 ∨ c = 4) := fun z => z.elim a5 (fun z => z.elim a2 a4)
  refine h70 _ _ _ ?_
  simp only [bX12_rank_70, zw_0, zw_1, zs_iloadn0, zs_bipush, zs_iclt, zs_goto, zb_0, za_1, za_2, za_3, za_4, za_5, za_6, za_7, za_8, za_9, za_10, za_11, za_12, za_13, za_14, true_and, and_true, Nat.reduceAdd, l8]
  refine ⟨fun a8 => ?_, fun a8 => fin 6 (by unfold zk_rk; rw [if_neg (by omega), if_neg a22, if_neg a21, if_neg a20, if_neg (by omega), if_neg n7, if_pos (by omega)])⟩
  refine h81 _ _ _ ?_
  simp only [bX12_rank_81, zw_0, zw_1, zs_iconst, zb_0, za_1, za_2, za_3, za_4, za_5, za_6, za_7, za_8, za_9, za_10, za_11, za_12, za_13, za_14, true_and, and_true, Nat.reduceAdd]
  exact fin 5 (by unfold zk_rk; rw [if_neg (by omega), if_neg a22, if_neg a21, if_neg a20, if_neg (by omega), if_neg n7, if_neg (by omega)])
