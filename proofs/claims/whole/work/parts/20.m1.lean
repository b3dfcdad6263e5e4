/-! ===== the reference: its smallest methods ===== -/
def zi_in (v lo hi : Int32) : Int32 := if v < lo then 0 else if hi < v then 0 else 1
theorem c_isIn {E : zm_E} (hE : zm_ok E.2.2.1 E.2.2.2.2) (d : Nat) (v lo hi : Int32) (M : zm_M) : zm_R E (d + 1) mX12_isIn [.int v, .int lo, .int hi] M (fun r M' => r = some (.int (zi_in v lo hi)) ∧ M' = M) := by
  refine zX12_isIn hE rfl (fun G h0 h14 h15 => ?_)
  show G 0 [some (.int v), some (.int lo), some (.int hi)] [] M
  repeat' (first | (refine h0 _ _ _ ?_; simp only [bX12_isIn_0, zw_0, zw_1, zs_iloadn0, zs_iloadn1, zs_iclt, zs_iloadn2, zs_icgt, zs_iconst, zs_goto, zb_0, za_1, za_2, za_3, za_4, za_5, za_6, za_7, za_8, za_9, za_10, za_11, za_12, za_13, za_14, true_and, and_true, Nat.reduceAdd]) | (refine h14 _ _ _ ?_; simp only [bX12_isIn_14, zw_0, zw_1, zs_iconst, zb_0, za_1, za_2, za_3, za_4, za_5, za_6, za_7, za_8, za_9, za_10, za_11, za_12, za_13, za_14, true_and, and_true, Nat.reduceAdd]) | (refine h15 _ _ _ ?_; simp only [bX12_isIn_15, zw_0, zw_1, zs_ireturn, zn_int, zn_b0, zn_b1, eq_self, zb_0, za_1, za_2, za_3, za_4, za_5, za_6, za_7, za_8, za_9, za_10, za_11, za_12, za_13, za_14, true_and, and_true, Nat.reduceAdd]) | apply And.intro | intro _ | rfl)
  all_goals simp [zi_in, *]
