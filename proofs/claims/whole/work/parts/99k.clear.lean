/-! ===== the class: a Law is cleared; which words begin clauses, are names ===== -/
theorem zz_ck_at : ∀ w, w < 44 → zz_ck.getD w 0 = (if w < 9 then nI w else -1) := by decide +kernel
theorem zz_nc_at : ∀ w, w < 44 → zz_nc.getD w 0 = (if 8 ≤ w ∧ w ≤ 16 then nI (w - 8) else -1) := by decide +kernel
theorem zz_oc_at : ∀ w, w < 44 → zz_oc.getD w 0 = (if 28 ≤ w ∧ w ≤ 33 then nI (w - 16) else if 34 ≤ w ∧ w ≤ 37 then nI (w - 27) else -1) := by decide +kernel
