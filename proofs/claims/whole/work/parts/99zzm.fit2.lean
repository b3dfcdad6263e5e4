/-! ===== all cells fit ===== -/
def zu_ad (b : Nat) (w : Nat → Nat) (wa p : Nat) : Nat := if p < 15 then b + 751 + p else if p < 766 then b + (p - 15) else if 1000 ≤ p ∧ p < 1044 then w (p - 1000) else if p = 1100 then wa else b + 766 + p
theorem zu_ad_c {b : Nat} {w : Nat → Nat} {wa p : Nat} (h1 : 15 ≤ p) (h2 : p < 766) : zu_ad b w wa p = b + (p - 15) := by
  unfold zu_ad
  rw [if_neg (by omega), if_pos h2]
theorem zu_ad_m {b : Nat} {w : Nat → Nat} {wa p : Nat} (h1 : p < 15) : zu_ad b w wa p = b + 751 + p := by
  unfold zu_ad
  rw [if_pos h1]
theorem zu_ad_w {b : Nat} {w : Nat → Nat} {wa i : Nat} (h1 : i < 44) : zu_ad b w wa (1000 + i) = w i := by
  unfold zu_ad
  rw [if_neg (by omega), if_neg (by omega), if_pos (by omega), Nat.add_sub_cancel_left]
theorem zu_ad_a {b : Nat} {w : Nat → Nat} {wa : Nat} : zu_ad b w wa 1100 = wa := by
  unfold zu_ad
  rw [if_neg (by omega), if_neg (by omega), if_neg (by omega), if_pos rfl]
theorem zu_ad_ok {b : Nat} {w : Nat → Nat} {wa : Nat} (hw : ∀ i, i < 44 → w i < b) (hi : ∀ i j, i < 44 → j < 44 → w i = w j → i = j) (ha : wa < b) (hn : ∀ i, i < 44 → w i ≠ wa) : zm_ok (zu_ad b w wa) (fun q => b ≤ q) := by
  refine ⟨fun i j h => ?_, fun p hp => ?_⟩
  · have ci : i < 15 ∨ (15 ≤ i ∧ i < 766) ∨ (∃ x, x < 44 ∧ i = 1000 + x) ∨ i = 1100 ∨ (766 ≤ i ∧ ¬ (1000 ≤ i ∧ i < 1044) ∧ i ≠ 1100) := by
      by_cases h1 : 1000 ≤ i ∧ i < 1044
      · exact Or.inr (Or.inr (Or.inl ⟨i - 1000, by omega, by omega⟩))
      · omega
    have cj : j < 15 ∨ (15 ≤ j ∧ j < 766) ∨ (∃ x, x < 44 ∧ j = 1000 + x) ∨ j = 1100 ∨ (766 ≤ j ∧ ¬ (1000 ≤ j ∧ j < 1044) ∧ j ≠ 1100) := by
      by_cases h1 : 1000 ≤ j ∧ j < 1044
      · exact Or.inr (Or.inr (Or.inl ⟨j - 1000, by omega, by omega⟩))
      · omega
    have ot : ∀ q, 766 ≤ q → ¬ (1000 ≤ q ∧ q < 1044) → q ≠ 1100 → zu_ad b w wa q = b + 766 + q := fun q h1 h2 h3 => by
      unfold zu_ad
      rw [if_neg (by omega), if_neg (by omega), if_neg h2, if_neg h3]
    rcases ci with ci | ci | ⟨x, hx, rfl⟩ | rfl | ci
    · rw [zu_ad_m ci] at h
      rcases cj with cj | cj | ⟨y, hy, rfl⟩ | rfl | cj
      · rw [zu_ad_m cj] at h; omega
      · rw [zu_ad_c cj.1 cj.2] at h; omega
      · rw [zu_ad_w hy] at h; have := hw y hy; omega
      · rw [zu_ad_a] at h; omega
      · rw [ot j cj.1 cj.2.1 cj.2.2] at h; omega
    · rw [zu_ad_c ci.1 ci.2] at h
      rcases cj with cj | cj | ⟨y, hy, rfl⟩ | rfl | cj
      · rw [zu_ad_m cj] at h; omega
      · rw [zu_ad_c cj.1 cj.2] at h; omega
      · rw [zu_ad_w hy] at h; have := hw y hy; omega
      · rw [zu_ad_a] at h; omega
      · rw [ot j cj.1 cj.2.1 cj.2.2] at h; omega
    · rw [zu_ad_w hx] at h
      have hx2 := hw x hx
      rcases cj with cj | cj | ⟨y, hy, rfl⟩ | rfl | cj
      · rw [zu_ad_m cj] at h; omega
      · rw [zu_ad_c cj.1 cj.2] at h; omega
      · rw [zu_ad_w hy] at h; rw [hi x y hx hy h]
      · rw [zu_ad_a] at h; exact absurd h (hn x hx)
      · rw [ot j cj.1 cj.2.1 cj.2.2] at h; omega
    · rw [zu_ad_a] at h
      rcases cj with cj | cj | ⟨y, hy, rfl⟩ | rfl | cj
      · rw [zu_ad_m cj] at h; omega
      · rw [zu_ad_c cj.1 cj.2] at h; omega
      · rw [zu_ad_w hy] at h; exact absurd h.symm (hn y hy)
      · rfl
      · rw [ot j cj.1 cj.2.1 cj.2.2] at h; omega
    · rw [ot i ci.1 ci.2.1 ci.2.2] at h
      rcases cj with cj | cj | ⟨y, hy, rfl⟩ | rfl | cj
      · rw [zu_ad_m cj] at h; omega
      · rw [zu_ad_c cj.1 cj.2] at h; omega
      · rw [zu_ad_w hy] at h; have := hw y hy; omega
      · rw [zu_ad_a] at h; omega
      · rw [ot j cj.1 cj.2.1 cj.2.2] at h; omega
  · show b ≤ zu_ad b w wa p
    have hp : p < 766 := hp
    by_cases h1 : p < 15
    · rw [zu_ad_m h1]; omega
    · rw [zu_ad_c (by omega) hp]; omega
section ZV
variable {b wa : Nat} {w : Nat → Nat} {cA : Nat → ClassId}
theorem zv_x1 : zv_L (zu_ad b w wa) cA (zu_x1 cA (w 43) b) 15 1 := zv_re (zv_t6 (P := 16) (Or.inl rfl) (fun o ho => by rw [zu_ad_c (by omega) (by omega)]; omega)) rfl
theorem zv_x2 : zv_L (zu_ad b w wa) cA (zu_x2 cA (w 43) b) 15 1 := zv_app zv_x1 (zu_x1_len _ _ _) (zv_re (zv_t6 (P := 377) (Or.inr rfl) (fun o ho => by rw [zu_ad_c (by omega) (by omega)]; omega)) rfl)
theorem zv_ly738 : ∀ o, o < 10 → zy_ly (738 + o) = zy_lw.getD o (999, 0) := by decide +kernel
theorem zv_x3 : zv_L (zu_ad b w wa) cA (zu_x3 cA (w 43) b) 15 1 := zv_app zv_x2 (zu_x2_len _ _ _) (zv_re (zv_t10 (q := 738) zv_ly738 ⟨by omega, by omega, by omega⟩ (fun o ho => by rw [zu_ad_c (by omega) (by omega)]; omega)) rfl)
theorem zv_x4 : zv_L (zu_ad b w wa) cA (zu_x4 cA (w 43) b) 15 1 := zv_app zv_x3 (zu_x3_len _ _ _) (zv_cons (k := 733) (zv_eq rfl) (zv_cons (k := 734) (zv_eq rfl) (zv_cons (k := 735) (zv_eq rfl) zv_nil)))
theorem zv_x5 : zv_L (zu_ad b w wa) cA (zu_x5 cA (w 43) b) 15 1 := zv_app zv_x4 (zu_x4_len _ _ _) (zv_cons (k := 736) (zv_eq rfl) zv_nil)
theorem zv_x6 : zv_L (zu_ad b w wa) cA (zu_x6 cA (w 43) b) 15 1 := zv_app zv_x5 (zu_x5_len _ _ _) (zv_cons (k := 737) (zv_eq rfl) (zv_cons (k := 738) (zv_eq rfl) (zv_cons (k := 739) (zv_eq rfl) (zv_cons (k := 740) (zv_eq rfl) (zv_cons (k := 741) (zv_eq rfl) zv_nil)))))
theorem zv_x7 : zv_L (zu_ad b w wa) cA (zu_x7 cA (w 43) b) 15 1 := zv_app zv_x6 (zu_x6_len _ _ _) (zv_cons (k := 742) (zv_eq rfl) (zv_cons (k := 743) (zv_eq rfl) (zv_cons (k := 744) (zv_eq rfl) (zv_cons (k := 745) (zv_eq rfl) zv_nil))))
theorem zv_x8 : zv_L (zu_ad b w wa) cA (zu_x8 cA (w 43) b) 15 1 := zv_app zv_x7 (zu_x7_len _ _ _) (zv_cons (k := 746) (zv_eq rfl) (zv_cons (k := 747) (zv_eq rfl) (zv_cons (k := 748) (zv_eq rfl) (zv_cons (k := 749) (zv_eq rfl) zv_nil))))
theorem zv_x9 : zv_L (zu_ad b w wa) cA (zu_x9 cA (w 43) b) 15 1 := zv_app zv_x8 (zu_x8_len _ _ _) (zv_cons (k := 750) (zv_eq rfl) zv_nil)
theorem zv_t11 : zv_L (zu_ad b w wa) cA (zu_t11 cA (w 43) b) 15 0 := zv_cons (k := 0) (zv_eq rfl) zv_x9
theorem zv_t12 : zv_L (zu_ad b w wa) cA (zu_t12 cA (b + 751)) 0 0 := zv_cons (k := 0) (zv_eq rfl) (zv_cons (k := 1) (zv_eq rfl) (zv_cons (k := 2) (zv_eq rfl) (zv_cons (k := 3) (zv_eq rfl) (zv_cons (k := 4) (zv_eq rfl) (zv_cons (k := 5) (zv_eq rfl) (zv_cons (k := 6) (zv_eq rfl) (zv_cons (k := 7) (zv_eq rfl) (zv_cons (k := 8) (zv_eq rfl) (zv_cons (k := 9) (zv_eq rfl) (zv_cons (k := 10) (zv_eq rfl) (zv_cons (k := 11) (zv_eq rfl) (zv_cons (k := 12) (zv_eq rfl) (zv_cons (k := 13) (zv_eq rfl) (zv_cons (k := 14) (zv_eq rfl) zv_nil))))))))))))))
theorem zu_t12_len (h : Nat) : (zu_t12 cA h).length = 15 := rfl
theorem zv_all {D : va_G} {H : Heap} (hP : zc_P D b (zu_t11 cA (w 43) b ++ zu_t12 cA (b + 751)) H) : va_P D zy_cl (zm_ws (zu_ad b w wa) cA zu_M) H := by
  intro k q hq
  obtain ⟨hk, rfl⟩ := zm_lt hq
  have hk : k < 766 := hk
  have l11 := zu_t11_len cA (w 43) b
  have l12 := zu_t12_len (cA := cA) (b + 751)
  by_cases h1 : k < 15
  · have hx : (zu_t12 cA (b + 751))[k]? = some ((zu_t12 cA (b + 751))[k]'(by omega)) := List.getElem?_eq_getElem (by omega)
    have h3 := zc_P_at hP (k := 751 + k) (by rw [List.getElem?_append_right (by omega), show 751 + k - (zu_t11 cA (w 43) b).length = k by omega]; exact hx)
    have h4 := zv_t12 (b := b) (w := w) (wa := wa) (cA := cA) k _ hx D _ H h3
    rw [show 0 + (0 + k) = k by omega] at h4
    rw [zu_ad_m h1, Nat.add_assoc]
    exact h4
  · have hx : (zu_t11 cA (w 43) b)[k - 15]? = some ((zu_t11 cA (w 43) b)[k - 15]'(by omega)) := List.getElem?_eq_getElem (by omega)
    have h3 := zc_P_at hP (k := k - 15) (by rw [List.getElem?_append_left (by omega)]; exact hx)
    have h4 := zv_t11 (b := b) (w := w) (wa := wa) (cA := cA) (k - 15) _ hx D _ H h3
    rw [show 15 + (0 + (k - 15)) = k by omega] at h4
    rw [zu_ad_c (by omega) hk]
    exact h4
end ZV
