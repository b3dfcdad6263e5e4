/-! ===== printed: the cells that are made are those of the first memory ===== -/
def zv_E (e e2 : va_E) : Prop := ∀ (D : va_G) (a : Nat) (H : Heap), va_at D zy_cl (a, e) H → va_at D zy_cl (a, e2) H
theorem zv_eq {e e2 : va_E} (h : e2 = e) : zv_E e e2 := fun D a H h2 => by rw [h]; exact h2
def zv_L (ad : Nat → Nat) (cA : Nat → ClassId) (L : List va_E) (p k : Nat) : Prop := ∀ (o : Nat) (e : va_E), L[o]? = some e → zv_E e (zm_cell ad cA zu_M (p + (k + o)))
theorem zv_nil {ad : Nat → Nat} {cA : Nat → ClassId} {p k : Nat} : zv_L ad cA [] p k := fun o e he => by cases he
theorem zv_cons {ad : Nat → Nat} {cA : Nat → ClassId} {p k : Nat} {e : va_E} {L : List va_E} (h1 : zv_E e (zm_cell ad cA zu_M (p + k))) (h2 : zv_L ad cA L p (k + 1)) : zv_L ad cA (e :: L) p k := by
  intro o e2 he
  cases o with
  | zero =>
    cases he
    exact h1
  | succ o =>
    have h3 := h2 o e2 he
    rw [show k + 1 + o = k + (o + 1) by omega] at h3
    exact h3
theorem zv_app {ad : Nat → Nat} {cA : Nat → ClassId} {p k n : Nat} {L L2 : List va_E} (h1 : zv_L ad cA L p k) (hn : L.length = n) (h2 : zv_L ad cA L2 p (k + n)) : zv_L ad cA (L ++ L2) p k := by
  intro o e he
  by_cases hl : o < L.length
  · rw [List.getElem?_append_left hl] at he
    exact h1 o e he
  · rw [List.getElem?_append_right (by omega)] at he
    have h3 := h2 _ e he
    rw [show k + n + (o - L.length) = k + o by omega] at h3
    exact h3
theorem zv_re {ad : Nat → Nat} {cA : Nat → ClassId} {p k p2 : Nat} {L : List va_E} (h : zv_L ad cA L p2 0) (e : p2 = p + k) : zv_L ad cA L p k := by
  intro o x hx
  have h3 := h o x hx
  rw [e, show p + k + (0 + o) = p + (k + o) by omega] at h3
  exact h3
theorem zv_I0 {q : Nat} (hq : 17 ≤ q ∧ q ≠ 377 ∧ q ≠ 761) (hl : (zy_ly q).1 ≠ 10) : zu_I q = fun _ => 0 := by
  unfold zu_I
  rw [if_neg (by omega), if_neg (by omega), if_neg (by omega), if_neg (by omega), if_neg (by omega), if_neg (by omega), if_neg hl]
theorem zv_Iw {q : Nat} (hq : 17 ≤ q ∧ q ≠ 377 ∧ q ≠ 761) (hl : (zy_ly q).1 = 10) : zu_I q = fun k => if k = 1 then 181 else 0 := by
  unfold zu_I
  rw [if_neg (by omega), if_neg (by omega), if_neg (by omega), if_neg (by omega), if_neg (by omega), if_neg (by omega), if_pos hl]
theorem zv_arr {ad : Nat → Nat} {cA : Nat → ClassId} {q n : Nat} (hq : 17 ≤ q ∧ q ≠ 377 ∧ q ≠ 761) (hl : zy_ly q = (100, n)) : zv_E (.inl (cA 0, n, .inl (fun _ => 0))) (zm_cell ad cA zu_M q) := by
  refine zv_eq ?_
  have hI := zv_I0 hq (by rw [hl]; exact fun z => by cases z)
  unfold zm_cell
  rw [hl]
  show (Sum.inl (cA 0, n, Sum.inl (zu_I q)) : va_E) = _
  rw [hI]
theorem zv_char {ad : Nat → Nat} {cA : Nat → ClassId} {q n : Nat} (hq : 17 ≤ q ∧ q ≠ 377 ∧ q ≠ 761) (hl : zy_ly q = (101, n)) : zv_E (.inl (cA 1, n, .inl (fun _ => 0))) (zm_cell ad cA zu_M q) := by
  refine zv_eq ?_
  have hI := zv_I0 hq (by rw [hl]; exact fun z => by cases z)
  unfold zm_cell
  rw [hl]
  show (Sum.inl (cA 1, n, Sum.inl (zu_I q)) : va_E) = _
  rw [hI]
theorem zv_arrV {cA : ClassId} {n : Nat} {f g : Nat → Value} (h : ∀ j, j < n → f j = g j) : arrV cA n f = arrV cA n g := by
  unfold arrV
  congr 1
  apply Array.ext
  · simp
  · intro i h1 h2
    simp only [Array.getElem_ofFn, Array.getElem_map, Array.getElem_range]
    exact h i (by simpa using h1)
theorem zm_cell_ar' {ad : Nat → Nat} {cA : Nat → ClassId} {M : zm_M} {p t n : Nat} (h2 : zy_ly p = (100 + t, n)) : zm_cell ad cA M p = .inl (cA t, n, zm_ct ad M p t) := by
  unfold zm_cell
  rw [h2]
  have h3 : ¬ (100 + t < 100) := by omega
  have h4 : 100 + t - 100 = t := by omega
  simp only [h3, if_false, h4]
theorem zv_refs {ad : Nat → Nat} {cA : Nat → ClassId} {q n t : Nat} {f : Nat → Option Nat} (ht : t = 4 ∨ t = 5) (hl : zy_ly q = (100 + t, n)) (hf : ∀ i, i < n → f i = some (ad (zy_el t q i))) : zv_E (.inl (cA t, n, .inr (.inr (.inr (.inr f))))) (zm_cell ad cA zu_M q) := by
  have e : zm_cell ad cA zu_M q = .inl (cA t, n, .inr (.inr (.inr (.inr (fun i => some (ad (zy_el t q i))))))) := by
    rw [zm_cell_ar' hl]
    rcases ht with rfl | rfl <;> rfl
  rw [e]
  intro D a H h
  show H[a]? = some (vp_cell _ _)
  have h2 : H[a]? = some (vp_cell _ _) := h
  rw [h2, vp_cell_q, vp_cell_q]
  congr 1
  exact zv_arrV (fun j hj => by rw [hf j hj])
theorem zu_ly {P r : Nat} (hP : P = 16 ∨ P = 377) (hr : r < 361) : zy_ly (P + r) = zy_sv r := by
  unfold zy_ly
  rcases hP with rfl | rfl
  · rw [if_neg (by omega), if_pos (by omega), show 16 + r - 16 = r by omega, Nat.mod_eq_of_lt hr]
  · rw [if_neg (by omega), if_pos (by omega), show 377 + r - 16 = r + 361 by omega, Nat.add_mod_right, Nat.mod_eq_of_lt hr]
theorem zu_svl {i j : Nat} (hi : i < 4) (hj : j < 9) : zy_sv (25 + 9 * i + j) = zy_ll.getD j (999, 0) := by
  unfold zy_sv
  rw [if_neg (by omega), if_pos (by omega), show (25 + 9 * i + j - 25) % 9 = j by omega]
theorem zu_svw {i j : Nat} (hj : j < 10) : zy_sv (61 + 10 * i + j) = zy_lw.getD j (999, 0) := by
  unfold zy_sv
  rw [if_neg (by omega), if_neg (by omega), show (61 + 10 * i + j - 61) % 10 = j by omega]
theorem zv_o10 {ad : Nat → Nat} {cA : Nat → ClassId} {q a : Nat} (hl : zy_ly q = (10, 13)) (hI : zu_I q = fun k => if k = 1 then 181 else 0) (had : ∀ o, o < 10 → ad (q + o) = a + o) : zv_E (.inr (10, [.int 0, .int 181, .int 0, .ref (a + 1), .ref (a + 2), .ref (a + 3), .ref (a + 4), .ref (a + 5), .ref (a + 6), .ref (a + 7), .ref (a + 8), .int 0, .ref (a + 9)])) (zm_cell ad cA zu_M q) := by
  refine zv_eq ?_
  unfold zm_cell
  rw [hl]
  show (Sum.inr (10, [.int (zu_I q 0), .int (zu_I q 1), .int (zu_I q 2), .ref (ad (q + 1)), .ref (ad (q + 2)), .ref (ad (q + 3)), .ref (ad (q + 4)), .ref (ad (q + 5)), .ref (ad (q + 6)), .ref (ad (q + 7)), .ref (ad (q + 8)), .int (zu_I q 11), .ref (ad (q + 9))]) : va_E) = _
  rw [hI, had 1 (by decide), had 2 (by decide), had 3 (by decide), had 4 (by decide), had 5 (by decide), had 6 (by decide), had 7 (by decide), had 8 (by decide), had 9 (by decide)]
  rfl
theorem zv_o1 {ad : Nat → Nat} {cA : Nat → ClassId} {q a : Nat} (hl : zy_ly q = (1, 10)) (hI : zu_I q = fun _ => 0) (had : ∀ o, o < 9 → ad (q + o) = a + o) : zv_E (.inr (1, [.int 0, .ref (a + 1), .ref (a + 2), .ref (a + 3), .ref (a + 4), .ref (a + 5), .ref (a + 6), .int 0, .ref (a + 7), .ref (a + 8)])) (zm_cell ad cA zu_M q) := by
  refine zv_eq ?_
  unfold zm_cell
  rw [hl]
  show (Sum.inr (1, [.int (zu_I q 0), .ref (ad (q + 1)), .ref (ad (q + 2)), .ref (ad (q + 3)), .ref (ad (q + 4)), .ref (ad (q + 5)), .ref (ad (q + 6)), .int (zu_I q 7), .ref (ad (q + 7)), .ref (ad (q + 8))]) : va_E) = _
  rw [hI, had 1 (by decide), had 2 (by decide), had 3 (by decide), had 4 (by decide), had 5 (by decide), had 6 (by decide), had 7 (by decide), had 8 (by decide)]
theorem zv_o7 {ad : Nat → Nat} {cA : Nat → ClassId} {q a : Nat} (hl : zy_ly q = (7, 6)) (hI : zu_I q = fun _ => 0) (had : ∀ o, o < 6 → ad (q + o) = a + o) : zv_E (.inr (7, [.int 0, .ref (a + 1), .ref (a + 2), .ref (a + 3), .ref (a + 4), .ref (a + 5)])) (zm_cell ad cA zu_M q) := by
  refine zv_eq ?_
  unfold zm_cell
  rw [hl]
  show (Sum.inr (7, [.int (zu_I q 0), .ref (ad (q + 1)), .ref (ad (q + 2)), .ref (ad (q + 3)), .ref (ad (q + 4)), .ref (ad (q + 5))]) : va_E) = _
  rw [hI, had 1 (by decide), had 2 (by decide), had 3 (by decide), had 4 (by decide), had 5 (by decide)]
theorem zv_o4 {ad : Nat → Nat} {cA : Nat → ClassId} {q a : Nat} (hl : zy_ly q = (4, 4)) (hI : zu_I q = fun _ => 0) (had : ∀ o, o < 3 → ad (q + o) = a + o) : zv_E (.inr (4, [.int 0, .int 0, .ref (a + 1), .ref (a + 2)])) (zm_cell ad cA zu_M q) := by
  refine zv_eq ?_
  unfold zm_cell
  rw [hl]
  show (Sum.inr (4, [.int (zu_I q 0), .int (zu_I q 1), .ref (ad (q + 1)), .ref (ad (q + 2))]) : va_E) = _
  rw [hI, had 1 (by decide), had 2 (by decide)]
theorem zv_t10 {ad : Nat → Nat} {cA : Nat → ClassId} {q a : Nat} (hly : ∀ o, o < 10 → zy_ly (q + o) = zy_lw.getD o (999, 0)) (hq : 17 ≤ q ∧ (q + 10 ≤ 377 ∨ 377 < q) ∧ (q + 10 ≤ 761 ∨ 761 < q)) (had : ∀ o, o < 10 → ad (q + o) = a + o) : zv_L ad cA (zu_t10 cA a) q 0 := by
  have h0 : zy_ly q = (10, 13) := (hly 0 (by decide)).trans rfl
  exact (zv_cons (k := 0) (zv_o10 (q := q) h0 (zv_Iw ⟨by omega, by omega, by omega⟩ (by rw [h0])) had) (zv_cons (k := 1) (zv_arr (q := q + 1) ⟨by omega, by omega, by omega⟩ ((hly 1 (by decide)).trans rfl)) (zv_cons (k := 2) (zv_arr (q := q + 2) ⟨by omega, by omega, by omega⟩ ((hly 2 (by decide)).trans rfl)) (zv_cons (k := 3) (zv_arr (q := q + 3) ⟨by omega, by omega, by omega⟩ ((hly 3 (by decide)).trans rfl)) (zv_cons (k := 4) (zv_arr (q := q + 4) ⟨by omega, by omega, by omega⟩ ((hly 4 (by decide)).trans rfl)) (zv_cons (k := 5) (zv_arr (q := q + 5) ⟨by omega, by omega, by omega⟩ ((hly 5 (by decide)).trans rfl)) (zv_cons (k := 6) (zv_arr (q := q + 6) ⟨by omega, by omega, by omega⟩ ((hly 6 (by decide)).trans rfl)) (zv_cons (k := 7) (zv_arr (q := q + 7) ⟨by omega, by omega, by omega⟩ ((hly 7 (by decide)).trans rfl)) (zv_cons (k := 8) (zv_arr (q := q + 8) ⟨by omega, by omega, by omega⟩ ((hly 8 (by decide)).trans rfl)) (zv_cons (k := 9) (zv_arr (q := q + 9) ⟨by omega, by omega, by omega⟩ ((hly 9 (by decide)).trans rfl)) zv_nil))))))))))
theorem zv_t1 {ad : Nat → Nat} {cA : Nat → ClassId} {q a : Nat} (hly : ∀ o, o < 9 → zy_ly (q + o) = zy_ll.getD o (999, 0)) (hq : 17 ≤ q ∧ (q + 9 ≤ 377 ∨ 377 < q) ∧ (q + 9 ≤ 761 ∨ 761 < q)) (had : ∀ o, o < 9 → ad (q + o) = a + o) : zv_L ad cA (zu_t1 cA a) q 0 := by
  have h0 : zy_ly q = (1, 10) := (hly 0 (by decide)).trans rfl
  exact (zv_cons (k := 0) (zv_o1 (q := q) h0 (zv_I0 ⟨by omega, by omega, by omega⟩ (by rw [h0]; decide)) had) (zv_cons (k := 1) (zv_arr (q := q + 1) ⟨by omega, by omega, by omega⟩ ((hly 1 (by decide)).trans rfl)) (zv_cons (k := 2) (zv_arr (q := q + 2) ⟨by omega, by omega, by omega⟩ ((hly 2 (by decide)).trans rfl)) (zv_cons (k := 3) (zv_arr (q := q + 3) ⟨by omega, by omega, by omega⟩ ((hly 3 (by decide)).trans rfl)) (zv_cons (k := 4) (zv_arr (q := q + 4) ⟨by omega, by omega, by omega⟩ ((hly 4 (by decide)).trans rfl)) (zv_cons (k := 5) (zv_arr (q := q + 5) ⟨by omega, by omega, by omega⟩ ((hly 5 (by decide)).trans rfl)) (zv_cons (k := 6) (zv_arr (q := q + 6) ⟨by omega, by omega, by omega⟩ ((hly 6 (by decide)).trans rfl)) (zv_cons (k := 7) (zv_arr (q := q + 7) ⟨by omega, by omega, by omega⟩ ((hly 7 (by decide)).trans rfl)) (zv_cons (k := 8) (zv_arr (q := q + 8) ⟨by omega, by omega, by omega⟩ ((hly 8 (by decide)).trans rfl)) zv_nil)))))))))
theorem zv_o6 {ad : Nat → Nat} {cA : Nat → ClassId} {q a : Nat} (hl : zy_ly q = (6, 13)) (hI : zu_I q = fun k => if k = 7 then -1 else 0) (had : ∀ o, o < 361 → ad (q + o) = a + o) : zv_E (.inr (6, [.ref (a + 1), .ref (a + 7), .ref (a + 17), .int 0, .int 0, .ref (a + 18), .int 0, .int (-1), .ref (a + 19), .ref (a + 22), .int 0, .ref (a + 23), .ref (a + 24)])) (zm_cell ad cA zu_M q) := by
  refine zv_eq ?_
  unfold zm_cell
  rw [hl]
  show (Sum.inr (6, [.ref (ad (q + 1)), .ref (ad (q + 7)), .ref (ad (q + 17)), .int (zu_I q 3), .int (zu_I q 4), .ref (ad (q + 18)), .int (zu_I q 6), .int (zu_I q 7), .ref (ad (q + 19)), .ref (ad (q + 22)), .int (zu_I q 10), .ref (ad (q + 23)), .ref (ad (q + 24))]) : va_E) = _
  rw [hI, had 1 (by decide), had 7 (by decide), had 17 (by decide), had 18 (by decide), had 19 (by decide), had 22 (by decide), had 23 (by decide), had 24 (by decide)]
  rfl
theorem zv_t6 {ad : Nat → Nat} {cA : Nat → ClassId} {P a : Nat} (hP : P = 16 ∨ P = 377) (had : ∀ o, o < 361 → ad (P + o) = a + o) : zv_L ad cA (zu_t6 cA a) P 0 := by
  have hl : ∀ r, r < 361 → zy_ly (P + r) = zy_sv r := fun r hr => zu_ly hP hr
  have hI6 : zu_I P = fun k => if k = 7 then -1 else 0 := by rcases hP with rfl | rfl <;> rfl
  have h17 : 16 ≤ P ∧ (P + 361 ≤ 377 ∨ 377 ≤ P) ∧ P + 361 ≤ 738 := by omega
  have s25 : zv_L ad cA (zu_s25 cA (zu_f a 61 10 30) (zu_f a 25 9 4) a) P 0 := (zv_cons (k := 0) (zv_o6 ((hl 0 (by decide)).trans rfl) hI6 had) (zv_cons (k := 1) (zv_o7 (q := P + 1) (a := a + 1) ((hl 1 (by decide)).trans rfl) (zv_I0 ⟨by omega, by omega, by omega⟩ (by rw [hl 1 (by decide)]; decide)) (fun o ho => by rw [Nat.add_assoc, had (1 + o) (by omega)]; omega)) (zv_cons (k := 2) (zv_arr (q := P + 2) ⟨by omega, by omega, by omega⟩ ((hl 2 (by decide)).trans rfl)) (zv_cons (k := 3) (zv_arr (q := P + 3) ⟨by omega, by omega, by omega⟩ ((hl 3 (by decide)).trans rfl)) (zv_cons (k := 4) (zv_arr (q := P + 4) ⟨by omega, by omega, by omega⟩ ((hl 4 (by decide)).trans rfl)) (zv_cons (k := 5) (zv_arr (q := P + 5) ⟨by omega, by omega, by omega⟩ ((hl 5 (by decide)).trans rfl)) (zv_cons (k := 6) (zv_arr (q := P + 6) ⟨by omega, by omega, by omega⟩ ((hl 6 (by decide)).trans rfl)) (zv_cons (k := 7) (zv_o10 (q := P + 7) (a := a + 7) ((hl 7 (by decide)).trans rfl) (zv_Iw ⟨by omega, by omega, by omega⟩ (by rw [hl 7 (by decide)]; rfl)) (fun o ho => by rw [Nat.add_assoc, had (7 + o) (by omega)]; omega)) (zv_cons (k := 8) (zv_arr (q := P + 8) ⟨by omega, by omega, by omega⟩ ((hl 8 (by decide)).trans rfl)) (zv_cons (k := 9) (zv_arr (q := P + 9) ⟨by omega, by omega, by omega⟩ ((hl 9 (by decide)).trans rfl)) (zv_cons (k := 10) (zv_arr (q := P + 10) ⟨by omega, by omega, by omega⟩ ((hl 10 (by decide)).trans rfl)) (zv_cons (k := 11) (zv_arr (q := P + 11) ⟨by omega, by omega, by omega⟩ ((hl 11 (by decide)).trans rfl)) (zv_cons (k := 12) (zv_arr (q := P + 12) ⟨by omega, by omega, by omega⟩ ((hl 12 (by decide)).trans rfl)) (zv_cons (k := 13) (zv_arr (q := P + 13) ⟨by omega, by omega, by omega⟩ ((hl 13 (by decide)).trans rfl)) (zv_cons (k := 14) (zv_arr (q := P + 14) ⟨by omega, by omega, by omega⟩ ((hl 14 (by decide)).trans rfl)) (zv_cons (k := 15) (zv_arr (q := P + 15) ⟨by omega, by omega, by omega⟩ ((hl 15 (by decide)).trans rfl)) (zv_cons (k := 16) (zv_arr (q := P + 16) ⟨by omega, by omega, by omega⟩ ((hl 16 (by decide)).trans rfl)) (zv_cons (k := 17) (zv_refs (t := 4) (q := P + 17) (Or.inl rfl) ((hl 17 (by decide)).trans rfl) (fun i hi => by unfold zu_f zy_el; rw [if_pos hi, if_pos rfl, show P + 17 + 44 + 10 * i = P + (61 + 10 * i) by omega, had _ (by omega)])) (zv_cons (k := 18) (zv_refs (t := 5) (q := P + 18) (Or.inr rfl) ((hl 18 (by decide)).trans rfl) (fun i hi => by unfold zu_f zy_el; rw [if_pos hi, if_neg (by decide), show P + 18 + 7 + 9 * i = P + (25 + 9 * i) by omega, had _ (by omega)])) (zv_cons (k := 19) (zv_o4 (q := P + 19) (a := a + 19) ((hl 19 (by decide)).trans rfl) (zv_I0 ⟨by omega, by omega, by omega⟩ (by rw [hl 19 (by decide)]; decide)) (fun o ho => by rw [Nat.add_assoc, had (19 + o) (by omega)]; omega)) (zv_cons (k := 20) (zv_arr (q := P + 20) ⟨by omega, by omega, by omega⟩ ((hl 20 (by decide)).trans rfl)) (zv_cons (k := 21) (zv_arr (q := P + 21) ⟨by omega, by omega, by omega⟩ ((hl 21 (by decide)).trans rfl)) (zv_cons (k := 22) (zv_arr (q := P + 22) ⟨by omega, by omega, by omega⟩ ((hl 22 (by decide)).trans rfl)) (zv_cons (k := 23) (zv_arr (q := P + 23) ⟨by omega, by omega, by omega⟩ ((hl 23 (by decide)).trans rfl)) (zv_cons (k := 24) (zv_arr (q := P + 24) ⟨by omega, by omega, by omega⟩ ((hl 24 (by decide)).trans rfl)) zv_nil)))))))))))))))))))))))))
  have lw : ∀ i, i ≤ 4 → zv_L ad cA (zu_laws cA a i) P 25 := by
    intro i
    induction i with
    | zero => intro _; exact zv_nil
    | succ i ih =>
      intro hi
      refine zv_app (ih (by omega)) (zu_laws_len cA a i) ?_
      refine zv_re (zv_t1 (q := P + (25 + 9 * i)) (a := a + (25 + 9 * i)) (fun o ho => ?_) ⟨by omega, by omega, by omega⟩ (fun o ho => ?_)) (by omega)
      · rw [Nat.add_assoc, hl _ (by omega), zu_svl (by omega) ho]
      · rw [Nat.add_assoc, had _ (by omega)]
        omega
  have wl : ∀ i, i ≤ 30 → zv_L ad cA (zu_wlds cA a i) P 61 := by
    intro i
    induction i with
    | zero => intro _; exact zv_nil
    | succ i ih =>
      intro hi
      refine zv_app (ih (by omega)) (zu_wlds_len cA a i) ?_
      refine zv_re (zv_t10 (q := P + (61 + 10 * i)) (a := a + (61 + 10 * i)) (fun o ho => ?_) ⟨by omega, by omega, by omega⟩ (fun o ho => ?_)) (by omega)
      · rw [Nat.add_assoc, hl _ (by omega), zu_svw ho]
      · rw [Nat.add_assoc, had _ (by omega)]
        omega
  exact zv_app s25 (zu_s25_len _ _ _ _) (zv_app (lw 4 (by decide)) (zu_laws_len cA a 4) (wl 30 (by decide)))
