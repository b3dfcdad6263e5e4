/-! ===== words: spelled, packed ===== -/
def zz_sd : List (List Nat) := [[97, 100, 100, 115], [112, 97, 114, 100, 111, 110, 115], [119, 101, 97, 114, 115], [111, 102, 102, 105, 99, 101, 114], [99, 111, 117, 115, 105, 110], [119, 114, 111, 110, 103], [97, 119, 97, 121], [115, 101, 110, 100], [100, 97, 121], [115, 105, 122, 101], [119, 104, 111], [112, 114, 105, 100, 101], [114, 97, 110, 107], [102, 114, 111, 109], [116, 111], [100, 97, 121, 115], [100, 101, 115, 107], [117, 110, 100, 101, 114], [104, 97, 108, 118, 101, 115], [98, 121], [114, 97, 110, 107, 115], [105, 102], [116, 104, 101, 110], [101, 108, 115, 101], [101, 110, 100], [111, 114], [97, 110, 100], [110, 111, 116], [60], [60, 61], [62], [62, 61], [61], [35], [43], [45], [42], [47], [40], [41], [59], [], [], []]
theorem zz_sd_ok : ∀ i, i < 44 → (zz_sd.getD i []).length = zz_ln.getD i 0 ∧ zz_ln.getD i 0 ≤ 7 ∧ ∀ j, j < 7 → j < zz_ln.getD i 0 → (zz_sp.getD i []).getD j 0 = nI ((zz_sd.getD i []).getD j 0) ∧ (zz_sd.getD i []).getD j 0 < 256 := by decide +kernel
theorem zz_sd_ne : ∀ i, i < 41 → ∀ j, j < 44 → j ≠ i → zz_sd.getD j [] ≠ zz_sd.getD i [] := by decide +kernel
def zk_li (tp : Nat → Nat) (s e : Nat) : List Nat := (List.range (e - s)).map (fun j => tp (s + j))
theorem zk_li_len (tp : Nat → Nat) (s e : Nat) : (zk_li tp s e).length = e - s := by unfold zk_li; simp
theorem zk_li_at {tp : Nat → Nat} {s e j : Nat} (h : j < e - s) : (zk_li tp s e).getD j 0 = tp (s + j) := by
  unfold zk_li
  rw [List.getD_eq_getElem?_getD, List.getElem?_map, List.getElem?_range h]
  rfl
theorem zk_ext {l m : List Nat} (hl : l.length = m.length) (h : ∀ j, j < l.length → l.getD j 0 = m.getD j 0) : l = m := by
  refine List.ext_getElem hl (fun j h1 h2 => ?_)
  have := h j h1
  rw [List.getD_eq_getElem?_getD, List.getD_eq_getElem?_getD, List.getElem?_eq_getElem h1, List.getElem?_eq_getElem h2] at this
  exact this
theorem zk_sp_li {tp : Nat → Nat} {i s e : Nat} (ht : ∀ j, tp j < 256) (hi : i < 44) : zk_sp i tp s e = decide (zk_li tp s e = zz_sd.getD i []) := by
  obtain ⟨h1, h2, h3⟩ := zz_sd_ok i hi
  unfold zk_sp
  by_cases c : zk_li tp s e = zz_sd.getD i []
  · rw [decide_eq_true c]
    have len : e - s = zz_ln.getD i 0 := by rw [← h1, ← c, zk_li_len]
    rw [decide_eq_true len.symm, Bool.true_and]
    simp only [List.all_eq_true, List.mem_range, decide_eq_true_eq]
    intro j hj
    rw [(h3 j (by omega) (by omega)).1, ← c, zk_li_at hj]
  · rw [decide_eq_false c]
    cases hz : (decide (zz_ln.getD i 0 = e - s) && (List.range (e - s)).all fun j => decide ((zz_sp.getD i []).getD j 0 = nI (tp (s + j)))) with
    | false => rfl
    | true =>
      exfalso
      simp only [Bool.and_eq_true, List.all_eq_true, List.mem_range, decide_eq_true_eq] at hz
      refine c (zk_ext (by rw [zk_li_len, h1]; exact hz.1.symm) (fun j hj => ?_))
      rw [zk_li_len] at hj
      have a := hz.2 j hj
      obtain ⟨b1, b2⟩ := h3 j (by omega) (by omega)
      rw [b1] at a
      have tl := ht (s + j)
      rw [zk_li_at hj]
      exact ((nI_eq (by omega) (by omega)).mp a).symm
theorem zk_wd_li {tp : Nat → Nat} {i s e : Nat} (ht : ∀ j, tp j < 256) (hi : i < 41) : (zk_wd tp s e = i) = (zk_li tp s e = zz_sd.getD i []) := by
  have go : ∀ (f k : Nat), k + f = 44 → k ≤ i → zk_li tp s e = zz_sd.getD i [] → zk_wf tp s e f k = i := by
    intro f
    induction f with
    | zero => intro k h1 h2; omega
    | succ f ih =>
      intro k h1 h2 h3
      simp only [zk_wf]
      by_cases c : k = i
      · subst c
        rw [if_pos (by rw [zk_sp_li ht (by omega)]; exact decide_eq_true h3)]
      · rw [if_neg (by rw [zk_sp_li ht (by omega), decide_eq_true_eq, h3]; exact fun z => zz_sd_ne i hi k (by omega) c z.symm)]
        exact ih (k + 1) (by omega) (by omega) h3
  have back : ∀ (f k : Nat), k + f = 44 → zk_wf tp s e f k = i → zk_li tp s e = zz_sd.getD i [] := by
    intro f
    induction f with
    | zero => intro k h1 h2; simp only [zk_wf] at h2; omega
    | succ f ih =>
      intro k h1 h2
      simp only [zk_wf] at h2
      split at h2
      · next h =>
        subst h2
        rw [zk_sp_li ht (by omega)] at h
        exact of_decide_eq_true h
      · exact ih (k + 1) (by omega) h2
  exact propext ⟨fun h => back 44 0 (by omega) h, fun h => go 44 0 (by omega) (by omega) h⟩
/-! packed -/
def zk_fd (l : List Nat) : Nat := l.foldl (fun a c => a * 256 + c) 0
theorem zk_fd_s (l : List Nat) (c : Nat) : zk_fd (l ++ [c]) = zk_fd l * 256 + c := by unfold zk_fd; rw [List.foldl_append]; rfl
theorem zk_fd_inj : ∀ (k : Nat) (l m : List Nat), l.length = k → (∀ c, c ∈ l → 1 ≤ c ∧ c < 256) → (∀ c, c ∈ m → 1 ≤ c ∧ c < 256) → zk_fd l = zk_fd m → l = m := by
  intro k
  induction k with
  | zero =>
    intro l m hl h1 h2 e
    have : l = [] := List.length_eq_zero_iff.mp hl
    subst this
    rcases List.eq_nil_or_concat m with rfl | ⟨m', c, rfl⟩
    · rfl
    · rw [List.concat_eq_append, zk_fd_s] at e
      have := h2 c (by simp)
      have z : zk_fd [] = 0 := rfl
      omega
  | succ k ih =>
    intro l m hl h1 h2 e
    rcases List.eq_nil_or_concat l with rfl | ⟨l', a, rfl⟩
    · simp at hl
    rw [List.concat_eq_append] at *
    have ha := h1 a (by simp)
    rcases List.eq_nil_or_concat m with rfl | ⟨m', c, rfl⟩
    · rw [zk_fd_s] at e
      have z : zk_fd [] = 0 := rfl
      omega
    · rw [List.concat_eq_append] at *
      have hc := h2 c (by simp)
      rw [zk_fd_s, zk_fd_s] at e
      have e1 : a = c := by omega
      have e2 : zk_fd l' = zk_fd m' := by omega
      rw [e1, ih l' m' (by simpa using hl) (fun x hx => h1 x (by simp [hx])) (fun x hx => h2 x (by simp [hx])) e2]
theorem zk_fd_lt : ∀ (k : Nat) (l : List Nat), l.length = k → (∀ c, c ∈ l → 1 ≤ c ∧ c < 256) → zk_fd l < 256 ^ k ∧ (1 ≤ k → 256 ^ (k - 1) ≤ zk_fd l) := by
  intro k
  induction k with
  | zero =>
    intro l hl _
    have : l = [] := List.length_eq_zero_iff.mp hl
    subst this
    exact ⟨by decide, fun h => by omega⟩
  | succ k ih =>
    intro l hl h1
    rcases List.eq_nil_or_concat l with rfl | ⟨l', a, rfl⟩
    · simp at hl
    rw [List.concat_eq_append] at *
    have ha := h1 a (by simp)
    obtain ⟨i1, i2⟩ := ih l' (by simpa using hl) (fun x hx => h1 x (by simp [hx]))
    rw [zk_fd_s, Nat.pow_succ]
    refine ⟨by omega, fun _ => ?_⟩
    rw [Nat.add_sub_cancel]
    cases k with
    | zero => simp; omega
    | succ k =>
      have := i2 (by omega)
      rw [Nat.add_sub_cancel] at this
      rw [Nat.pow_succ]
      omega
