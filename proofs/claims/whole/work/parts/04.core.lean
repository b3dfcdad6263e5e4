/-! ===== a small machine over the kit's worlds: memory, cells, locals ===== -/
abbrev zm_M : Type := (Nat → Nat → Int32) × (Nat → Nat → Int64) × (Nat → Nat → Option Nat)
abbrev zm_L : Type := List (Option Value)
abbrev zm_Me : Type := MethodName × ByteArray × Nat × Option FieldType
def zm_c (ad : Nat → Nat) (v : Value) : Value := match v with
  | .ref q => .ref (ad q)
  | .int x => .int x
  | .long x => .long x
  | .null => .null
  | .float b => .float b
  | .double b => .double b
  | .retAddr b => .retAddr b
theorem zm_c_cat (ad : Nat → Nat) (v : Value) : (zm_c ad v).category = v.category := by cases v <;> rfl
theorem zm_c_rf (ad : Nat → Nat) (r : Option Nat) : zm_c ad (va_rf r) = va_rf (r.map ad) := by cases r <;> rfl
def zm_fv (ad : Nat → Nat) (M : zm_M) (p ci k : Nat) : Value := match zy_fk ci k with
  | (0, _) => .int (M.1 p k)
  | (1, _) => .long (M.2.1 p k)
  | (2, o) => .ref (ad (p + o))
  | (3, o) => .ref (ad o)
  | _ => va_rf ((M.2.2 p k).map ad)
theorem zm_fv_c (ad : Nat → Nat) (M : zm_M) (p ci k : Nat) : zm_fv ad M p ci k = zm_c ad (zm_fv id M p ci k) := by
  unfold zm_fv
  split
  · rfl
  · rfl
  · rfl
  · rfl
  · rw [zm_c_rf]; simp
def zm_ct (ad : Nat → Nat) (M : zm_M) (p t : Nat) : (Nat → Int32) ⊕ (Nat → Int64) ⊕ (Nat → UInt32) ⊕ (Nat → UInt64) ⊕ (Nat → Option Nat) := match t with
  | 0 => .inl (M.1 p)
  | 1 => .inl (M.1 p)
  | 2 => .inl (M.1 p)
  | 3 => .inr (.inl (M.2.1 p))
  | 6 => .inr (.inr (.inr (.inr (fun i => (M.2.2 p i).map ad))))
  | t => .inr (.inr (.inr (.inr (fun i => some (ad (zy_el t p i))))))
def zm_cell (ad : Nat → Nat) (cA : Nat → ClassId) (M : zm_M) (p : Nat) : va_E :=
  if (zy_ly p).1 < 100 then .inr ((zy_ly p).1, (List.range (zy_ly p).2).map (zm_fv ad M p (zy_ly p).1))
  else .inl (cA ((zy_ly p).1 - 100), (zy_ly p).2, zm_ct ad M p ((zy_ly p).1 - 100))
def zm_ws (ad : Nat → Nat) (cA : Nat → ClassId) (M : zm_M) : va_W := (List.range zy_N).map (fun p => (ad p, zm_cell ad cA M p))
theorem zm_at {ad : Nat → Nat} {cA : Nat → ClassId} {M : zm_M} {p : Nat} (hp : p < zy_N) : (zm_ws ad cA M)[p]? = some (ad p, zm_cell ad cA M p) := by
  unfold zm_ws
  rw [List.getElem?_map, List.getElem?_range hp]
  rfl
theorem zm_lt {ad : Nat → Nat} {cA : Nat → ClassId} {M : zm_M} {p : Nat} {q : Nat × va_E} (h : (zm_ws ad cA M)[p]? = some q) : p < zy_N ∧ q = (ad p, zm_cell ad cA M p) := by
  have hl := (List.getElem?_eq_some_iff.mp h).1
  have hp : p < zy_N := by simpa [zm_ws] using hl
  rw [zm_at hp] at h
  exact ⟨hp, (Option.some.inj h).symm⟩
/-- positions lie apart, and all in A -/
def zm_ok (ad : Nat → Nat) (A : Nat → Prop) : Prop := (∀ i j, ad i = ad j → i = j) ∧ ∀ p, p < zy_N → A (ad p)
theorem zm_D {ad : Nat → Nat} {A : Nat → Prop} (h : zm_ok ad A) (cA : Nat → ClassId) (M : zm_M) : va_D A (zm_ws ad cA M) := by
  refine ⟨fun i j p q h1 h2 e => ?_, fun k q h1 => ?_⟩
  · obtain ⟨-, rfl⟩ := zm_lt h1
    obtain ⟨-, rfl⟩ := zm_lt h2
    exact h.1 i j e
  · obtain ⟨hk, rfl⟩ := zm_lt h1
    exact h.2 k hk
def zm_wa (M : zm_M) (p : Nat) (f : Nat → Int32) : zm_M := (fun q => if q = p then f else M.1 q, M.2)
def zm_wi (M : zm_M) (p k : Nat) (v : Int32) : zm_M := zm_wa M p (upd (M.1 p) k v)
def zm_wj (M : zm_M) (p k : Nat) (v : Int64) : zm_M := (M.1, fun q => if q = p then vp_updL (M.2.1 p) k v else M.2.1 q, M.2.2)
def zm_wr (M : zm_M) (p k : Nat) (v : Option Nat) : zm_M := (M.1, M.2.1, fun q => if q = p then va_up (M.2.2 p) k v else M.2.2 q)
theorem zm_cell_eq {ad : Nat → Nat} {cA : Nat → ClassId} {M M' : zm_M} {p : Nat} (h1 : M'.1 p = M.1 p) (h2 : M'.2.1 p = M.2.1 p) (h3 : M'.2.2 p = M.2.2 p) : zm_cell ad cA M' p = zm_cell ad cA M p := by
  unfold zm_cell zm_ct
  have e : zm_fv ad M' p = zm_fv ad M p := by
    funext ci k
    unfold zm_fv
    rw [h1, h2, h3]
  rw [e, h1, h2, h3]
theorem zm_set {ad : Nat → Nat} {cA : Nat → ClassId} {M M' : zm_M} {p : Nat} (hp : p < zy_N) (h : ∀ q, q ≠ p → M'.1 q = M.1 q ∧ M'.2.1 q = M.2.1 q ∧ M'.2.2 q = M.2.2 q) : (zm_ws ad cA M).set p (ad p, zm_cell ad cA M' p) = zm_ws ad cA M' := by
  apply List.ext_getElem?
  intro j
  rw [List.getElem?_set]
  have hl : (zm_ws ad cA M).length = zy_N := by simp [zm_ws]
  split
  · next e =>
    subst e
    rw [hl, if_pos hp, zm_at hp]
  · next e =>
    by_cases hj : j < zy_N
    · rw [zm_at hj, zm_at hj]
      obtain ⟨a, b, c⟩ := h j (fun q => e q.symm)
      rw [zm_cell_eq a b c]
    · have n1 : (zm_ws ad cA M)[j]? = none := by simp [zm_ws]; omega
      have n2 : (zm_ws ad cA M')[j]? = none := by simp [zm_ws]; omega
      rw [n1, n2]
def zm_tys (cA : Nat → ClassId) : List (ClassId × FieldType) := [(cA 0, .int), (cA 1, .char), (cA 2, .boolean), (cA 3, .long), (cA 4, .object "ApologyUp$World"), (cA 5, .object "ApologyUp$Law"), (cA 6, .object "ApologyUp$Word")]
def zm_ob (p ci : Nat) : Prop := p < zy_N ∧ (zy_ly p).1 = ci ∧ ci < 100
def zm_ar (p t n : Nat) : Prop := p < zy_N ∧ zy_ly p = (100 + t, n)
theorem zm_cell_ob {ad : Nat → Nat} {cA : Nat → ClassId} {M : zm_M} {p ci : Nat} (h : zm_ob p ci) : zm_cell ad cA M p = .inr (ci, (List.range (zy_ly p).2).map (zm_fv ad M p ci)) := by
  obtain ⟨-, h2, h3⟩ := h
  unfold zm_cell
  rw [h2, if_pos h3]
theorem zm_cell_ar {ad : Nat → Nat} {cA : Nat → ClassId} {M : zm_M} {p t n : Nat} (h : zm_ar p t n) : zm_cell ad cA M p = .inl (cA t, n, zm_ct ad M p t) := by
  obtain ⟨-, h2⟩ := h
  unfold zm_cell
  rw [h2]
  have h3 : ¬ (100 + t < 100) := by omega
  have h4 : 100 + t - 100 = t := by omega
  simp only [h3, if_false, h4]
/-! ===== locals ===== -/
def zm_get : zm_L → Nat → Option Value
  | [], _ => none
  | a :: _, 0 => a
  | _ :: l, i + 1 => zm_get l i
def zm_cl (a : Option Value) : Option Value := match a with
  | some (.long _) => none
  | some (.double _) => none
  | x => x
def zm_s1 : zm_L → Nat → Value → zm_L
  | [], _, _ => []
  | _ :: l, 0, v => some v :: l
  | a :: l, 1, v => zm_cl a :: zm_s1 l 0 v
  | a :: l, i + 2, v => a :: zm_s1 l (i + 1) v
def zm_s2 : zm_L → Nat → Value → zm_L
  | [], _, _ => []
  | _ :: [], 0, v => some v :: []
  | _ :: _ :: l, 0, v => some v :: none :: l
  | a :: l, 1, v => zm_cl a :: zm_s2 l 0 v
  | a :: l, i + 2, v => a :: zm_s2 l (i + 1) v
theorem zm_cl_get {a : Option Value} {w : Value} (h : zm_cl a = some w) : a = some w ∧ ¬ w.category = 2 := by
  cases a with
  | none => exact absurd h (by simp [zm_cl])
  | some v => cases v <;> simp [zm_cl] at h <;> subst h <;> exact ⟨rfl, by simp [Value.category]⟩
theorem zm_get_s1 : ∀ (l : zm_L) (i : Nat) (v : Value) (j : Nat) (w : Value), zm_get (zm_s1 l i v) j = some w → (j = i ∧ w = v) ∨ (j ≠ i ∧ zm_get l j = some w ∧ ¬ (j + 1 = i ∧ w.category = 2)) := by
  intro l
  induction l with
  | nil => intro i v j w h; simp [zm_s1, zm_get] at h
  | cons a l ih =>
    intro i v j w h
    match i, j with
    | 0, 0 => simp [zm_s1, zm_get] at h; exact Or.inl ⟨rfl, h.symm⟩
    | 0, j + 1 => simp only [zm_s1, zm_get] at h; exact Or.inr ⟨by omega, h, by omega⟩
    | 1, 0 =>
      simp only [zm_s1, zm_get] at h
      obtain ⟨h1, h2⟩ := zm_cl_get h
      exact Or.inr ⟨by omega, h1, fun q => h2 q.2⟩
    | 1, j + 1 =>
      simp only [zm_s1, zm_get] at h
      rcases ih 0 v j w h with ⟨rfl, h2⟩ | ⟨h1, h2, -⟩
      · exact Or.inl ⟨rfl, h2⟩
      · exact Or.inr ⟨by omega, h2, by omega⟩
    | i + 2, 0 => simp only [zm_s1, zm_get] at h; exact Or.inr ⟨by omega, h, by omega⟩
    | i + 2, j + 1 =>
      simp only [zm_s1, zm_get] at h
      rcases ih (i + 1) v j w h with ⟨rfl, h2⟩ | ⟨h1, h2, h3⟩
      · exact Or.inl ⟨rfl, h2⟩
      · exact Or.inr ⟨by omega, h2, fun q => h3 ⟨by omega, q.2⟩⟩
theorem zm_get_s2 : ∀ (l : zm_L) (i : Nat) (v : Value) (j : Nat) (w : Value), zm_get (zm_s2 l i v) j = some w → (j = i ∧ w = v) ∨ (j ≠ i ∧ j ≠ i + 1 ∧ zm_get l j = some w ∧ ¬ (j + 1 = i ∧ w.category = 2)) := by
  intro l
  induction l with
  | nil => intro i v j w h; simp [zm_s2, zm_get] at h
  | cons a l ih =>
    intro i v j w h
    match i, j with
    | 0, 0 =>
      cases l with
      | nil => simp [zm_s2, zm_get] at h; exact Or.inl ⟨rfl, h.symm⟩
      | cons b l => simp [zm_s2, zm_get] at h; exact Or.inl ⟨rfl, h.symm⟩
    | 0, 1 =>
      cases l with
      | nil => simp [zm_s2, zm_get] at h
      | cons b l => simp [zm_s2, zm_get] at h
    | 0, j + 2 =>
      cases l with
      | nil => simp [zm_s2, zm_get] at h
      | cons b l => simp only [zm_s2, zm_get] at h; exact Or.inr ⟨by omega, by omega, h, by omega⟩
    | 1, 0 =>
      simp only [zm_s2, zm_get] at h
      obtain ⟨h1, h2⟩ := zm_cl_get h
      exact Or.inr ⟨by omega, by omega, h1, fun q => h2 q.2⟩
    | 1, j + 1 =>
      simp only [zm_s2, zm_get] at h
      rcases ih 0 v j w h with ⟨rfl, h2⟩ | ⟨h1, h4, h2, -⟩
      · exact Or.inl ⟨rfl, h2⟩
      · exact Or.inr ⟨by omega, by omega, h2, by omega⟩
    | i + 2, 0 => simp only [zm_s2, zm_get] at h; exact Or.inr ⟨by omega, by omega, h, by omega⟩
    | i + 2, j + 1 =>
      simp only [zm_s2, zm_get] at h
      rcases ih (i + 1) v j w h with ⟨rfl, h2⟩ | ⟨h1, h4, h2, h3⟩
      · exact Or.inl ⟨rfl, h2⟩
      · exact Or.inr ⟨by omega, by omega, h2, fun q => h3 ⟨by omega, q.2⟩⟩
/-- the real locals hold what is listed -/
def zm_lv (ad : Nat → Nat) (ls : Array Slot) (nL : Nat) (lv : zm_L) : Prop := ls.size = nL ∧ lv_wf ls ∧ ∀ (i : Nat) (v : Value), zm_get lv i = some v → ls[i]? = some (.val (zm_c ad v))
def zm_as (ad : Nat → Nat) : Nat → zm_L → List (Nat × Value)
  | _, [] => []
  | i, none :: l => zm_as ad (i + 1) l
  | i, some v :: l => (i, zm_c ad v) :: zm_as ad (i + 1) l
theorem zm_as_mem (ad : Nat → Nat) : ∀ (l : zm_L) (i : Nat) (q : Nat × Value), q ∈ zm_as ad i l → ∃ j v, q = (i + j, zm_c ad v) ∧ zm_get l j = some v := by
  intro l
  induction l with
  | nil => intro i q h; simp [zm_as] at h
  | cons a l ih =>
    intro i q h
    cases a with
    | none =>
      simp only [zm_as] at h
      obtain ⟨j, v, h1, h2⟩ := ih (i + 1) q h
      exact ⟨j + 1, v, by rw [h1]; congr 1; omega, h2⟩
    | some w =>
      simp only [zm_as, List.mem_cons] at h
      rcases h with h | h
      · exact ⟨0, w, by rw [h]; rfl, rfl⟩
      · obtain ⟨j, v, h1, h2⟩ := ih (i + 1) q h
        exact ⟨j + 1, v, by rw [h1]; congr 1; omega, h2⟩
theorem zm_mem_as (ad : Nat → Nat) : ∀ (l : zm_L) (i j : Nat) (v : Value), zm_get l j = some v → (i + j, zm_c ad v) ∈ zm_as ad i l := by
  intro l
  induction l with
  | nil => intro i j v h; simp [zm_get] at h
  | cons a l ih =>
    intro i j v h
    cases j with
    | zero =>
      simp only [zm_get] at h
      subst h
      simp [zm_as]
    | succ j =>
      simp only [zm_get] at h
      have h1 := ih (i + 1) j v h
      have e : i + (j + 1) = i + 1 + j := by omega
      rw [e]
      cases a with
      | none => exact h1
      | some w => exact List.mem_cons_of_mem _ h1
theorem zm_lv_has {ad : Nat → Nat} {ls : Array Slot} {nL : Nat} {lv : zm_L} (h : zm_lv ad ls nL lv) : lv_has ls nL (zm_as ad 0 lv) := by
  refine ⟨h.1, h.2.1, fun q hq => ?_⟩
  obtain ⟨j, v, rfl, h2⟩ := zm_as_mem ad lv 0 q hq
  have := h.2.2 j v h2
  simpa using this
theorem zm_lv_s1 {ad : Nat → Nat} {ls' : Array Slot} {nL i : Nat} {lv : zm_L} {v : Value} (h : lv_has ls' nL ((i, zm_c ad v) :: (zm_as ad 0 lv).filter (fun q => !(q.1 == i) && !(q.1 + 1 == i && q.2.category == 2)))) : zm_lv ad ls' nL (zm_s1 lv i v) := by
  refine ⟨h.1, h.2.1, fun j w hw => ?_⟩
  rcases zm_get_s1 lv i v j w hw with ⟨rfl, rfl⟩ | ⟨h1, h2, h3⟩
  · exact h.2.2 (j, zm_c ad w) List.mem_cons_self
  · have hm := zm_mem_as ad lv 0 j w h2
    rw [Nat.zero_add] at hm
    refine h.2.2 (j, zm_c ad w) (List.mem_cons_of_mem _ (List.mem_filter.mpr ⟨hm, ?_⟩))
    simp only [zm_c_cat, Bool.and_eq_true, Bool.not_eq_true', beq_eq_false_iff_ne, Bool.and_eq_false_iff]
    refine ⟨h1, ?_⟩
    by_cases e : j + 1 = i
    · exact Or.inr (fun q => h3 ⟨e, q⟩)
    · exact Or.inl e
theorem zm_lv_s2 {ad : Nat → Nat} {ls' : Array Slot} {nL i : Nat} {lv : zm_L} {v : Value} (h : lv_has ls' nL ((i, zm_c ad v) :: (zm_as ad 0 lv).filter (fun q => !(q.1 == i) && (!(q.1 == i + 1) && !(q.1 + 1 == i && q.2.category == 2))))) : zm_lv ad ls' nL (zm_s2 lv i v) := by
  refine ⟨h.1, h.2.1, fun j w hw => ?_⟩
  rcases zm_get_s2 lv i v j w hw with ⟨rfl, rfl⟩ | ⟨h1, h4, h2, h3⟩
  · exact h.2.2 (j, zm_c ad w) List.mem_cons_self
  · have hm := zm_mem_as ad lv 0 j w h2
    rw [Nat.zero_add] at hm
    refine h.2.2 (j, zm_c ad w) (List.mem_cons_of_mem _ (List.mem_filter.mpr ⟨hm, ?_⟩))
    simp only [zm_c_cat, Bool.and_eq_true, Bool.not_eq_true', beq_eq_false_iff_ne, Bool.and_eq_false_iff]
    refine ⟨h1, h4, ?_⟩
    by_cases e : j + 1 = i
    · exact Or.inr (fun q => h3 ⟨e, q⟩)
    · exact Or.inl e
/-- the locals at a method's entry -/
def zm_ent0 : List Value → zm_L
  | [] => []
  | .long x :: vs => some (.long x) :: none :: zm_ent0 vs
  | v :: vs => some v :: zm_ent0 vs
def zm_ent (vs : List Value) (n : Nat) : zm_L := zm_ent0 vs ++ List.replicate (n - (zm_ent0 vs).length) none
theorem zm_get_app_none : ∀ (l : zm_L) (n i : Nat) (v : Value), zm_get (l ++ List.replicate n none) i = some v → zm_get l i = some v := by
  intro l
  induction l with
  | nil =>
    intro n
    induction n with
    | zero => intro i v h; exact h
    | succ n ih =>
      intro i v h
      cases i with
      | zero => simp [List.replicate_succ, zm_get] at h
      | succ i =>
        simp only [List.nil_append, List.replicate_succ, zm_get] at h
        exact absurd (ih i v (by simpa using h)) (by simp [zm_get])
  | cons a l ih =>
    intro n i v h
    cases i with
    | zero => exact h
    | succ i => exact ih n i v h
theorem zm_ent_args (ad : Nat → Nat) : ∀ (vs : List Value) (i j : Nat) (v : Value), (∀ x, Value.double x ∉ vs) → zm_get (zm_ent0 vs) j = some v → (i + j, zm_c ad v) ∈ lv_args i (vs.map (zm_c ad)) := by
  intro vs
  induction vs with
  | nil => intro i j v _ h; simp [zm_ent0, zm_get] at h
  | cons a vs ih =>
    intro i j v hd h
    have hd' : ∀ x, Value.double x ∉ vs := fun x hx => hd x (List.mem_cons_of_mem _ hx)
    have hda : ∀ x, a ≠ Value.double x := fun x e => hd x (by rw [e]; exact List.mem_cons_self)
    cases a with
    | long x =>
      match j with
      | 0 => simp [zm_ent0, zm_get] at h; subst h; simp [lv_args, zm_c]
      | 1 => simp [zm_ent0, zm_get] at h
      | j + 2 =>
        simp only [zm_ent0, zm_get] at h
        have h1 := ih (i + 2) j v hd' h
        simp only [List.map_cons, lv_args, zm_c, Value.category, if_true, List.mem_cons]
        refine Or.inr ?_
        have e : i + (j + 2) = i + 2 + j := by omega
        rw [e]
        exact h1
    | double x => exact absurd rfl (hda x)
    | _ =>
      match j with
      | 0 => simp [zm_ent0, zm_get] at h; subst h; simp [lv_args, zm_c]
      | j + 1 =>
        simp only [zm_ent0, zm_get] at h
        have h1 := ih (i + 1) j v hd' h
        have e : i + (j + 1) = i + 1 + j := by omega
        rw [e]
        simp only [List.map_cons, lv_args, List.mem_cons]
        exact Or.inr h1
