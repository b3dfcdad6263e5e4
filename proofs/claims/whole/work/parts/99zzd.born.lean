/-! ===== cells that are made: a region of the heap, cell by cell ===== -/
def zc_w : Nat → List va_E → va_W
  | _, [] => []
  | h, e :: L => (h, e) :: zc_w (h + 1) L
theorem zc_w_at : ∀ (L : List va_E) (h k : Nat), (zc_w h L)[k]? = (L[k]?).map (fun e => (h + k, e)) := by
  intro L
  induction L with
  | nil => intro h k; simp [zc_w]
  | cons e L ih =>
    intro h k
    cases k with
    | zero => simp [zc_w]
    | succ k =>
      simp only [zc_w, List.getElem?_cons_succ, ih]
      rw [show h + 1 + k = h + (k + 1) by omega]
theorem zc_w_set : ∀ (L : List va_E) (h k : Nat) (e : va_E), (zc_w h L).set k (h + k, e) = zc_w h (L.set k e) := by
  intro L
  induction L with
  | nil => intro h k e; simp [zc_w]
  | cons e0 L ih =>
    intro h k e
    cases k with
    | zero => simp [zc_w]
    | succ k =>
      simp only [zc_w, List.set_cons_succ]
      rw [← ih, show h + 1 + k = h + (k + 1) by omega]
def zc_P (D : va_G) (h : Nat) (L : List va_E) (H : Heap) : Prop := H.size = h + L.length ∧ va_P D zy_cl (zc_w h L) H
theorem zc_P_at {D : va_G} {h : Nat} {L : List va_E} {H : Heap} (hP : zc_P D h L H) {k : Nat} {e : va_E} (he : L[k]? = some e) : va_at D zy_cl (h + k, e) H := hP.2 k _ (by rw [zc_w_at, he]; rfl)
theorem zc_P_of {D : va_G} {h : Nat} {L : List va_E} {H : Heap} (hz : H.size = h + L.length) (hP : ∀ (k : Nat) (e : va_E), L[k]? = some e → va_at D zy_cl (h + k, e) H) : zc_P D h L H := by
  refine ⟨hz, fun k q hq => ?_⟩
  rw [zc_w_at] at hq
  cases he : L[k]? with
  | none => rw [he] at hq; cases hq
  | some e =>
    rw [he] at hq
    cases hq
    exact hP k e he
theorem zc_D (h : Nat) (L : List va_E) : va_D (fun q => h ≤ q) (zc_w h L) := by
  refine ⟨fun i j p q h1 h2 e => ?_, fun k q h1 => ?_⟩
  · rw [zc_w_at] at h1 h2
    cases e1 : L[i]? with
    | none => rw [e1] at h1; cases h1
    | some x =>
      cases e2 : L[j]? with
      | none => rw [e2] at h2; cases h2
      | some y =>
        rw [e1] at h1
        rw [e2] at h2
        cases h1
        cases h2
        have e : h + i = h + j := e
        omega
  · rw [zc_w_at] at h1
    cases e1 : L[k]? with
    | none => rw [e1] at h1; cases h1
    | some x =>
      rw [e1] at h1
      cases h1
      show h ≤ h + k
      omega
/-- behind the cells of L those of L2 -/
theorem zc_P_app {D : va_G} {h : Nat} {L L2 : List va_E} {e : va_E} {H H1 : Heap} (hP : zc_P D h (L ++ [e]) H) (hk : ∀ q, q < H.size → ¬ (h + L.length ≤ q) → H1[q]? = H[q]?) (h2 : zc_P D (h + L.length) L2 H1) : zc_P D h (L ++ L2) H1 := by
  refine zc_P_of (by rw [h2.1, List.length_append]; omega) (fun k x hx => ?_)
  by_cases hl : k < L.length
  · rw [List.getElem?_append_left hl] at hx
    have h3 := zc_P_at hP (k := k) (e := x) (by rw [List.getElem?_append_left hl]; exact hx)
    exact h3.kept (hk (h + k) (by rw [hP.1, List.length_append]; simp only [List.length_cons, List.length_nil]; omega) (by omega))
  · rw [List.getElem?_append_right (by omega)] at hx
    have h3 := zc_P_at h2 (k := k - L.length) (e := x) hx
    rw [show h + L.length + (k - L.length) = h + k by omega] at h3
    exact h3
theorem zc_P_last {D : va_G} {h : Nat} {L : List va_E} {e : va_E} {H : Heap} (hP : zc_P D h (L ++ [e]) H) : zc_P D (h + L.length) [e] H := by
  refine zc_P_of (by rw [hP.1, List.length_append]; simp only [List.length_cons, List.length_nil]; omega) (fun k x hx => ?_)
  have hz : k < 1 := (List.getElem?_eq_some_iff.mp hx).1
  have hk : k = 0 := by omega
  subst hk
  cases hx
  exact zc_P_at hP (k := L.length) (by simp)
section ZC
variable {p : Program} {l : Launch} {e : Env} {R : Room} {s : State} {m : MethodId} {args : Array Value} {below : List Frame} {meth : Method} {c : Code} {H H0 : Heap} {locs : List Loc} {cells slots : Nat} {Q : State → Prop}
variable {cc : ByteArray} {pc : Nat} {ls : Array Slot} {rest : List Value} {D : va_G} {h a0 : Nat} {L : List va_E} {tys : List (ClassId × FieldType)} {cA : Nat → ClassId}
theorem zc_new {own C : String} {T : u_T} {N ci index : Nat} {ty : Nat → FieldType} (hexec : p.tables.exec = Jvm.exec) (hb : c.code = cc) (hts : ∀ w ∈ zy_T, w.before args s = true) (hco : zy_co ci C T N ty) (hown : s.vm.findClass own = some m.cls) (hcl : (Cond.classLink own index C).before args s = true) (hinst : (Cond.instantiable C N).before args s = true) (hini : (Cond.initialized C).before args s = true)
    (hK : va_K D zy_cl tys s) (hP : zc_P D h L H) (hS : va_S (fun q => a0 ≤ q) H0 H locs) {fs : List Value} (hfs : ∀ j, j < N → defaultValue (ty j) = vp_V fs j) (hcells : cells + 1 ≤ R.cells) (hslots : slots + N ≤ R.slots) (hdg : decode cc pc = .ok (.new index, 3))
    (kk : ∀ H1 : Heap, zc_P D h (L ++ [.inr (ci, fs)]) H1 → va_S (fun q => a0 ≤ q) H0 H1 locs → W p l e R s m args below meth c H1 locs (cells + 1) (slots + N) Q (F0 m (pc + 3) ls (.ref (h + L.length) :: rest))) : W p l e R s m args below meth c H locs cells slots Q (F0 m pc ls rest) := by
  have hKn := hK.1 ci _ hco.1
  refine W.newcK hexec hb hown hcl hinst hini rfl hdg hcells hslots hKn.2.1 rfl fun H1 kC hkC e1 z1 o1 => ?_
  have ea : H.size = h + L.length := hP.1
  refine W.eq (by rw [← ea]) (kk H1 (zc_P_of (by rw [z1, ea, List.length_append]; rfl) (fun k x hx => ?_)) ⟨Nat.le_trans hS.1 (by omega), fun x h1 h2 => (o1 x (Nat.lt_of_lt_of_le h1 hS.1)).trans (hS.2.1 x h1 h2), hS.2.2⟩)
  by_cases hl : k < L.length
  · rw [List.getElem?_append_left hl] at hx
    have h3 := zc_P_at hP hx
    exact h3.kept (o1 _ (by rw [ea]; show h + k < _; omega))
  · rw [List.getElem?_append_right (by omega)] at hx
    have hz : k - L.length < 1 := (List.getElem?_eq_some_iff.mp hx).1
    rw [show k - L.length = 0 by omega] at hx
    cases hx
    rw [show h + k = H.size by omega]
    exact ⟨_, hco.1, (u_born ty hts hco.2.1 hKn hkC e1 hco.2.2.1).to hfs⟩
theorem zc_put0 {own C : String} {T : u_T} {N ci index : Nat} {ty : Nat → FieldType} {fs : List Value} {Lr : List va_E} {v : Value} (hexec : p.tables.exec = Jvm.exec) (hb : c.code = cc) (hts : ∀ w ∈ zy_T, w.before args s = true) (hco : zy_co ci C T N ty) (hown : s.vm.findClass own = some m.cls) (hK : va_K D zy_cl tys s) (hP : zc_P D h (.inr (ci, fs) :: Lr) H) (hS : va_S (fun q => a0 ≤ q) H0 H locs) (hA : a0 ≤ h) (k : Nat) (hk : k < N) (hlink : (Cond.fieldLink own index (T k).1 (T k).2.1 (T k).2.2.1).before args s = true) (hfin : ((T k).2.2.2 = true ∧ meth.name = "<init>" ∧ (T k).1 = own) ∨ (T k).2.2.2 = false) (hn : narrow (ty k) v = v) (hfit : fits (ty k) v = true) (hl : k < fs.length) (hdg : decode cc pc = .ok (.putfield index, 3))
    (kk : ∀ (H1 : Heap) (locs1 : List Loc), zc_P D h (.inr (ci, fs.set k v) :: Lr) H1 → va_S (fun q => a0 ≤ q) H0 H1 locs1 → W p l e R s m args below meth c H1 locs1 cells slots Q (F0 m (pc + 3) ls rest)) : W p l e R s m args below meth c H locs cells slots Q (F0 m pc ls (v :: .ref h :: rest)) := by
  obtain ⟨hc, hin, hty, hnm, -, -⟩ := hco
  have hap := va_apart (own := own) hts hin ty hty hnm hK hc
  have hat := zc_P_at hP (k := 0) rfl
  obtain ⟨r, h1, cell, q1, q2, q3, q4⟩ := hat
  have hr : r = (C, T, N) := Option.some.inj (h1.symm.trans hc)
  subst hr
  obtain ⟨hSl, hfc, kC, hkC, hkind⟩ := hK.1 ci _ hc
  obtain ⟨cf, kf, fi, f, hi, hsl⟩ := hSl k hk
  have hlay := hts _ (hin _ (u_in_lay hk))
  have hst := (u_facts hfc hkC (u_lays hts hin hk) hi).1
  have fin : ∀ (H' : Heap) (e1 : H'[h + 0]? = some (cell.setSlot (D.2 ci k) v)) (e2 : H'.size = H.size) (e3 : ∀ q : Nat, q ≠ h + 0 → H'[q]? = H[q]?), W p l e R s m args below meth c H' (locs ++ [⟨h + 0, D.2 ci k⟩]) cells slots Q (F0 m (pc + 3) ls rest) := by
    intro H' e1 e2 e3
    refine kk H' _ ⟨by rw [e2, hP.1]; rfl, ?_⟩ (hS.put e2 e3 (show a0 ≤ h + 0 from hA))
    have h5 := hP.2.set (zc_D h _) (p := 0) (a := h + 0) (e0 := .inr (ci, fs)) (e := .inr (ci, fs.set k v)) rfl ⟨_, hc, t_OB.to (V := updV (vp_V fs) k v) ⟨_, e1, q2, q3, t_set q4 hap hk v⟩ (fun j _ => vp_updV_set hl v j)⟩ e3
    exact h5
  rcases hfin with ⟨f1, f2, f3⟩ | f1
  · unfold u_lay at hlay
    rw [if_pos f1] at hlay
    have hcf : m.cls = cf := by
      obtain ⟨_, _, c', _, _, _, -, -, hf', -, -, -, hown2, -⟩ := Cond.laysFinal_spec hlay
      have e1 : c' = cf := by have := hi.symm.trans hf'; simp at this; exact this.1.symm
      rw [f3] at hown2
      rw [← e1]; exact Option.some.inj (hown.symm.trans hown2)
    have h6 := u_fits hfc hkC hkind (Or.inr hlay) hi (hty k hk) hn hfit
    refine W.putFinK hexec hb hown hlink hi hst hcf f2 (by rw [q2]; exact h6) q1 q3 (by rw [hsl]; exact k2_hasslot (q4 k hk)) rfl rfl hdg fun H' e1 e2 e3 => ?_
    rw [hsl] at e1 ⊢
    exact fin H' e1 e2 e3
  · unfold u_lay at hlay
    rw [if_neg (by rw [f1]; decide)] at hlay
    have h6 := u_store hfc hkC hkind hlay hi (hty k hk) hn hfit
    refine W.putK hexec hb (f := f) ⟨hown, hlink, ⟨_, _, _, hi⟩, hst⟩ (by rw [q2]; exact h6) q1 q3 (by rw [hsl]; exact k2_hasslot (q4 k hk)) rfl rfl hdg fun H' e1 e2 e3 => ?_
    rw [hsl] at e1 ⊢
    exact fin H' e1 e2 e3
theorem zc_newa {atype : ArrayType} {ty : FieldType} {t N' : Nat} {n : Int32} {a1 : (Nat → Int32) ⊕ (Nat → Int64) ⊕ (Nat → UInt32) ⊕ (Nat → UInt64) ⊕ (Nat → Option Nat)} (hexec : p.tables.exec = Jvm.exec) (hb : c.code = cc) (harr : (Cond.arrayClass (newarray.typeOf atype)).before args s = true) (hty : newarray.typeOf atype = ty) (hK : va_K D zy_cl (zm_tys cA) s) (ht : (zm_tys cA)[t]? = some (cA t, ty)) (hra : ∀ X, va_RA s X ty → s.vm.findClass ("[" ++ ty.toString) = some X) (hP : zc_P D h L H) (hS : va_S (fun q => a0 ≤ q) H0 H locs)
    (ha : ∀ cA : ClassId, vp_cell cA (N', a1) = arrV cA N' (fun _ => defaultValue ty)) (hn : ¬ n < 0) (hN : n.toNatClampNeg = N') (hbytes : N' * componentBytes ty ≤ 536870912) (hcells : cells + 1 ≤ R.cells) (hslots : slots + N' ≤ R.slots) (hdg : decode cc pc = .ok (.newarray atype, 2))
    (kk : ∀ H1 : Heap, zc_P D h (L ++ [.inl (cA t, N', a1)]) H1 → va_S (fun q => a0 ≤ q) H0 H1 locs → W p l e R s m args below meth c H1 locs (cells + 1) (slots + N') Q (F0 m (pc + 2) ls (.ref (h + L.length) :: rest))) : W p l e R s m args below meth c H locs cells slots Q (F0 m pc ls (.int n :: rest)) := by
  subst hty
  have ea : H.size = h + L.length := hP.1
  refine va_newaK hexec hb harr rfl hdg rfl hn hN hbytes hcells hslots ea fun H1 cB e1 z1 o1 hAr hNm => ?_
  have hcB : cB = cA t := Option.some.inj (hNm.symm.trans (hra _ (hK.2 t _ ht).2))
  subst hcB
  refine kk H1 (zc_P_of (by rw [z1, List.length_append]; rfl) (fun k x hx => ?_)) ⟨Nat.le_trans hS.1 (by omega), fun x h1 h2 => (o1 x (by have := Nat.lt_of_lt_of_le h1 hS.1; omega)).trans (hS.2.1 x h1 h2), hS.2.2⟩
  by_cases hl : k < L.length
  · rw [List.getElem?_append_left hl] at hx
    have h3 := zc_P_at hP hx
    exact h3.kept (o1 _ (by show h + k < _; omega))
  · rw [List.getElem?_append_right (by omega)] at hx
    have hz : k - L.length < 1 := (List.getElem?_eq_some_iff.mp hx).1
    rw [show k - L.length = 0 by omega] at hx
    cases hx
    rw [show h + k = h + L.length by omega]
    show H1[h + L.length]? = some (vp_cell _ _)
    rw [ha]
    exact e1
theorem zc_newq {own C : String} {index t N' : Nat} {n : Int32} (hexec : p.tables.exec = Jvm.exec) (hb : c.code = cc) (hown : s.vm.findClass own = some m.cls) (hclink : (Cond.classLink own index C).before args s = true) (hover : va_AO C s) (hK : va_K D zy_cl (zm_tys cA) s) (ht : (zm_tys cA)[t]? = some (cA t, .object C)) (hP : zc_P D h L H) (hS : va_S (fun q => a0 ≤ q) H0 H locs)
    (hn : ¬ n < 0) (hN : n.toNatClampNeg = N') (hbytes : N' * 4 ≤ 536870912) (hcells : cells + 1 ≤ R.cells) (hslots : slots + N' ≤ R.slots) (hdg : decode cc pc = .ok (.anewarray index, 3))
    (kk : ∀ H1 : Heap, zc_P D h (L ++ [.inl (cA t, N', .inr (.inr (.inr (.inr (fun _ => none)))))]) H1 → va_S (fun q => a0 ≤ q) H0 H1 locs → W p l e R s m args below meth c H1 locs (cells + 1) (slots + N') Q (F0 m (pc + 3) ls (.ref (h + L.length) :: rest))) : W p l e R s m args below meth c H locs cells slots Q (F0 m pc ls (.int n :: rest)) := by
  subst hN
  have ea : H.size = h + L.length := hP.1
  refine W.anew hexec hb hown hclink (va_AO.use hover) rfl hdg rfl hn hbytes hcells hslots fun cB kA comp f1 f2 f3 f4 => ?_
  generalize hH1 : H.push ({ cls := cB, slots := Array.replicate n.toNatClampNeg .null, vm := .none } : Cell) = H1
  have z1 : H1.size = H.size + 1 := by rw [← hH1, Array.size_push]
  have e1 : H1[H.size]? = some (arrV cB n.toNatClampNeg (fun _ => .null)) := by rw [← hH1, Array.getElem?_push_size, ← arrV_new]
  have o1 : ∀ q : Nat, q < H.size → H1[q]? = H[q]? := fun q hq => by rw [← hH1, Array.getElem?_push, if_neg (Nat.ne_of_lt hq)]
  obtain ⟨_, _, -, -, -, g4⟩ := (hK.2 t _ ht).2
  have hcB : cB = cA t := Option.some.inj (f1.symm.trans g4)
  subst hcB
  refine W.eq (by rw [← ea]) (kk H1 (zc_P_of (by rw [z1, ea, List.length_append]; rfl) (fun k x hx => ?_)) ⟨Nat.le_trans hS.1 (by omega), fun x h1 h2 => (o1 x (Nat.lt_of_lt_of_le h1 hS.1)).trans (hS.2.1 x h1 h2), hS.2.2⟩)
  by_cases hl : k < L.length
  · rw [List.getElem?_append_left hl] at hx
    have h3 := zc_P_at hP hx
    exact h3.kept (o1 _ (by rw [ea]; show h + k < _; omega))
  · rw [List.getElem?_append_right (by omega)] at hx
    have hz : k - L.length < 1 := (List.getElem?_eq_some_iff.mp hx).1
    rw [show k - L.length = 0 by omega] at hx
    cases hx
    rw [show h + k = H.size by omega]
    show H1[H.size]? = some (vp_cell _ _)
    rw [vp_cell_q]
    exact e1
theorem zc_iast {q0 t0 n : Nat} {f : Nat → Int32} {i x : Int32} (hexec : p.tables.exec = Jvm.exec) (hb : c.code = cc) (hK : va_K D zy_cl tys s) (hP : zc_P D h L H) (hS : va_S (fun q => a0 ≤ q) H0 H locs) (hA : a0 ≤ h) {cB : ClassId} (ha : L[q0]? = some (.inl (cB, n, .inl f))) (ht : tys[t0]? = some (cB, .int)) (hin : vp_in i n) (hdg : decode cc pc = .ok (.iastore, 1))
    (kk : ∀ (H1 : Heap) (locs1 : List Loc), zc_P D h (L.set q0 (.inl (cB, n, .inl (upd f i.toNatClampNeg x)))) H1 → va_S (fun q => a0 ≤ q) H0 H1 locs1 → W p l e R s m args below meth c H1 locs1 cells slots Q (F0 m (pc + 1) ls rest)) : W p l e R s m args below meth c H locs cells slots Q (F0 m pc ls (.int x :: .int i :: .ref (h + q0) :: rest)) := by
  have ha2 : (zc_w h L)[q0]? = some (h + q0, .inl (cB, n, .inl f)) := by rw [zc_w_at, ha]; rfl
  refine W.iast hexec hb (hP.2 q0 _ ha2) ((hK.2 t0 _ ht).1 n (fun j => .int (f j))) (fun q => by cases q) (by show ¬ (i < 0 ∨ (arrV _ _ _).slots.size ≤ _); rw [arrV_size]; exact hin) rfl rfl hdg fun H1 e z oq => ?_
  have h5 := hP.2.set (H1 := H1) (zc_D h _) (p := q0) (a := h + q0) (e0 := .inl (cB, n, .inl f)) (e := .inl (cB, n, .inl (upd f i.toNatClampNeg x))) ha2 ?_ oq
  · rw [zc_w_set] at h5
    exact kk H1 _ ⟨by rw [z, hP.1, List.length_set], h5⟩ (hS.put z oq (show a0 ≤ h + q0 by omega))
  · show H1[h + q0]? = some (vp_cell _ _)
    rw [e]
    rw [vp_cell_i, vp_cell_i, arrV_store]
    congr 2
    funext q
    by_cases hq : q = i.toNatClampNeg
    · subst hq
      simp [updV, upd]
    · simp [updV, upd, hq]
theorem zc_astq {q0 t0 qk ci n : Nat} {r : vw_C} {vs : List Value} {f : Nat → Option Nat} {i : Int32} (hexec : p.tables.exec = Jvm.exec) (hb : c.code = cc) (hK : va_K D zy_cl tys s) (hP : zc_P D h L H) (hS : va_S (fun q => a0 ≤ q) H0 H locs) (hA : a0 ≤ h) {cB : ClassId} (ha : L[q0]? = some (.inl (cB, n, .inr (.inr (.inr (.inr f)))))) (ht : tys[t0]? = some (cB, .object r.1)) (hv : L[qk]? = some (.inr (ci, vs))) (hc : zy_cl[ci]? = some r) (hin : vp_in i n) (hdg : decode cc pc = .ok (.aastore, 1))
    (kk : ∀ (H1 : Heap) (locs1 : List Loc), zc_P D h (L.set q0 (.inl (cB, n, .inr (.inr (.inr (.inr (va_up f i.toNatClampNeg (some (h + qk))))))))) H1 → va_S (fun q => a0 ≤ q) H0 H1 locs1 → W p l e R s m args below meth c H1 locs1 cells slots Q (F0 m (pc + 1) ls rest)) : W p l e R s m args below meth c H locs cells slots Q (F0 m pc ls (.ref (h + qk) :: .int i :: .ref (h + q0) :: rest)) := by
  have hlt : i.toNatClampNeg < n := Nat.not_le.mp fun q => hin (Or.inr q)
  have h0 : ¬ i < 0 := fun q => hin (Or.inl q)
  have ha2 : (zc_w h L)[q0]? = some (h + q0, .inl (cB, n, .inr (.inr (.inr (.inr f))))) := by rw [zc_w_at, ha]; rfl
  obtain ⟨r', hr', cellV, g1, g2, g3, -⟩ := zc_P_at hP hv
  have hcls := (hK.1 ci r hc).2
  obtain ⟨kA, comp, k1, k2, k3, -⟩ := (hK.2 t0 _ ht).2
  have hcomp : comp = D.1 ci := Option.some.inj (k3.symm.trans hcls.1)
  subst hcomp
  obtain ⟨kC, hkC, -⟩ := hcls.2
  refine W.aast hexec hb (hP.2 q0 _ ha2) (fun q h => by cases h) (fun h => by cases h) k1 k2 rfl hkC ⟨h0, by show _ < (arrV _ _ _).slots.size; rw [arrV_size]; exact hlt⟩ g1 (fun q h => by rw [g3] at h; cases h) (by rw [g2]; exact hkC) (by rw [g2]; exact va_assign hcls) rfl rfl hdg fun H1 e z oq => ?_
  have h5 := hP.2.set (H1 := H1) (zc_D h _) (p := q0) (a := h + q0) (e0 := .inl (cB, n, .inr (.inr (.inr (.inr f))))) (e := .inl (cB, n, .inr (.inr (.inr (.inr (va_up f i.toNatClampNeg (some (h + qk)))))))) ha2 ?_ oq
  · rw [zc_w_set] at h5
    exact kk H1 _ ⟨by rw [z, hP.1, List.length_set], h5⟩ (hS.put z oq (show a0 ≤ h + q0 by omega))
  · show H1[h + q0]? = some (vp_cell _ _)
    rw [e]
    rw [vp_cell_q, vp_cell_q, arrV_store]
    congr 2
    funext q
    by_cases hq : q = i.toNatClampNeg
    · subst hq
      simp [updV, va_up, va_rf]
    · simp [updV, va_up, hq]
end ZC
