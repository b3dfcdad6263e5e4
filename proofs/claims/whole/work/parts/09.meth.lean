/-! ===== blocks and methods of the small machine ===== -/
def zm_wp (own : Nat) (ret : Option FieldType) (Cl : zm_Me → List Value → zm_M → (Option Value → zm_M → Prop) → Prop) (J : Nat → zm_L → List Value → zm_M → Prop) (Rt : Option Value → zm_M → Prop) : List zm_En → Nat → zm_L → List Value → zm_M → Prop
  | [], pc => J pc
  | q :: is, _ => zm_st own ret Cl J Rt q (zm_wp own ret Cl J Rt is q.2.2.1)
def zm_okB (cc : ByteArray) (nL : Nat) : List zm_En → Nat → Bool
  | [], _ => true
  | q :: is, pc => decide (q.1 = pc) && zm_okq cc nL q && zm_okB cc nL is q.2.2.1
def zm_okA (cc : ByteArray) (nL : Nat) (bk : List (Nat × List zm_En)) : Bool := bk.all (fun b => zm_okB cc nL b.2 b.1)
theorem zm_wp_ok {p : Program} {e : Env} {s : State} {m : MethodId} {args : Array Value} {below : List Frame} {meth : Method} {c : Code} {E : zm_E} {d own nL : Nat} {cc : ByteArray} {ret : Option FieldType} {Q : Option Value → zm_M → Prop} (Cx : zm_cx p s m args meth c E own cc nL ret) :
    ∀ (is : List zm_En) (pc : Nat), zm_okB cc nL is pc = true → ∀ (lv : zm_L) (st : List Value) (M : zm_M), zm_wp own ret (zm_R E d) (zm_G p e s m args below meth c E d nL Q) Q is pc lv st M → zm_G p e s m args below meth c E d nL Q pc lv st M := by
  intro is
  induction is with
  | nil => intro pc _ lv st M h; exact h
  | cons q is ih =>
    intro pc hok lv st M h
    obtain ⟨h1, h2⟩ := zm_b0 hok
    obtain ⟨h3, h4⟩ := zm_b0 h1
    have e := of_decide_eq_true h3
    subst e
    exact zm_step Cx h4 (fun _ _ _ _ h => h) (ih q.2.2.1 h2) h
def zm_ndb : List Value → Nat → Bool
  | [], _ => true
  | .double _ :: _, _ => false
  | .long _ :: vs, n + 2 => zm_ndb vs n
  | .long _ :: _, _ => false
  | .int _ :: vs, n + 1 => zm_ndb vs n
  | .ref _ :: vs, n + 1 => zm_ndb vs n
  | .null :: vs, n + 1 => zm_ndb vs n
  | _, _ => false
theorem zm_ndb_of (ad : Nat → Nat) : ∀ (as : List Value) (n : Nat), zm_ndb as n = true → (∀ x, Value.double x ∉ as) ∧ (lg_sl (as.map (zm_c ad))).length ≤ n := by
  intro as
  induction as with
  | nil => intro n _; exact ⟨fun x h => (by cases h), by simp [lg_sl]⟩
  | cons a as ih =>
    intro n h
    cases a with
    | long x =>
      match n with
      | 0 => exact absurd h (by simp [zm_ndb])
      | 1 => exact absurd h (by simp [zm_ndb])
      | n + 2 =>
        obtain ⟨h1, h2⟩ := ih n h
        refine ⟨fun y hy => ?_, ?_⟩
        · rcases List.mem_cons.mp hy with e | hy
          · cases e
          · exact h1 y hy
        · simp only [lg_sl, List.map_cons, List.flatMap_cons, zm_c, Value.category, if_true, List.length_append, List.length_cons, List.length_nil] at h2 ⊢
          omega
    | int x =>
      match n with
      | 0 => exact absurd h (by simp [zm_ndb])
      | n + 1 =>
        obtain ⟨h1, h2⟩ := ih n h
        refine ⟨fun y hy => ?_, ?_⟩
        · rcases List.mem_cons.mp hy with e | hy
          · cases e
          · exact h1 y hy
        · simp [lg_sl, zm_c, Value.category] at h2 ⊢
          omega
    | ref x =>
      match n with
      | 0 => exact absurd h (by simp [zm_ndb])
      | n + 1 =>
        obtain ⟨h1, h2⟩ := ih n h
        refine ⟨fun y hy => ?_, ?_⟩
        · rcases List.mem_cons.mp hy with e | hy
          · cases e
          · exact h1 y hy
        · simp [lg_sl, zm_c, Value.category] at h2 ⊢
          omega
    | null =>
      match n with
      | 0 => exact absurd h (by simp [zm_ndb])
      | n + 1 =>
        obtain ⟨h1, h2⟩ := ih n h
        refine ⟨fun y hy => ?_, ?_⟩
        · rcases List.mem_cons.mp hy with e | hy
          · cases e
          · exact h1 y hy
        · simp [lg_sl, zm_c, Value.category] at h2 ⊢
          omega
    | double x => exact absurd h (by simp [zm_ndb])
    | float x => exact absurd h (by simp [zm_ndb])
    | retAddr x => exact absurd h (by simp [zm_ndb])
set_option maxHeartbeats 4000000 in
theorem zm_meth {E : zm_E} (hE : zm_ok E.2.2.1 E.2.2.2.2) {d own : Nat} {me : zm_Me} (hcls : me.1.cls = zy_on own) (hpl : plainName me.1.cls = true) (bk : List (Nat × List zm_En)) (hbk : zm_okA me.2.1 me.2.2.1 bk = true) {as : List Value} {M : zm_M} {Q : Option Value → zm_M → Prop} (hnd : zm_ndb as me.2.2.1 = true)
    (h : ∀ G : Nat → zm_L → List Value → zm_M → Prop, (∀ (pc : Nat) (is : List zm_En), (pc, is) ∈ bk → ∀ lv st M, zm_wp own me.2.2.2 (zm_R E d) G Q is pc lv st M → G pc lv st M) → G 0 (zm_ent as me.2.2.1) [] M) : zm_R E (d + 1) me as M Q := by
  obtain ⟨y, cc, maxL, ret⟩ := me
  dsimp only at hcls hpl hbk hnd h
  refine Met.ofW (cc := cc) (maxL := maxL) (ret := ret) hpl rfl ?_
  intro p e s m args below meth c s₁ B hml hv
  obtain ⟨rfl, hP, hK, hSF⟩ := hv
  have hts : ∀ w ∈ zy_T, w.before (as.map (zm_c E.2.2.1)).toArray s = true := fun w hw => atoms_spec (ws := Cond.code y cc maxL ret :: zy_T) B.pre w (List.mem_cons_of_mem _ hw)
  have hown : s.vm.findClass (zy_on own) = some m.cls := by rw [← hcls]; exact findClass_of_methodNamed B.named
  have Cx : zm_cx p s m (as.map (zm_c E.2.2.1)).toArray meth c E own cc maxL ret := ⟨B.exec, B.bytes, hml, hown, hts, hK, hE, hSF, B.returns, B.notSynchronized⟩
  obtain ⟨hd1, hd2⟩ := zm_ndb_of E.2.2.1 as maxL hnd
  have hl := lv_entry (as.map (zm_c E.2.2.1)) (n := maxL) hd2
  rw [lg_entry_eq]
  refine h (zm_G p e s m (as.map (zm_c E.2.2.1)).toArray below meth c E d maxL Q) (fun pc is hm lv st M hw => zm_wp_ok Cx is pc ?_ lv st M hw) s.heap [] _ hP va_S.rf ?_
  · have := List.all_eq_true.mp hbk (pc, is) hm
    exact this
  · refine ⟨hl.1, hl.2.1, fun i v hv => ?_⟩
    have h1 := zm_get_app_none _ _ i v hv
    have h2 := zm_ent_args E.2.2.1 as 0 i v hd1 h1
    rw [Nat.zero_add] at h2
    exact hl.2.2 _ h2
/-- more than is asked -/
theorem zm_R_mono {E : zm_E} {d : Nat} {me : zm_Me} {as : List Value} {M : zm_M} {Q Q' : Option Value → zm_M → Prop} (h : zm_R E d me as M Q) (hq : ∀ r M', Q r M' → Q' r M') : zm_R E d me as M Q' := by
  unfold zm_R at h ⊢
  have key : ∀ a st o t, (zm_Qc E Q a st o t ∧ ∃ L, FrameEnd st o t L 0 0 ∧ ∀ q ∈ L, E.2.2.2.2 q.base) → (zm_Qc E Q' a st o t ∧ ∃ L, FrameEnd st o t L 0 0 ∧ ∀ q ∈ L, E.2.2.2.2 q.base) := by
    intro a st o t ⟨⟨⟨r, M', h1, h2, h3⟩, h4⟩, h5⟩
    exact ⟨⟨⟨r, M', h1, hq r M' h2, h3⟩, h4⟩, h5⟩
  intro p e ha hc hk s m args below hf happ hP hK
  obtain ⟨k, o, g1, g2, g3, g4⟩ := h p e ha hc hk s m args below hf happ hP hK
  exact ⟨k, o, g1, g2, g3, key _ _ _ _ g4⟩
