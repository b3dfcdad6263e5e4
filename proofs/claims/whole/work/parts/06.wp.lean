/-! ===== the small machine's steps, as what they ask ===== -/
abbrev zm_En : Type := Nat × Instr × Nat × Nat × Int32 × List (Int32 × Nat)
def zm_I (st : List Value) (k : Int32 → List Value → Prop) : Prop := match st with
  | .int x :: t => k x t
  | _ => False
def zm_J (st : List Value) (k : Int64 → List Value → Prop) : Prop := match st with
  | .long x :: t => k x t
  | _ => False
def zm_P (st : List Value) (k : Nat → List Value → Prop) : Prop := match st with
  | .ref x :: t => k x t
  | _ => False
def zm_A (st : List Value) (k : Option Nat → List Value → Prop) : Prop := match st with
  | .ref x :: t => k (some x) t
  | .null :: t => k none t
  | _ => False
def zm_V (st : List Value) (k : Value → List Value → Prop) : Prop := match st with
  | .ref x :: t => k (.ref x) t
  | .null :: t => k .null t
  | .int x :: t => k (.int x) t
  | _ => False
theorem zm_I_of {st : List Value} {k : Int32 → List Value → Prop} (h : zm_I st k) : ∃ x t, st = .int x :: t ∧ k x t := by
  unfold zm_I at h
  split at h
  · exact ⟨_, _, rfl, h⟩
  · exact h.elim
theorem zm_J_of {st : List Value} {k : Int64 → List Value → Prop} (h : zm_J st k) : ∃ x t, st = .long x :: t ∧ k x t := by
  unfold zm_J at h
  split at h
  · exact ⟨_, _, rfl, h⟩
  · exact h.elim
theorem zm_P_of {st : List Value} {k : Nat → List Value → Prop} (h : zm_P st k) : ∃ x t, st = .ref x :: t ∧ k x t := by
  unfold zm_P at h
  split at h
  · exact ⟨_, _, rfl, h⟩
  · exact h.elim
theorem zm_A_of {st : List Value} {k : Option Nat → List Value → Prop} (h : zm_A st k) : ∃ x t, st = va_rf x :: t ∧ k x t := by
  unfold zm_A at h
  split at h
  · exact ⟨some _, _, rfl, h⟩
  · exact ⟨none, _, rfl, h⟩
  · exact h.elim
theorem zm_V_of {st : List Value} {k : Value → List Value → Prop} (h : zm_V st k) : ∃ x t, st = x :: t ∧ x.category = 1 ∧ k x t := by
  unfold zm_V at h
  split at h
  · exact ⟨_, _, rfl, rfl, h⟩
  · exact ⟨_, _, rfl, rfl, h⟩
  · exact ⟨_, _, rfl, rfl, h⟩
  · exact h.elim
def zm_gI (lv : zm_L) (i : Nat) (k : Int32 → Prop) : Prop := match zm_get lv i with
  | some (.int x) => k x
  | _ => False
def zm_gJ (lv : zm_L) (i : Nat) (k : Int64 → Prop) : Prop := match zm_get lv i with
  | some (.long x) => k x
  | _ => False
def zm_gA (lv : zm_L) (i : Nat) (k : Value → Prop) : Prop := match zm_get lv i with
  | some (.ref x) => k (.ref x)
  | some .null => k .null
  | _ => False
theorem zm_gI_of {lv : zm_L} {i : Nat} {k : Int32 → Prop} (h : zm_gI lv i k) : ∃ x, zm_get lv i = some (.int x) ∧ k x := by
  unfold zm_gI at h
  split at h
  · next x e => exact ⟨x, e, h⟩
  · exact h.elim
theorem zm_gJ_of {lv : zm_L} {i : Nat} {k : Int64 → Prop} (h : zm_gJ lv i k) : ∃ x, zm_get lv i = some (.long x) ∧ k x := by
  unfold zm_gJ at h
  split at h
  · next x e => exact ⟨x, e, h⟩
  · exact h.elim
theorem zm_gA_of {lv : zm_L} {i : Nat} {k : Value → Prop} (h : zm_gA lv i k) : (∃ x, zm_get lv i = some (.ref x) ∧ k (.ref x)) ∨ (zm_get lv i = some .null ∧ k .null) := by
  unfold zm_gA at h
  split at h
  · next x e => exact Or.inl ⟨x, e, h⟩
  · next e => exact Or.inr ⟨e, h⟩
  · exact h.elim
def zm_br (c A B : Prop) : Prop := (c → A) ∧ (¬ c → B)
def zm_c0 (c : ClassFile.Cond) (x : Int32) : Prop := match c with
  | .eq => x = 0
  | .ne => ¬ x = 0
  | .lt => x < 0
  | .ge => 0 ≤ x
  | .gt => 0 < x
  | .le => x ≤ 0
def zm_c2 (c : ClassFile.Cond) (x y : Int32) : Prop := match c with
  | .eq => x = y
  | .ne => ¬ x = y
  | .lt => x < y
  | .ge => y ≤ x
  | .gt => y < x
  | .le => x ≤ y
def zm_sw (J : Nat → Prop) (x : Int32) : List (Int32 × Nat) → Nat → Prop
  | [], d => J d
  | (c, t) :: r, d => (x = c → J t) ∧ (¬ x = c → zm_sw J x r d)
def zm_nr (ret : Option FieldType) (x : Int32) : Prop := match ret with
  | some ty => narrow ty (.int x) = .int x
  | none => False
def zm_ra (ret : Option FieldType) : Prop := match ret with
  | some (.object _) => True
  | _ => False
/-- few enough words lie below a call's arguments -/
def zm_sh (st : List Value) : Prop := st.length ≤ 4 ∨ (st.length ≤ 8 ∧ ∀ v, v ∈ st → v.category = 1)
theorem zm_sh_sum {st : List Value} (ad : Nat → Nat) (h : zm_sh st) : ((st.map (zm_c ad)).map fun v => v.category).sum ≤ 8 := by
  have key : ∀ l : List Value, ((l.map (zm_c ad)).map fun v => v.category).sum ≤ 2 * l.length := by
    intro l
    induction l with
    | nil => simp
    | cons a l ih =>
      have h1 : (zm_c ad a).category ≤ 2 := by cases a <;> simp [zm_c, Value.category]
      simp only [List.map_cons, List.sum_cons, List.length_cons]
      omega
  have key1 : ∀ l : List Value, (∀ v, v ∈ l → v.category = 1) → ((l.map (zm_c ad)).map fun v => v.category).sum ≤ l.length := by
    intro l
    induction l with
    | nil => intro _; simp
    | cons a l ih =>
      intro hl
      have h1 : (zm_c ad a).category = 1 := by rw [zm_c_cat]; exact hl a List.mem_cons_self
      have h2 := ih (fun v hv => hl v (List.mem_cons_of_mem _ hv))
      simp only [List.map_cons, List.sum_cons, List.length_cons]
      omega
  unfold zm_sh at h
  rcases h with h | ⟨h, h1⟩
  · have := key st
    omega
  · have := key1 st h1
    omega
/-- n values off the stack, the lowest first -/
def zm_pop : Nat → List Value → List Value → (List Value → List Value → Prop) → Prop
  | 0, st, as, k => k as st
  | n + 1, v :: st, as, k => zm_pop n st (v :: as) k
  | _ + 1, [], _, _ => False
theorem zm_pop_of : ∀ (n : Nat) (st as : List Value) (k : List Value → List Value → Prop), zm_pop n st as k → ∃ bs rest, bs.length = n ∧ st = bs.reverse ++ rest ∧ k (bs ++ as) rest := by
  intro n
  induction n with
  | zero => intro st as k h; exact ⟨[], st, rfl, rfl, h⟩
  | succ n ih =>
    intro st as k h
    cases st with
    | nil => exact h.elim
    | cons v st =>
      obtain ⟨bs, rest, h1, h2, h3⟩ := ih st (v :: as) k h
      exact ⟨bs ++ [v], rest, by simp [h1], by simp [h2], by simpa using h3⟩
/-- a value put into a field -/
def zm_pf (M : zm_M) (p ci f : Nat) (v : Value) (k : zm_M → Prop) : Prop := match zy_fk ci f, v with
  | (0, 0), .int x => k (zm_wi M p f x)
  | (0, 1), .int x => (x = 0 ∨ x = 1) ∧ k (zm_wi M p f x)
  | (1, _), .long x => k (zm_wj M p f x)
  | (4, _), .ref q => k (zm_wr M p f (some q))
  | (4, _), .null => k (zm_wr M p f none)
  | _, _ => False
def zm_W (st : List Value) (k : Value → List Value → Prop) : Prop := match st with
  | v :: t => k v t
  | _ => False
theorem zm_W_of {st : List Value} {k : Value → List Value → Prop} (h : zm_W st k) : ∃ x t, st = x :: t ∧ k x t := by
  unfold zm_W at h
  split at h
  · exact ⟨_, _, rfl, h⟩
  · exact h.elim
/-- a reference out of an array of references -/
def zm_ao (M : zm_M) (p : Nat) (i : Nat) : Value := match (zy_ly p).1 with
  | 104 => .ref (zy_el 4 p i)
  | 105 => .ref (zy_el 5 p i)
  | _ => va_rf (M.2.2 p i)
/-- calls that are no methods of the two classes -/
def zm_nat (n : Nat) (st : List Value) (M : zm_M) (k : List Value → zm_M → Prop) : Prop := match n with
  | 3 => zm_I st fun y st => zm_I st fun x st => zm_sh st ∧ k (.int (if x < y then y else x) :: st) M
  | 4 => zm_I st fun y st => zm_I st fun x st => zm_sh st ∧ k (.int (if y < x then y else x) :: st) M
  | 5 => zm_I st fun x st => zm_sh st ∧ k (.int (if 0 ≤ x then x else 0 - x) :: st) M
  | 6 => zm_I st fun n st => zm_I st fun dp st => zm_P st fun b st => zm_I st fun sp st => zm_P st fun a st => zm_sh st ∧ (∃ la lb, zm_ar a 0 la ∧ zm_ar b 0 lb ∧ ¬ sp < 0 ∧ ¬ dp < 0 ∧ ¬ n < 0 ∧ sp.toNatClampNeg + n.toNatClampNeg ≤ la ∧ dp.toNatClampNeg + n.toNatClampNeg ≤ lb) ∧ k st (zm_wa M b (va_cpy (M.1 a) (M.1 b) sp.toNatClampNeg dp.toNatClampNeg n.toNatClampNeg))
  | _ => False
def zm_st (own : Nat) (ret : Option FieldType) (Cl : zm_Me → List Value → zm_M → (Option Value → zm_M → Prop) → Prop) (J : Nat → zm_L → List Value → zm_M → Prop) (Rt : Option Value → zm_M → Prop) (q : zm_En) (k : zm_L → List Value → zm_M → Prop) (lv : zm_L) (st : List Value) (M : zm_M) : Prop := match q.2.1 with
  | .iconst _ => k lv (.int q.2.2.2.2.1 :: st) M
  | .bipush _ => k lv (.int q.2.2.2.2.1 :: st) M
  | .sipush _ => k lv (.int q.2.2.2.2.1 :: st) M
  | .ldc i => Cond.constant (zy_on own) i q.2.2.2.2.1 ∈ zy_T ∧ k lv (.int q.2.2.2.2.1 :: st) M
  | .ldc_w i => Cond.constant (zy_on own) i q.2.2.2.2.1 ∈ zy_T ∧ k lv (.int q.2.2.2.2.1 :: st) M
  | .ldc2_w i => Cond.constantLong (zy_on own) i (zy_kl own i) ∈ zy_T ∧ k lv (.long (zy_kl own i) :: st) M
  | .lconst n => k lv (.long (Int64.ofNat (n : Nat)) :: st) M
  | .aconst_null => k lv (.null :: st) M
  | .iload i => zm_gI lv i fun x => k lv (.int x :: st) M
  | .iload_n i => zm_gI lv (i : Nat) fun x => k lv (.int x :: st) M
  | .lload i => zm_gJ lv i fun x => k lv (.long x :: st) M
  | .lload_n i => zm_gJ lv (i : Nat) fun x => k lv (.long x :: st) M
  | .aload i => zm_gA lv i fun x => k lv (x :: st) M
  | .aload_n i => zm_gA lv (i : Nat) fun x => k lv (x :: st) M
  | .istore i => zm_I st fun x st => k (zm_s1 lv i (.int x)) st M
  | .istore_n i => zm_I st fun x st => k (zm_s1 lv (i : Nat) (.int x)) st M
  | .lstore i => zm_J st fun x st => k (zm_s2 lv i (.long x)) st M
  | .lstore_n i => zm_J st fun x st => k (zm_s2 lv (i : Nat) (.long x)) st M
  | .astore i => zm_A st fun x st => k (zm_s1 lv i (va_rf x)) st M
  | .astore_n i => zm_A st fun x st => k (zm_s1 lv (i : Nat) (va_rf x)) st M
  | .iinc i _ => zm_gI lv i fun x => k (zm_s1 lv i (.int (x + q.2.2.2.2.1))) st M
  | .iadd => zm_I st fun y st => zm_I st fun x st => k lv (.int (x + y) :: st) M
  | .isub => zm_I st fun y st => zm_I st fun x st => k lv (.int (x - y) :: st) M
  | .imul => zm_I st fun y st => zm_I st fun x st => k lv (.int (x * y) :: st) M
  | .idiv => zm_I st fun y st => zm_I st fun x st => ¬ y = 0 ∧ k lv (.int (x / y) :: st) M
  | .irem => zm_I st fun y st => zm_I st fun x st => ¬ y = 0 ∧ k lv (.int (x - x / y * y) :: st) M
  | .iand => zm_I st fun y st => zm_I st fun x st => k lv (.int (x &&& y) :: st) M
  | .ior => zm_I st fun y st => zm_I st fun x st => k lv (.int (x ||| y) :: st) M
  | .ixor => zm_I st fun y st => zm_I st fun x st => k lv (.int (x ^^^ y) :: st) M
  | .ishl => zm_I st fun y st => zm_I st fun x st => k lv (.int (x <<< (y &&& 31)) :: st) M
  | .ishr => zm_I st fun y st => zm_I st fun x st => k lv (.int (x >>> (y &&& 31)) :: st) M
  | .iushr => zm_I st fun y st => zm_I st fun x st => k lv (.int (x.toUInt32 >>> (y.toUInt32 &&& Int32.toUInt32 31)).toInt32 :: st) M
  | .ineg => zm_I st fun x st => k lv (.int (-x) :: st) M
  | .ladd => zm_J st fun y st => zm_J st fun x st => k lv (.long (x + y) :: st) M
  | .lsub => zm_J st fun y st => zm_J st fun x st => k lv (.long (x - y) :: st) M
  | .lmul => zm_J st fun y st => zm_J st fun x st => k lv (.long (x * y) :: st) M
  | .ldiv => zm_J st fun y st => zm_J st fun x st => ¬ y = 0 ∧ k lv (.long (x / y) :: st) M
  | .lrem => zm_J st fun y st => zm_J st fun x st => ¬ y = 0 ∧ k lv (.long (x - x / y * y) :: st) M
  | .lor => zm_J st fun y st => zm_J st fun x st => k lv (.long (x ||| y) :: st) M
  | .lneg => zm_J st fun x st => k lv (.long (-x) :: st) M
  | .lshl => zm_I st fun y st => zm_J st fun x st => k lv (.long (x <<< (y.toInt64 &&& 63)) :: st) M
  | .lshr => zm_I st fun y st => zm_J st fun x st => k lv (.long (x >>> (y.toInt64 &&& 63)) :: st) M
  | .lcmp => zm_J st fun y st => zm_J st fun x st => k lv (.int (lg_cmp x y) :: st) M
  | .i2l => zm_I st fun x st => k lv (.long x.toInt64 :: st) M
  | .l2i => zm_J st fun x st => k lv (.int x.toInt32 :: st) M
  | .i2c => zm_I st fun x st => k lv (.int (x.toUInt32 % 65536).toInt32 :: st) M
  | .dup => zm_V st fun v st => k lv (v :: v :: st) M
  | .dup2 => zm_V st fun v st => zm_V st fun w st => k lv (v :: w :: v :: w :: st) M
  | .pop => zm_V st fun _ st => k lv st M
  | .ifCond c _ => zm_I st fun x st => zm_br (zm_c0 c x) (J q.2.2.2.1 lv st M) (k lv st M)
  | .if_icmp c _ => zm_I st fun y st => zm_I st fun x st => zm_br (zm_c2 c x y) (J q.2.2.2.1 lv st M) (k lv st M)
  | .if_acmp .eq _ => zm_A st fun y st => zm_A st fun x st => zm_br (x = y) (J q.2.2.2.1 lv st M) (k lv st M)
  | .if_acmp .ne _ => zm_A st fun y st => zm_A st fun x st => zm_br (¬ x = y) (J q.2.2.2.1 lv st M) (k lv st M)
  | .ifnull _ => zm_A st fun x st => (x = none → J q.2.2.2.1 lv st M) ∧ (∀ y, x = some y → k lv st M)
  | .goto _ => J q.2.2.2.1 lv st M
  | .tableswitch _ _ _ _ => zm_I st fun x st => zm_sw (fun t => J t lv st M) x q.2.2.2.2.2 q.2.2.2.1
  | .lookupswitch _ _ => zm_I st fun x st => zm_sw (fun t => J t lv st M) x q.2.2.2.2.2 q.2.2.2.1
  | .ireturn => zm_I st fun x st => st = [] ∧ zm_nr ret x ∧ Rt (some (.int x)) M
  | .lreturn => zm_J st fun x st => st = [] ∧ ret = some .long ∧ Rt (some (.long x)) M
  | .areturn => zm_A st fun x st => st = [] ∧ zm_ra ret ∧ Rt (some (va_rf x)) M
  | .return_ => st = [] ∧ ret = none ∧ Rt none M
  | .getfield i => match zz_gf own i with
    | 0 => zm_P st fun p st => zm_ob p (zy_fr own i).1 ∧ zy_fo own i ∧ k lv (zm_fv id M p (zy_fr own i).1 (zy_fr own i).2 :: st) M
    | f + 1 => zm_P st fun p st => (1000 ≤ p ∧ p < 1044) ∧ k lv (.int (zz_fv f (p - 1000)) :: st) M
  | .getstatic i => match zz_gs own i with
    | some w => k lv (.ref (1000 + w) :: st) M
    | none => False
  | .aastore => zm_P st fun v st => zm_I st fun i st => zm_P st fun p st => (1000 ≤ v ∧ v < 1044) ∧ (∃ n, zm_ar p 6 n ∧ vp_in i n) ∧ k lv st (zm_wr M p i.toNatClampNeg (some v))
  | .putfield i => zm_W st fun v st => zm_P st fun p st => zm_ob p (zy_fr own i).1 ∧ zy_fo own i ∧ zm_pf M p (zy_fr own i).1 (zy_fr own i).2 v (fun M' => k lv st M')
  | .iaload => zm_I st fun i st => zm_P st fun p st => (∃ n, zm_ar p 0 n ∧ vp_in i n) ∧ k lv (.int (M.1 p i.toNatClampNeg) :: st) M
  | .caload => zm_I st fun i st => zm_P st fun p st => (∃ n, zm_ar p 1 n ∧ vp_in i n) ∧ k lv (.int (M.1 p i.toNatClampNeg) :: st) M
  | .baload => zm_I st fun i st => zm_P st fun p st => (∃ n, zm_ar p 2 n ∧ vp_in i n) ∧ k lv (.int (M.1 p i.toNatClampNeg) :: st) M
  | .laload => zm_I st fun i st => zm_P st fun p st => (∃ n, zm_ar p 3 n ∧ vp_in i n) ∧ k lv (.long (M.2.1 p i.toNatClampNeg) :: st) M
  | .aaload => zm_I st fun i st => zm_P st fun p st => (∃ t n, zm_ar p t n ∧ 4 ≤ t ∧ t < 7 ∧ vp_in i n) ∧ k lv (zm_ao M p i.toNatClampNeg :: st) M
  | .iastore => zm_I st fun x st => zm_I st fun i st => zm_P st fun p st => (∃ n, zm_ar p 0 n ∧ vp_in i n) ∧ k lv st (zm_wi M p i.toNatClampNeg x)
  | .castore => zm_I st fun x st => zm_I st fun i st => zm_P st fun p st => (∃ n, zm_ar p 1 n ∧ vp_in i n) ∧ k lv st (zm_wi M p i.toNatClampNeg (vp_nar .char x))
  | .bastore => zm_I st fun x st => zm_I st fun i st => zm_P st fun p st => (∃ n, zm_ar p 2 n ∧ vp_in i n) ∧ k lv st (zm_wi M p i.toNatClampNeg (vp_nar .boolean x))
  | .lastore => zm_J st fun x st => zm_I st fun i st => zm_P st fun p st => (∃ n, zm_ar p 3 n ∧ vp_in i n) ∧ k lv st (zm_wj M p i.toNatClampNeg x)
  | .arraylength => zm_P st fun p st => (∃ t, t < 7 ∧ zm_ar p t (zy_ly p).2) ∧ k lv (.int (Int32.ofNat (zy_ly p).2) :: st) M
  | .invokevirtual i => zm_pop ((zy_mr own i).2.2.1 + 1) st [] fun as st => zm_sh st ∧ zm_P as (fun p _ => zm_ob p (zy_mr own i).2.1) ∧ zy_mv own i ∧ Cl (zy_mr own i).2.2.2 as M (fun r M' => k lv (r.toList ++ st) M')
  | .invokestatic i => if 3 ≤ (zy_mr own i).1 then zy_mn own i ∧ zm_nat (zy_mr own i).1 st M (fun st M' => k lv st M') else zm_pop (zy_mr own i).2.2.1 st [] fun as st => zm_sh st ∧ zy_ms own i ∧ Cl (zy_mr own i).2.2.2 as M (fun r M' => k lv (r.toList ++ st) M')
  | _ => False
/-! ===== contracts, and what a step needs ===== -/
abbrev zm_E : Type := Launch × va_G × (Nat → Nat) × (Nat → ClassId) × (Nat → Prop)
def zm_Pc (E : zm_E) (as : List Value) (M : zm_M) : Array Value → State → Prop := va_Pc (as.map (zm_c E.2.2.1)) (fun U => va_P E.2.1 zy_cl (zm_ws E.2.2.1 E.2.2.2.1 M) U.heap ∧ va_K E.2.1 zy_cl (zm_tys E.2.2.2.1) U ∧ zm_SF E.2.2.1 E.2.2.2.2 U U.heap)
def zm_Qc (E : zm_E) (Q : Option Value → zm_M → Prop) : Array Value → State → Outcome → State → Prop := fun _ st o t => (∃ (r : Option Value) (M' : zm_M), o = .returned (r.map (zm_c E.2.2.1)) ∧ Q r M' ∧ va_P E.2.1 zy_cl (zm_ws E.2.2.1 E.2.2.2.1 M') t.heap) ∧ va_F E.2.2.2.2 st t
def zm_rm (d : Nat) : Room := { frames := d, cells := 0, slots := 0, locals := 64 * d }
/-- the method me, called with as over M, returns r over M' with Q r M', in the room of d frames -/
def zm_R (E : zm_E) (d : Nat) (me : zm_Me) (as : List Value) (M : zm_M) (Q : Option Value → zm_M → Prop) : Prop := Met E.1 me.1 (Cond.code me.1 me.2.1 me.2.2.1 me.2.2.2 :: zy_T) (zm_rm d) (zm_Pc E as M) (zm_Qc E Q) 0 0 E.2.2.2.2
def zm_G (p : Program) (e : Env) (s : State) (m : MethodId) (args : Array Value) (below : List Frame) (meth : Method) (c : Code) (E : zm_E) (d nL : Nat) (Q : Option Value → zm_M → Prop) (pc : Nat) (lv : zm_L) (st : List Value) (M : zm_M) : Prop :=
  ∀ (H : Heap) (locs : List Loc) (ls : Array Slot), va_P E.2.1 zy_cl (zm_ws E.2.2.1 E.2.2.2.1 M) H → va_S E.2.2.2.2 s.heap H locs → zm_lv E.2.2.1 ls nL lv → W p E.1 e (zm_rm (d + 1)) s m args below meth c H locs 0 0 (MQ below (zm_Qc E Q) args s 0 0 E.2.2.2.2) (F0 m pc ls (st.map (zm_c E.2.2.1)))
def zm_cx (p : Program) (s : State) (m : MethodId) (args : Array Value) (meth : Method) (c : Code) (E : zm_E) (own : Nat) (cc : ByteArray) (nL : Nat) (ret : Option FieldType) : Prop :=
  p.tables.exec = Jvm.exec ∧ c.code = cc ∧ c.maxLocals = nL ∧ s.vm.findClass (zy_on own) = some m.cls ∧ (∀ w ∈ zy_T, w.before args s = true) ∧ va_K E.2.1 zy_cl (zm_tys E.2.2.2.1) s ∧ zm_ok E.2.2.1 E.2.2.2.2 ∧ zm_SF E.2.2.1 E.2.2.2.2 s s.heap ∧ meth.sig.returnType = ret ∧ meth.locks = false
def zm_len (i : Instr) : Nat := match i with
  | .bipush _ => 2
  | .ldc _ => 2
  | .iload _ => 2
  | .lload _ => 2
  | .aload _ => 2
  | .istore _ => 2
  | .lstore _ => 2
  | .astore _ => 2
  | .sipush _ => 3
  | .ldc_w _ => 3
  | .ldc2_w _ => 3
  | .iinc _ _ => 3
  | .ifCond _ _ => 3
  | .if_icmp _ _ => 3
  | .if_acmp _ _ => 3
  | .ifnull _ => 3
  | .goto _ => 3
  | .getfield _ => 3
  | .getstatic _ => 3
  | .putfield _ => 3
  | .invokevirtual _ => 3
  | .invokestatic _ => 3
  | _ => 1
def zm_okx (nL : Nat) (q : zm_En) : Bool := match q.2.1 with
  | .iconst n => decide (Int32.ofInt n = q.2.2.2.2.1)
  | .bipush n => decide ((Int8.ofInt n).toInt32 = q.2.2.2.2.1)
  | .sipush n => decide ((Int16.ofInt n).toInt32 = q.2.2.2.2.1)
  | .iinc i n => decide (Int32.ofInt n = q.2.2.2.2.1) && decide (i < nL)
  | .istore i => decide (i < nL)
  | .istore_n i => decide ((i : Nat) < nL)
  | .astore i => decide (i < nL)
  | .astore_n i => decide ((i : Nat) < nL)
  | .lstore i => decide (i + 1 < nL)
  | .lstore_n i => decide ((i : Nat) + 1 < nL)
  | .ifCond _ o => decide ((q.1 : Int) + o = (q.2.2.2.1 : Int))
  | .if_icmp _ o => decide ((q.1 : Int) + o = (q.2.2.2.1 : Int))
  | .if_acmp _ o => decide ((q.1 : Int) + o = (q.2.2.2.1 : Int))
  | .ifnull o => decide ((q.1 : Int) + o = (q.2.2.2.1 : Int))
  | .goto o => decide ((q.1 : Int) + o = (q.2.2.2.1 : Int))
  | _ => true
def zm_okT (pc : Nat) : Int → Int → List Int → List (Int32 × Nat) → Bool
  | lo, hi, [], [] => decide (hi = lo - 1)
  | lo, hi, o :: os, (c, t) :: cs => decide (c.toInt = lo) && decide ((pc : Int) + o = (t : Int)) && zm_okT pc (lo + 1) hi os cs
  | _, _, _, _ => false
def zm_okL (pc : Nat) : List (Int × Int) → List (Int32 × Nat) → Bool
  | [], [] => true
  | (a, o) :: ps, (c, t) :: cs => decide (c.toInt = a) && decide ((pc : Int) + o = (t : Int)) && zm_okL pc ps cs
  | _, _ => false
def zm_okq (cc : ByteArray) (nL : Nat) (q : zm_En) : Bool := match q.2.1 with
  | .tableswitch dd lo hi offs => decide (decode cc q.1 = .ok (.tableswitch dd lo hi offs, q.2.2.1 - q.1)) && (zm_okT q.1 lo hi offs.toList q.2.2.2.2.2 && decide ((q.1 : Int) + dd = (q.2.2.2.1 : Int)))
  | .lookupswitch dd ps => decide (decode cc q.1 = .ok (.lookupswitch dd ps, q.2.2.1 - q.1)) && (((ps.toList.zip (ps.toList.drop 1)).all (fun (a, next) => a.1 < next.1) && zm_okL q.1 ps.toList q.2.2.2.2.2) && decide ((q.1 : Int) + dd = (q.2.2.2.1 : Int)))
  | i => decide (decode cc q.1 = .ok (i, zm_len i)) && decide (q.2.2.1 = q.1 + zm_len i) && zm_okx nL q
theorem zm_b0 {a b : Bool} (h : (a && b) = true) : a = true ∧ b = true := by simpa using h
theorem zm_b1 {a : Prop} {i : Decidable a} {x : Bool} (h : (decide a && x) = true) : a ∧ x = true := by simpa using h
theorem zm_b2 {a b : Prop} {i : Decidable a} {j : Decidable b} (h : (decide a && decide b) = true) : a ∧ b := by simpa using h
theorem zm_b2' {b : Prop} {j : Decidable b} {x : Bool} (h : (x && decide b) = true) : x = true ∧ b := by simpa using h
theorem zm_b3 {a b : Prop} {i : Decidable a} {j : Decidable b} {x : Bool} (h : (decide a && decide b && x) = true) : a ∧ b ∧ x = true := by simpa [and_assoc] using h
theorem zm_inj {ad : Nat → Nat} {A : Nat → Prop} (h : zm_ok ad A) {x y : Option Nat} (e : x.map ad = y.map ad) : x = y := by
  cases x with
  | none => cases y with
    | none => rfl
    | some y => simp at e
  | some x => cases y with
    | none => simp at e
    | some y => simp at e; rw [h.1 _ _ e]
theorem zm_sw_out {J : Nat → Prop} {x : Int32} : ∀ {cs : List (Int32 × Nat)} {d : Nat}, zm_sw J x cs d → (∀ q ∈ cs, ¬ x = q.1) → J d := by
  intro cs
  induction cs with
  | nil => intro d h _; exact h
  | cons q cs ih =>
    intro d h ho
    exact ih (h.2 (ho q List.mem_cons_self)) (fun q' hq => ho q' (List.mem_cons_of_mem _ hq))
theorem zm_okT_out {pc : Nat} {x : Int32} {hi : Int} : ∀ {os : List Int} {cs : List (Int32 × Nat)} {lo : Int}, zm_okT pc lo hi os cs = true → (x.toInt < lo ∨ hi < x.toInt) → ∀ q ∈ cs, ¬ x = q.1 := by
  intro os
  induction os with
  | nil =>
    intro cs lo h hx q hq
    cases cs with
    | nil => cases hq
    | cons c cs => simp [zm_okT] at h
  | cons o os ih =>
    intro cs lo h hx q hq
    cases cs with
    | nil => cases hq
    | cons c cs =>
      obtain ⟨h1, h2, h3⟩ := zm_b3 h
      have hle : ∀ (os : List Int) (cs : List (Int32 × Nat)) (lo : Int), zm_okT pc lo hi os cs = true → lo - 1 ≤ hi := by
        intro os
        induction os with
        | nil => intro cs lo h; cases cs with
          | nil => have := of_decide_eq_true h; omega
          | cons c cs => simp [zm_okT] at h
        | cons o os ih => intro cs lo h; cases cs with
          | nil => simp [zm_okT] at h
          | cons c cs => obtain ⟨-, -, h3⟩ := zm_b3 h; have := ih cs (lo + 1) h3; omega
      have hl := hle os cs (lo + 1) h3
      rcases List.mem_cons.mp hq with rfl | hq
      · intro e
        rw [e] at hx
        omega
      · exact ih h3 (by omega) q hq
theorem zm_okT_in {pc : Nat} {x : Int32} {hi : Int} : ∀ {os : List Int} {cs : List (Int32 × Nat)} {lo : Int}, zm_okT pc lo hi os cs = true → ¬ x.toInt < lo → ¬ hi < x.toInt → ∃ (o : Int) (t : Nat), os[(x.toInt - lo).toNat]? = some o ∧ (pc : Int) + o = (t : Int) ∧ ∀ (J : Nat → Prop) (d : Nat), zm_sw J x cs d → J t := by
  intro os
  induction os with
  | nil =>
    intro cs lo h h1 h2
    cases cs with
    | nil => have := of_decide_eq_true h; omega
    | cons c cs => simp [zm_okT] at h
  | cons o os ih =>
    intro cs lo h h1 h2
    cases cs with
    | nil => simp [zm_okT] at h
    | cons c cs =>
      obtain ⟨e1, e2, h3⟩ := zm_b3 h
      by_cases hc : x.toInt = lo
      · have e0 : (x.toInt - lo).toNat = 0 := by omega
        refine ⟨o, c.2, by rw [e0]; rfl, e2, fun J d hs => hs.1 (Int32.toInt_inj.mp (hc.trans e1.symm))⟩
      · obtain ⟨o', t, g1, g2, g3⟩ := ih h3 (by omega) h2
        have e0 : (x.toInt - lo).toNat = (x.toInt - (lo + 1)).toNat + 1 := by omega
        refine ⟨o', t, by rw [e0]; exact g1, g2, fun J d hs => g3 J d (hs.2 (fun e => hc (by rw [e]; exact e1)))⟩
theorem zm_okL_sw {pc tgt : Nat} {x : Int32} {dd : Int} {J : Nat → Prop} : ∀ (ps : List (Int × Int)) (cs : List (Int32 × Nat)), zm_okL pc ps cs = true → (pc : Int) + dd = (tgt : Int) → zm_sw J x cs tgt → ∃ t : Nat, (pc : Int) + Op.lookupswitch.offset ps dd x.toInt = (t : Int) ∧ J t := by
  intro ps
  induction ps with
  | nil =>
    intro cs h ht hs
    cases cs with
    | nil => exact ⟨tgt, ht, hs⟩
    | cons c cs => simp [zm_okL] at h
  | cons q ps ih =>
    intro cs h ht hs
    cases cs with
    | nil => simp [zm_okL] at h
    | cons c cs =>
      obtain ⟨e1, e2, h3⟩ := zm_b3 h
      rw [Op.lookupswitch.offset_cons]
      by_cases hc : q.1 = x.toInt
      · rw [if_pos hc]
        exact ⟨c.2, e2, hs.1 (Int32.toInt_inj.mp (by rw [e1, hc]))⟩
      · rw [if_neg hc]
        exact ih cs h3 ht (hs.2 (fun e => hc (by rw [e, e1])))
theorem zm_ra_of {ret : Option FieldType} (h : zm_ra ret) : ∃ n, ret = some (.object n) := by
  unfold zm_ra at h
  split at h
  · exact ⟨_, rfl⟩
  · exact h.elim
theorem zm_wi_ne (M : zm_M) (p k : Nat) (v : Int32) : ∀ q, q ≠ p → (zm_wi M p k v).1 q = M.1 q ∧ (zm_wi M p k v).2.1 q = M.2.1 q ∧ (zm_wi M p k v).2.2 q = M.2.2 q := fun q h => ⟨if_neg h, rfl, rfl⟩
theorem zm_wa_ne (M : zm_M) (p : Nat) (f : Nat → Int32) : ∀ q, q ≠ p → (zm_wa M p f).1 q = M.1 q ∧ (zm_wa M p f).2.1 q = M.2.1 q ∧ (zm_wa M p f).2.2 q = M.2.2 q := fun q h => ⟨if_neg h, rfl, rfl⟩
theorem zm_wj_ne (M : zm_M) (p k : Nat) (v : Int64) : ∀ q, q ≠ p → (zm_wj M p k v).1 q = M.1 q ∧ (zm_wj M p k v).2.1 q = M.2.1 q ∧ (zm_wj M p k v).2.2 q = M.2.2 q := fun q h => ⟨rfl, if_neg h, rfl⟩
theorem zm_wr_ne (M : zm_M) (p k : Nat) (v : Option Nat) : ∀ q, q ≠ p → (zm_wr M p k v).1 q = M.1 q ∧ (zm_wr M p k v).2.1 q = M.2.1 q ∧ (zm_wr M p k v).2.2 q = M.2.2 q := fun q h => ⟨rfl, rfl, if_neg h⟩
theorem zm_fs_set {n f : Nat} (hf : f < n) {g g' : Nat → Value} {v : Value} (h1 : g' f = v) (h2 : ∀ j, j ≠ f → g' j = g j) : ((List.range n).map g).set f v = (List.range n).map g' := by
  apply List.ext_getElem?
  intro j
  rw [List.getElem?_set]
  split
  · next e =>
    subst e
    rw [List.length_map, List.length_range, if_pos hf, List.getElem?_map, List.getElem?_range hf, ← h1]
    rfl
  · next e =>
    rw [List.getElem?_map, List.getElem?_map]
    by_cases hj : j < n
    · rw [List.getElem?_range hj]
      simp only [Option.map_some]
      rw [h2 j (fun q => e q.symm)]
    · rw [List.getElem?_eq_none (by simpa using hj)]
      rfl
theorem zm_pf_of {ad : Nat → Nat} {M : zm_M} {p ci f N : Nat} {v : Value} {k : zm_M → Prop} {ty0 : Nat → FieldType} {T : u_T} (hft : ∀ k, k < N → zy_ty (zy_fk ci k) (ty0 k) (T k).2.2.2) (hf : f < N) (h : zm_pf M p ci f v k) :
    ∃ M2, k M2 ∧ narrow (ty0 f) (zm_c ad v) = zm_c ad v ∧ fits (ty0 f) (zm_c ad v) = true ∧ (T f).2.2.2 = false ∧ (∀ q, q ≠ p → M2.1 q = M.1 q ∧ M2.2.1 q = M.2.1 q ∧ M2.2.2 q = M.2.2 q) ∧ ∀ n, f < n → ((List.range n).map (zm_fv ad M p ci)).set f (zm_c ad v) = (List.range n).map (zm_fv ad M2 p ci) := by
  have ht := hft f hf
  unfold zm_pf at h
  split at h
  · next x e =>
    rw [e] at ht
    obtain ⟨t1, t2⟩ := ht
    refine ⟨_, h, by rw [t1]; rfl, by rw [t1]; rfl, t2, zm_wi_ne M p f x, fun n hn => zm_fs_set hn ?_ (fun j hj => ?_)⟩
    · simp only [zm_fv, e, zm_wi, zm_wa, if_true, upd, zm_c]
    · simp only [zm_fv, zm_wi, zm_wa, if_true, upd, if_neg hj]
  · next x e =>
    rw [e] at ht
    obtain ⟨t1, t2⟩ := ht
    refine ⟨_, h.2, ?_, ?_, t2, zm_wi_ne M p f x, fun n hn => zm_fs_set hn ?_ (fun j hj => ?_)⟩
    · rcases h.1 with rfl | rfl <;> rw [t1] <;> rfl
    · rcases h.1 with rfl | rfl <;> rw [t1] <;> rfl
    · simp only [zm_fv, e, zm_wi, zm_wa, if_true, upd, zm_c]
    · simp only [zm_fv, zm_wi, zm_wa, if_true, upd, if_neg hj]
  · next y x e =>
    rw [e] at ht
    obtain ⟨t1, t2⟩ := ht
    refine ⟨_, h, by rw [t1]; rfl, by rw [t1]; rfl, t2, zm_wj_ne M p f x, fun n hn => zm_fs_set hn ?_ (fun j hj => ?_)⟩
    · simp only [zm_fv, e, zm_wj, if_true, vp_updL, zm_c]
    · simp only [zm_fv, zm_wj, if_true, vp_updL, if_neg hj]
  · next y x e =>
    rw [e] at ht
    obtain ⟨⟨c, t1⟩, t2⟩ := ht
    refine ⟨_, h, by rw [t1]; rfl, by rw [t1]; rfl, t2, zm_wr_ne M p f _, fun n hn => zm_fs_set hn ?_ (fun j hj => ?_)⟩
    · simp only [zm_fv, e, zm_wr, if_true, va_up, zm_c, Option.map_some, va_rf]
    · simp only [zm_fv, zm_wr, if_true, va_up, if_neg hj]
  · next y e =>
    rw [e] at ht
    obtain ⟨⟨c, t1⟩, t2⟩ := ht
    refine ⟨_, h, by rw [t1]; rfl, by rw [t1]; rfl, t2, zm_wr_ne M p f _, fun n hn => zm_fs_set hn ?_ (fun j hj => ?_)⟩
    · simp only [zm_fv, e, zm_wr, if_true, va_up, zm_c, Option.map_none, va_rf]
    · simp only [zm_fv, zm_wr, if_true, va_up, if_neg hj]
  · exact h.elim
theorem zm_tys_at (cA : Nat → ClassId) {t : Nat} (h : t < 7) : ∃ ty, (zm_tys cA)[t]? = some (cA t, ty) := by
  have ht : t = 0 ∨ t = 1 ∨ t = 2 ∨ t = 3 ∨ t = 4 ∨ t = 5 ∨ t = 6 := by omega
  rcases ht with rfl | rfl | rfl | rfl | rfl | rfl | rfl <;> exact ⟨_, rfl⟩
section ZMC
variable {p : Program} {e : Env} {s : State} {m : MethodId} {args : Array Value} {below : List Frame} {meth : Method} {c : Code} {E : zm_E} {d own nL i pc : Nat} {cc : ByteArray} {Q Qk : Option Value → zm_M → Prop} {H : Heap} {locs : List Loc} {ls : Array Slot} {lv : zm_L} {st : List Value} {M : zm_M}
theorem zm_cont {st0 rest : List Value} {a : Array Value} {Qw : State → Prop} (hr : va_Run p E.1 e (zm_rm (d + 1)) s m args below meth c H locs 0 0 0 0 (F0 m pc ls st0) rest (zm_Qc E Qk a) E.2.2.2.2) (hS : va_S E.2.2.2.2 s.heap H locs)
    (kk : ∀ (r : Option Value) (M2 : zm_M) (H1 : Heap) (locs1 : List Loc), Qk r M2 → va_P E.2.1 zy_cl (zm_ws E.2.2.1 E.2.2.2.1 M2) H1 → va_S E.2.2.2.2 s.heap H1 locs1 → W p E.1 e (zm_rm (d + 1)) s m args below meth c H1 locs1 0 0 Qw (F0 m (pc + 3) ls ((r.map (zm_c E.2.2.1)).toList ++ rest))) : W p E.1 e (zm_rm (d + 1)) s m args below meth c H locs 0 0 Qw (F0 m pc ls st0) := by
  intro T hT X
  obtain ⟨v, st₀, t, T', L, h0, X', hL, e1, e2, ⟨⟨r, M2, hv, hq, hp⟩, hz, hk⟩, st⟩ := hr T hT X
  cases hv
  rw [h0] at hz hk
  obtain ⟨t2, a1, b1⟩ := kk r M2 T'.heap (locs ++ L) hq (by rw [e1]; exact hp)
    ⟨Nat.le_trans hS.1 (by rw [e1]; exact hz), fun q h1 h2 => by rw [e1, hk q (Nat.lt_of_lt_of_le h1 hS.1) h2]; exact hS.2.1 q h1 h2, fun q hq => by
      rcases List.mem_append.mp hq with h | h
      · exact hS.2.2 q h
      · exact hL q h⟩ T' rfl X'
  exact ⟨t2, st t2 a1, b1⟩
theorem zm_blind (as : List Value) : FrameBlind (zm_Pc E as M) := fun a U g mk q => by
  obtain ⟨q0, qP, qK, qF⟩ := q
  exact ⟨q0, qP, va_K.moved (u := U) (U := U.calling g mk a) (Vm.Alike.refl U.vm) qK, zm_SF_same (u := U) rfl qF⟩
theorem zm_pre (as : List Value) (hK : va_K E.2.1 zy_cl (zm_tys E.2.2.2.1) s) (hSF : zm_SF E.2.2.1 E.2.2.2.2 s s.heap) (hP : va_P E.2.1 zy_cl (zm_ws E.2.2.1 E.2.2.2.1 M) H) (hS : va_S E.2.2.2.2 s.heap H locs) : ∀ U : State, U.heap = H → s.WarmedH U.vm → zm_Pc E as M (as.map (zm_c E.2.2.1)).toArray U := fun U hU hW =>
  ⟨rfl, by rw [hU]; exact hP, va_K.moved hW.alike hK, by rw [hU]; exact zm_SF_kept (zm_SF_warm hW hSF) hS.1 hS.2.1⟩
theorem zm_room (d maxL : Nat) (h : maxL ≤ 40) : (zm_rm d).frames + 1 ≤ (zm_rm (d + 1)).frames ∧ 8 + (maxL + 11) + (zm_rm d).locals ≤ (zm_rm (d + 1)).locals := ⟨Nat.le_refl _, by show 8 + (maxL + 11) + 64 * d ≤ 64 * (d + 1); omega⟩
theorem zm_app (r : Option Value) : (r.map (zm_c E.2.2.1)).toList ++ st.map (zm_c E.2.2.1) = (r.toList ++ st).map (zm_c E.2.2.1) := by cases r <;> rfl
theorem zm_callV {a : Nat} {as : List Value} (hx : p.tables.exec = Jvm.exec) (hb : c.code = cc) (hml : c.maxLocals = nL) (hown : s.vm.findClass (zy_on own) = some m.cls) (hts : ∀ w ∈ zy_T, w.before args s = true) (hK : va_K E.2.1 zy_cl (zm_tys E.2.2.2.1) s) (hok : zm_ok E.2.2.1 E.2.2.2.2) (hSF : zm_SF E.2.2.1 E.2.2.2.2 s s.heap)
    (hm : zy_mv own i) (ho : zm_ob a (zy_mr own i).2.1) (hs : zm_sh st) (hlen : as.length = (zy_mr own i).2.2.1) (hd : decode cc pc = .ok (.invokevirtual i, 3)) (h : zm_R E d (zy_mr own i).2.2.2 (.ref a :: as) M Qk)
    (hP : va_P E.2.1 zy_cl (zm_ws E.2.2.1 E.2.2.2.1 M) H) (hS : va_S E.2.2.2.2 s.heap H locs) (hl : zm_lv E.2.2.1 ls nL lv) (hk : ∀ r M2, Qk r M2 → zm_G p e s m args below meth c E d nL Q (pc + 3) lv (r.toList ++ st) M2) :
    W p E.1 e (zm_rm (d + 1)) s m args below meth c H locs 0 0 (MQ below (zm_Qc E Q) args s 0 0 E.2.2.2.2) (F0 m pc ls (((Value.ref a :: as).reverse ++ st).map (zm_c E.2.2.1))) := by
  obtain ⟨⟨g1, g2, g3, g4⟩, ⟨T, N, hc⟩, g5, g6, g7⟩ := hm
  have hG : GoodIn zy_T (wsV (zy_on own) i (zy_mr own i).2.2.2.1.cls (zy_mr own i).2.2.2.1 (Cond.code (zy_mr own i).2.2.2.1 (zy_mr own i).2.2.2.2.1 (zy_mr own i).2.2.2.2.2.1 (zy_mr own i).2.2.2.2.2.2 :: zy_T)) := by
    intro w hw
    apply zy_good
    simp only [wsV, List.mem_append, List.mem_cons, List.not_mem_nil, or_false] at hw
    rcases hw with (rfl | rfl | rfl | rfl) | rfl | hw
    · exact g5
    · exact g6
    · exact g7
    · exact g2
    · exact g1
    · exact hw
  refine zm_cont (Qk := Qk) (rest := st.map (zm_c E.2.2.1)) (va_runV (As := as.map (zm_c E.2.2.1)) (C := (zy_mr own i).2.2.2.1.cls) (b := E.2.2.1 a) ⟨hx, hb, hml, hown, hts⟩ h (cwV (zy_mr own i).2.2.1 hts hG rfl rfl rfl ⟨rfl, g3⟩ (zm_room d _ g4)) ⟨zm_blind _, va_recv hK hP hc ((zm_at ho.1).trans (by rw [zm_cell_ob ho])), zm_pre (.ref a :: as) hK hSF hP hS⟩ rfl (by rw [List.length_map]; exact hlen) hl.1 (by simp [zm_c, List.map_reverse]) (lv_room (zm_sh_sum E.2.2.1 hs)) hd ⟨Nat.le_refl 0, Nat.le_refl 0⟩) hS (fun r M2 H1 locs1 hq hP1 hS1 => ?_)
  rw [zm_app]
  exact hk r M2 hq H1 locs1 ls hP1 hS1 hl
theorem zm_callS {as : List Value} (hx : p.tables.exec = Jvm.exec) (hb : c.code = cc) (hml : c.maxLocals = nL) (hown : s.vm.findClass (zy_on own) = some m.cls) (hts : ∀ w ∈ zy_T, w.before args s = true) (hK : va_K E.2.1 zy_cl (zm_tys E.2.2.2.1) s) (hok : zm_ok E.2.2.1 E.2.2.2.2) (hSF : zm_SF E.2.2.1 E.2.2.2.2 s s.heap)
    (hm : zy_ms own i) (hs : zm_sh st) (hlen : as.length = (zy_mr own i).2.2.1) (hd : decode cc pc = .ok (.invokestatic i, 3)) (h : zm_R E d (zy_mr own i).2.2.2 as M Qk)
    (hP : va_P E.2.1 zy_cl (zm_ws E.2.2.1 E.2.2.2.1 M) H) (hS : va_S E.2.2.2.2 s.heap H locs) (hl : zm_lv E.2.2.1 ls nL lv) (hk : ∀ r M2, Qk r M2 → zm_G p e s m args below meth c E d nL Q (pc + 3) lv (r.toList ++ st) M2) :
    W p E.1 e (zm_rm (d + 1)) s m args below meth c H locs 0 0 (MQ below (zm_Qc E Q) args s 0 0 E.2.2.2.2) (F0 m pc ls ((as.reverse ++ st).map (zm_c E.2.2.1))) := by
  obtain ⟨⟨g1, g2, g3, g4⟩, g5, g6⟩ := hm
  have hG0 : GoodIn zy_T (Cond.code (zy_mr own i).2.2.2.1 (zy_mr own i).2.2.2.2.1 (zy_mr own i).2.2.2.2.2.1 (zy_mr own i).2.2.2.2.2.2 :: zy_T) := by
    intro w hw
    apply zy_good
    rcases List.mem_cons.mp hw with rfl | hw
    · exact g1
    · exact hw
  have hpre : PreS s H (zm_Pc E as M) (as.map (zm_c E.2.2.1)) := ⟨zm_blind _, zm_pre as hK hSF hP hS⟩
  refine zm_cont (Qk := Qk) (rest := st.map (zm_c E.2.2.1)) (a := (as.map (zm_c E.2.2.1)).toArray) ?_ hS (fun r M2 H1 locs1 hq hP1 hS1 => ?_)
  · rcases g6 with g6 | ⟨g6, g7⟩
    · have hG : GoodIn zy_T (va_wsS (zy_on own) i (zy_mr own i).2.2.2.1 (Cond.code (zy_mr own i).2.2.2.1 (zy_mr own i).2.2.2.2.1 (zy_mr own i).2.2.2.2.2.1 (zy_mr own i).2.2.2.2.2.2 :: zy_T)) := by
        intro w hw
        simp only [va_wsS, List.mem_append, List.mem_cons, List.not_mem_nil, or_false] at hw
        rcases hw with (rfl | rfl | rfl) | rfl | hw
        · exact zy_good g6
        · exact zy_good g5
        · exact zy_good g2
        · exact zy_good g1
        · exact zy_good hw
      exact va_runS (As := as.map (zm_c E.2.2.1)) ⟨hx, hb, hml, hown, hts⟩ h (va_cwS (zy_mr own i).2.2.1 hts hG rfl rfl rfl g3 (zm_room d _ g4)) hpre rfl (by rw [List.length_map]; exact hlen) hl.1 (by simp [List.map_reverse]) (lv_room (zm_sh_sum E.2.2.1 hs)) hd ⟨Nat.le_refl 0, Nat.le_refl 0⟩
    · have hn : va_Nw (.methodLinkNest (zy_on own) i (zy_mr own i).2.2.2.1 "ApologyUp") s := by
        rcases g6 with ⟨e1, rfl⟩ | ⟨e1, rfl⟩
        · rw [e1, g7]; exact hSF.1
        · rw [e1, g7]; exact hSF.2.1
      exact va_runSN (As := as.map (zm_c E.2.2.1)) ⟨hx, hb, hml, hown, hts⟩ h ⟨va_cnB (zy_mr own i).2.2.1 hts hG0 rfl rfl rfl hn (hts _ g2) g3 (zm_room d _ g4), hts _ g5, trivial⟩ hpre rfl (by rw [List.length_map]; exact hlen) hl.1 (by simp [List.map_reverse]) (lv_room (zm_sh_sum E.2.2.1 hs)) hd ⟨Nat.le_refl 0, Nat.le_refl 0⟩
  · rw [zm_app]
    exact hk r M2 hq H1 locs1 ls hP1 hS1 hl
theorem zm_callN {n : Nat} {K : List Value → zm_M → Prop} (hx : p.tables.exec = Jvm.exec) (hb : c.code = cc) (hml : c.maxLocals = nL) (hown : s.vm.findClass (zy_on own) = some m.cls) (hts : ∀ w ∈ zy_T, w.before args s = true) (hK : va_K E.2.1 zy_cl (zm_tys E.2.2.2.1) s) (hok : zm_ok E.2.2.1 E.2.2.2.2)
    (hm : zy_mnk n own i) (hd : decode cc pc = .ok (.invokestatic i, 3)) (h : zm_nat n st M K)
    (hP : va_P E.2.1 zy_cl (zm_ws E.2.2.1 E.2.2.2.1 M) H) (hS : va_S E.2.2.2.2 s.heap H locs) (hl : zm_lv E.2.2.1 ls nL lv) (hk : ∀ st2 M2, K st2 M2 → zm_G p e s m args below meth c E d nL Q (pc + 3) lv st2 M2) :
    W p E.1 e (zm_rm (d + 1)) s m args below meth c H locs 0 0 (MQ below (zm_Qc E Q) args s 0 0 E.2.2.2.2) (F0 m pc ls (st.map (zm_c E.2.2.1))) := by
  have hl1 : c.maxLocals = ls.size := hml.trans hl.1.symm
  have hf : 1 ≤ (zm_rm (d + 1)).frames := by show 1 ≤ d + 1; omega
  have hlo : (zm_rm (d + 1)).locals = 64 * (d + 1) := rfl
  revert hm
  unfold zm_nat at h
  split at h
  · intro hm
    obtain ⟨y, st1, rfl, h1⟩ := zm_I_of h
    obtain ⟨x, st2, rfl, hs, h2⟩ := zm_I_of h1
    have h8 := zm_sh_sum E.2.2.1 hs
    exact va_mmax hx hb hl1 hown (hts _ hm.1) (hts _ hm.2.1) (hts _ hm.2.2.1) (hts _ hm.2.2.2) hf (by rw [hlo]; omega) (Nat.le_refl 0) (Nat.le_refl 0) hd (hk _ _ h2 H locs ls hP hS hl)
  · intro hm
    obtain ⟨y, st1, rfl, h1⟩ := zm_I_of h
    obtain ⟨x, st2, rfl, hs, h2⟩ := zm_I_of h1
    have h8 := zm_sh_sum E.2.2.1 hs
    exact va_mmin hx hb hl1 hown (hts _ hm.1) (hts _ hm.2.1) (hts _ hm.2.2.1) (hts _ hm.2.2.2) hf (by rw [hlo]; omega) (Nat.le_refl 0) (Nat.le_refl 0) hd (hk _ _ h2 H locs ls hP hS hl)
  · intro hm
    obtain ⟨x, st2, rfl, hs, h2⟩ := zm_I_of h
    have h8 := zm_sh_sum E.2.2.1 hs
    exact va_mabs hx hb hl1 hown (hts _ hm.1) (hts _ hm.2.1) (hts _ hm.2.2.1) (hts _ hm.2.2.2) hf (by rw [hlo]; omega) (Nat.le_refl 0) (Nat.le_refl 0) hd (hk _ _ h2 H locs ls hP hS hl)
  · intro hm
    obtain ⟨n, st1, rfl, k1⟩ := zm_I_of h
    obtain ⟨dp, st2, rfl, k2⟩ := zm_I_of k1
    obtain ⟨b, st3, rfl, k3⟩ := zm_P_of k2
    obtain ⟨sp, st4, rfl, k4⟩ := zm_I_of k3
    obtain ⟨a, st5, rfl, hs, ⟨la, lb, ha, hb2, h1, h2, h3, h4, h5⟩, k5⟩ := zm_P_of k4
    have h8 := zm_sh_sum E.2.2.1 hs
    refine va_copyi hx hb hl1 hown (hts _ hm.1) (hts _ hm.2.1) (hts _ hm.2.2.1) (hts _ hm.2.2.2) hK hP (zm_D hok _ _) hS a b 0 0 ((zm_at ha.1).trans (by rw [zm_cell_ar ha]; rfl)) ((zm_at hb2.1).trans (by rw [zm_cell_ar hb2]; rfl)) rfl rfl rfl h1 h2 h3 h4 h5 (fun _ _ => rfl) hf ?_ hd (fun H1 locs1 hP1 hD1 hS1 => hk _ _ k5 H1 locs1 ls ?_ hS1 hl)
    · have hw : nativeFrameWords "java/lang/System" "arraycopy" 5 + 11 ≤ 50 := by decide +kernel
      rw [hlo]; omega
    · have e := zm_set (ad := E.2.2.1) (cA := E.2.2.2.1) (M := M) (M' := zm_wa M b (va_cpy (M.1 a) (M.1 b) sp.toNatClampNeg dp.toNatClampNeg n.toNatClampNeg)) hb2.1 (zm_wa_ne M b _)
      rw [zm_cell_ar hb2, show zm_ct E.2.2.1 (zm_wa M b (va_cpy (M.1 a) (M.1 b) sp.toNatClampNeg dp.toNatClampNeg n.toNatClampNeg)) b 0 = .inl (va_cpy (M.1 a) (M.1 b) sp.toNatClampNeg dp.toNatClampNeg n.toNatClampNeg) from congrArg Sum.inl (if_pos rfl)] at e
      rw [← e]; exact hP1
  · exact h.elim
end ZMC
