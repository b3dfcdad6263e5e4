set_option maxHeartbeats 8000000 in
set_option maxRecDepth 100000 in
/-- a step of the small machine is one of the machine's -/
theorem zm_step {p : Program} {e : Env} {s : State} {m : MethodId} {args : Array Value} {below : List Frame} {meth : Method} {c : Code} {E : zm_E} {d own nL : Nat} {cc : ByteArray} {ret : Option FieldType} {Q : Option Value → zm_M → Prop} (Cx : zm_cx p s m args meth c E own cc nL ret)
    {q : zm_En} (hq : zm_okq cc nL q = true) {J : Nat → zm_L → List Value → zm_M → Prop} {k : zm_L → List Value → zm_M → Prop} (hJ : ∀ t lv st M, J t lv st M → zm_G p e s m args below meth c E d nL Q t lv st M) (hk : ∀ lv st M, k lv st M → zm_G p e s m args below meth c E d nL Q q.2.2.1 lv st M)
    {lv : zm_L} {st : List Value} {M : zm_M} (h : zm_st own ret (zm_R E d) J Q q k lv st M) : zm_G p e s m args below meth c E d nL Q q.1 lv st M := by
  obtain ⟨hx, hb, hml, hown, hts, hK, hok, hSF, hr, hlk⟩ := Cx
  obtain ⟨pc, i, npc, tgt, imm, cs⟩ := q
  dsimp only at hk ⊢
  cases i with
  | iconst n =>
    obtain ⟨hd, rfl, he⟩ : decode cc pc = .ok (.iconst n, zm_len (.iconst n)) ∧ npc = pc + zm_len (.iconst n) ∧ _ := zm_b3 hq
    exact fun H locs ls hP hS hl => lv_iconst hx hb hd (of_decide_eq_true he) (hk _ _ _ h H locs ls hP hS hl)
  | bipush n =>
    obtain ⟨hd, rfl, he⟩ : decode cc pc = .ok (.bipush n, zm_len (.bipush n)) ∧ npc = pc + zm_len (.bipush n) ∧ _ := zm_b3 hq
    exact fun H locs ls hP hS hl => lv_bipush hx hb hd (of_decide_eq_true he) (hk _ _ _ h H locs ls hP hS hl)
  | sipush n =>
    obtain ⟨hd, rfl, he⟩ : decode cc pc = .ok (.sipush n, zm_len (.sipush n)) ∧ npc = pc + zm_len (.sipush n) ∧ _ := zm_b3 hq
    exact fun H locs ls hP hS hl => lv_sipush hx hb hd (of_decide_eq_true he) (hk _ _ _ h H locs ls hP hS hl)
  | ldc i =>
    obtain ⟨hd, rfl, -⟩ : decode cc pc = .ok (.ldc i, zm_len (.ldc i)) ∧ npc = pc + zm_len (.ldc i) ∧ _ := zm_b3 hq
    exact fun H locs ls hP hS hl => lv_ldc hx hb hown (hts _ h.1) hd (hk _ _ _ h.2 H locs ls hP hS hl)
  | ldc_w i =>
    obtain ⟨hd, rfl, -⟩ : decode cc pc = .ok (.ldc_w i, zm_len (.ldc_w i)) ∧ npc = pc + zm_len (.ldc_w i) ∧ _ := zm_b3 hq
    exact fun H locs ls hP hS hl => lv_ldcw hx hb hown (hts _ h.1) hd (hk _ _ _ h.2 H locs ls hP hS hl)
  | ldc2_w i =>
    obtain ⟨hd, rfl, -⟩ : decode cc pc = .ok (.ldc2_w i, zm_len (.ldc2_w i)) ∧ npc = pc + zm_len (.ldc2_w i) ∧ _ := zm_b3 hq
    exact fun H locs ls hP hS hl => lv_ldc2 hx hb hown (hts _ h.1) hd (hk _ _ _ h.2 H locs ls hP hS hl)
  | lconst n =>
    obtain ⟨hd, rfl, -⟩ : decode cc pc = .ok (.lconst n, zm_len (.lconst n)) ∧ npc = pc + zm_len (.lconst n) ∧ _ := zm_b3 hq
    exact fun H locs ls hP hS hl => lv_lconst hx hb hd rfl (hk _ _ _ h H locs ls hP hS hl)
  | aconst_null =>
    obtain ⟨hd, rfl, -⟩ : decode cc pc = .ok (.aconst_null, zm_len (.aconst_null)) ∧ npc = pc + zm_len (.aconst_null) ∧ _ := zm_b3 hq
    exact fun H locs ls hP hS hl => lv_null hx hb hd (hk _ _ _ h H locs ls hP hS hl)
  | iload i =>
    obtain ⟨hd, rfl, -⟩ : decode cc pc = .ok (.iload i, zm_len (.iload i)) ∧ npc = pc + zm_len (.iload i) ∧ _ := zm_b3 hq
    obtain ⟨x, hg, h⟩ := zm_gI_of h
    exact fun H locs ls hP hS hl => lv_iload hx hb hd (hl.2.2 _ _ hg) (hk _ _ _ h H locs ls hP hS hl)
  | iload_n i =>
    obtain ⟨hd, rfl, -⟩ : decode cc pc = .ok (.iload_n i, zm_len (.iload_n i)) ∧ npc = pc + zm_len (.iload_n i) ∧ _ := zm_b3 hq
    obtain ⟨x, hg, h⟩ := zm_gI_of h
    exact fun H locs ls hP hS hl => lv_iload_n hx hb hd rfl (hl.2.2 _ _ hg) (hk _ _ _ h H locs ls hP hS hl)
  | lload i =>
    obtain ⟨hd, rfl, -⟩ : decode cc pc = .ok (.lload i, zm_len (.lload i)) ∧ npc = pc + zm_len (.lload i) ∧ _ := zm_b3 hq
    obtain ⟨x, hg, h⟩ := zm_gJ_of h
    exact fun H locs ls hP hS hl => lv_lload hx hb hd (hl.2.2 _ _ hg) (hk _ _ _ h H locs ls hP hS hl)
  | lload_n i =>
    obtain ⟨hd, rfl, -⟩ : decode cc pc = .ok (.lload_n i, zm_len (.lload_n i)) ∧ npc = pc + zm_len (.lload_n i) ∧ _ := zm_b3 hq
    obtain ⟨x, hg, h⟩ := zm_gJ_of h
    exact fun H locs ls hP hS hl => lv_lload_n hx hb hd rfl (hl.2.2 _ _ hg) (hk _ _ _ h H locs ls hP hS hl)
  | aload i =>
    obtain ⟨hd, rfl, -⟩ : decode cc pc = .ok (.aload i, zm_len (.aload i)) ∧ npc = pc + zm_len (.aload i) ∧ _ := zm_b3 hq
    have hh : zm_gA lv i (fun x => k lv (x :: st) M) := h
    rcases zm_gA_of hh with ⟨x, hg, h⟩ | ⟨hg, h⟩
    · exact fun H locs ls hP hS hl => lv_aload hx hb hd (hl.2.2 _ _ hg) (hk _ _ _ h H locs ls hP hS hl)
    · exact fun H locs ls hP hS hl => lv_aloadN hx hb hd (hl.2.2 _ _ hg) (hk _ _ _ h H locs ls hP hS hl)
  | aload_n i =>
    obtain ⟨hd, rfl, -⟩ : decode cc pc = .ok (.aload_n i, zm_len (.aload_n i)) ∧ npc = pc + zm_len (.aload_n i) ∧ _ := zm_b3 hq
    have hh : zm_gA lv (i : Nat) (fun x => k lv (x :: st) M) := h
    rcases zm_gA_of hh with ⟨x, hg, h⟩ | ⟨hg, h⟩
    · exact fun H locs ls hP hS hl => lv_aload_n hx hb hd rfl (hl.2.2 _ _ hg) (hk _ _ _ h H locs ls hP hS hl)
    · exact fun H locs ls hP hS hl => lv_aload_nN hx hb hd rfl (hl.2.2 _ _ hg) (hk _ _ _ h H locs ls hP hS hl)
  | istore i =>
    obtain ⟨hd, rfl, he⟩ : decode cc pc = .ok (.istore i, zm_len (.istore i)) ∧ npc = pc + zm_len (.istore i) ∧ _ := zm_b3 hq
    obtain ⟨x, st1, rfl, h1⟩ := zm_I_of h
    exact fun H locs ls hP hS hl => lv_istore hx hb hd (zm_lv_has hl) (of_decide_eq_true he) rfl (fun ls2 hl2 => hk _ _ _ h1 H locs ls2 hP hS (zm_lv_s1 (v := .int x) hl2))
  | istore_n i =>
    obtain ⟨hd, rfl, he⟩ : decode cc pc = .ok (.istore_n i, zm_len (.istore_n i)) ∧ npc = pc + zm_len (.istore_n i) ∧ _ := zm_b3 hq
    obtain ⟨x, st1, rfl, h1⟩ := zm_I_of h
    exact fun H locs ls hP hS hl => lv_istore_n hx hb hd rfl (zm_lv_has hl) (of_decide_eq_true he) rfl (fun ls2 hl2 => hk _ _ _ h1 H locs ls2 hP hS (zm_lv_s1 (v := .int x) hl2))
  | lstore i =>
    obtain ⟨hd, rfl, he⟩ : decode cc pc = .ok (.lstore i, zm_len (.lstore i)) ∧ npc = pc + zm_len (.lstore i) ∧ _ := zm_b3 hq
    obtain ⟨x, st1, rfl, h1⟩ := zm_J_of h
    exact fun H locs ls hP hS hl => lv_lstore hx hb hd (zm_lv_has hl) (of_decide_eq_true he) rfl (fun ls2 hl2 => hk _ _ _ h1 H locs ls2 hP hS (zm_lv_s2 (v := .long x) hl2))
  | lstore_n i =>
    obtain ⟨hd, rfl, he⟩ : decode cc pc = .ok (.lstore_n i, zm_len (.lstore_n i)) ∧ npc = pc + zm_len (.lstore_n i) ∧ _ := zm_b3 hq
    obtain ⟨x, st1, rfl, h1⟩ := zm_J_of h
    exact fun H locs ls hP hS hl => lv_lstore_n hx hb hd rfl (zm_lv_has hl) (of_decide_eq_true he) rfl (fun ls2 hl2 => hk _ _ _ h1 H locs ls2 hP hS (zm_lv_s2 (v := .long x) hl2))
  | astore i =>
    obtain ⟨hd, rfl, he⟩ : decode cc pc = .ok (.astore i, zm_len (.astore i)) ∧ npc = pc + zm_len (.astore i) ∧ _ := zm_b3 hq
    have hh : zm_A st (fun x st => k (zm_s1 lv i (va_rf x)) st M) := h
    obtain ⟨x, st1, rfl, k1⟩ := zm_A_of hh
    cases x with
    | some x => exact fun H locs ls hP hS hl => lv_astore hx hb hd (zm_lv_has hl) (of_decide_eq_true he) rfl (fun ls2 hl2 => hk _ _ _ k1 H locs ls2 hP hS (zm_lv_s1 (v := .ref x) hl2))
    | none => exact fun H locs ls hP hS hl => lv_astoreN hx hb hd (zm_lv_has hl) (of_decide_eq_true he) rfl (fun ls2 hl2 => hk _ _ _ k1 H locs ls2 hP hS (zm_lv_s1 (v := .null) hl2))
  | astore_n i =>
    obtain ⟨hd, rfl, he⟩ : decode cc pc = .ok (.astore_n i, zm_len (.astore_n i)) ∧ npc = pc + zm_len (.astore_n i) ∧ _ := zm_b3 hq
    have hh : zm_A st (fun x st => k (zm_s1 lv (i : Nat) (va_rf x)) st M) := h
    obtain ⟨x, st1, rfl, k1⟩ := zm_A_of hh
    cases x with
    | some x => exact fun H locs ls hP hS hl => lv_astore_n hx hb hd rfl (zm_lv_has hl) (of_decide_eq_true he) rfl (fun ls2 hl2 => hk _ _ _ k1 H locs ls2 hP hS (zm_lv_s1 (v := .ref x) hl2))
    | none => exact fun H locs ls hP hS hl => lv_astore_nN hx hb hd rfl (zm_lv_has hl) (of_decide_eq_true he) rfl (fun ls2 hl2 => hk _ _ _ k1 H locs ls2 hP hS (zm_lv_s1 (v := .null) hl2))
  | iinc i n =>
    obtain ⟨hd, rfl, he⟩ : decode cc pc = .ok (.iinc i n, zm_len (.iinc i n)) ∧ npc = pc + zm_len (.iinc i n) ∧ _ := zm_b3 hq
    obtain ⟨x, hg, h⟩ := zm_gI_of h
    obtain ⟨he1, he2⟩ := zm_b2 he
    exact fun H locs ls hP hS hl => by
      obtain ⟨j, hj⟩ := List.getElem?_of_mem (zm_mem_as E.2.2.1 lv 0 i (.int x) hg)
      rw [Nat.zero_add] at hj
      exact lv_iinc hx hb hd (zm_lv_has hl) hj (by rw [he1]) he2 rfl (fun ls2 hl2 => hk _ _ _ h H locs ls2 hP hS (zm_lv_s1 (v := .int (x + imm)) hl2))
  | iadd =>
    obtain ⟨hd, rfl, -⟩ : decode cc pc = .ok (.iadd, zm_len (.iadd)) ∧ npc = pc + zm_len (.iadd) ∧ _ := zm_b3 hq
    obtain ⟨y, st1, rfl, h1⟩ := zm_I_of h
    obtain ⟨x, st2, rfl, h2⟩ := zm_I_of h1
    exact fun H locs ls hP hS hl => lv_iadd hx hb hd (hk _ _ _ h2 H locs ls hP hS hl)
  | isub =>
    obtain ⟨hd, rfl, -⟩ : decode cc pc = .ok (.isub, zm_len (.isub)) ∧ npc = pc + zm_len (.isub) ∧ _ := zm_b3 hq
    obtain ⟨y, st1, rfl, h1⟩ := zm_I_of h
    obtain ⟨x, st2, rfl, h2⟩ := zm_I_of h1
    exact fun H locs ls hP hS hl => lv_isub hx hb hd (hk _ _ _ h2 H locs ls hP hS hl)
  | imul =>
    obtain ⟨hd, rfl, -⟩ : decode cc pc = .ok (.imul, zm_len (.imul)) ∧ npc = pc + zm_len (.imul) ∧ _ := zm_b3 hq
    obtain ⟨y, st1, rfl, h1⟩ := zm_I_of h
    obtain ⟨x, st2, rfl, h2⟩ := zm_I_of h1
    exact fun H locs ls hP hS hl => lv_imul hx hb hd (hk _ _ _ h2 H locs ls hP hS hl)
  | iand =>
    obtain ⟨hd, rfl, -⟩ : decode cc pc = .ok (.iand, zm_len (.iand)) ∧ npc = pc + zm_len (.iand) ∧ _ := zm_b3 hq
    obtain ⟨y, st1, rfl, h1⟩ := zm_I_of h
    obtain ⟨x, st2, rfl, h2⟩ := zm_I_of h1
    exact fun H locs ls hP hS hl => lv_iand hx hb hd (hk _ _ _ h2 H locs ls hP hS hl)
  | ior =>
    obtain ⟨hd, rfl, -⟩ : decode cc pc = .ok (.ior, zm_len (.ior)) ∧ npc = pc + zm_len (.ior) ∧ _ := zm_b3 hq
    obtain ⟨y, st1, rfl, h1⟩ := zm_I_of h
    obtain ⟨x, st2, rfl, h2⟩ := zm_I_of h1
    exact fun H locs ls hP hS hl => lv_ior hx hb hd (hk _ _ _ h2 H locs ls hP hS hl)
  | ixor =>
    obtain ⟨hd, rfl, -⟩ : decode cc pc = .ok (.ixor, zm_len (.ixor)) ∧ npc = pc + zm_len (.ixor) ∧ _ := zm_b3 hq
    obtain ⟨y, st1, rfl, h1⟩ := zm_I_of h
    obtain ⟨x, st2, rfl, h2⟩ := zm_I_of h1
    exact fun H locs ls hP hS hl => lv_ixor hx hb hd (hk _ _ _ h2 H locs ls hP hS hl)
  | ishl =>
    obtain ⟨hd, rfl, -⟩ : decode cc pc = .ok (.ishl, zm_len (.ishl)) ∧ npc = pc + zm_len (.ishl) ∧ _ := zm_b3 hq
    obtain ⟨y, st1, rfl, h1⟩ := zm_I_of h
    obtain ⟨x, st2, rfl, h2⟩ := zm_I_of h1
    exact fun H locs ls hP hS hl => lv_ishl hx hb hd (hk _ _ _ h2 H locs ls hP hS hl)
  | ishr =>
    obtain ⟨hd, rfl, -⟩ : decode cc pc = .ok (.ishr, zm_len (.ishr)) ∧ npc = pc + zm_len (.ishr) ∧ _ := zm_b3 hq
    obtain ⟨y, st1, rfl, h1⟩ := zm_I_of h
    obtain ⟨x, st2, rfl, h2⟩ := zm_I_of h1
    exact fun H locs ls hP hS hl => lv_ishr hx hb hd (hk _ _ _ h2 H locs ls hP hS hl)
  | iushr =>
    obtain ⟨hd, rfl, -⟩ : decode cc pc = .ok (.iushr, zm_len (.iushr)) ∧ npc = pc + zm_len (.iushr) ∧ _ := zm_b3 hq
    obtain ⟨y, st1, rfl, h1⟩ := zm_I_of h
    obtain ⟨x, st2, rfl, h2⟩ := zm_I_of h1
    exact fun H locs ls hP hS hl => lv_iushr hx hb hd rfl (hk _ _ _ h2 H locs ls hP hS hl)
  | idiv =>
    obtain ⟨hd, rfl, -⟩ : decode cc pc = .ok (.idiv, zm_len (.idiv)) ∧ npc = pc + zm_len (.idiv) ∧ _ := zm_b3 hq
    obtain ⟨y, st1, rfl, h1⟩ := zm_I_of h
    obtain ⟨x, st2, rfl, h0, h2⟩ := zm_I_of h1
    exact fun H locs ls hP hS hl => lv_idiv hx hb hd h0 (hk _ _ _ h2 H locs ls hP hS hl)
  | irem =>
    obtain ⟨hd, rfl, -⟩ : decode cc pc = .ok (.irem, zm_len (.irem)) ∧ npc = pc + zm_len (.irem) ∧ _ := zm_b3 hq
    obtain ⟨y, st1, rfl, h1⟩ := zm_I_of h
    obtain ⟨x, st2, rfl, h0, h2⟩ := zm_I_of h1
    exact fun H locs ls hP hS hl => lv_irem hx hb hd h0 (hk _ _ _ h2 H locs ls hP hS hl)
  | ineg =>
    obtain ⟨hd, rfl, -⟩ : decode cc pc = .ok (.ineg, zm_len (.ineg)) ∧ npc = pc + zm_len (.ineg) ∧ _ := zm_b3 hq
    obtain ⟨x, st1, rfl, h1⟩ := zm_I_of h
    exact fun H locs ls hP hS hl => lv_ineg hx hb hd (hk _ _ _ h1 H locs ls hP hS hl)
  | ladd =>
    obtain ⟨hd, rfl, -⟩ : decode cc pc = .ok (.ladd, zm_len (.ladd)) ∧ npc = pc + zm_len (.ladd) ∧ _ := zm_b3 hq
    obtain ⟨y, st1, rfl, h1⟩ := zm_J_of h
    obtain ⟨x, st2, rfl, h2⟩ := zm_J_of h1
    exact fun H locs ls hP hS hl => lv_ladd hx hb hd (hk _ _ _ h2 H locs ls hP hS hl)
  | lsub =>
    obtain ⟨hd, rfl, -⟩ : decode cc pc = .ok (.lsub, zm_len (.lsub)) ∧ npc = pc + zm_len (.lsub) ∧ _ := zm_b3 hq
    obtain ⟨y, st1, rfl, h1⟩ := zm_J_of h
    obtain ⟨x, st2, rfl, h2⟩ := zm_J_of h1
    exact fun H locs ls hP hS hl => lv_lsub hx hb hd (hk _ _ _ h2 H locs ls hP hS hl)
  | lmul =>
    obtain ⟨hd, rfl, -⟩ : decode cc pc = .ok (.lmul, zm_len (.lmul)) ∧ npc = pc + zm_len (.lmul) ∧ _ := zm_b3 hq
    obtain ⟨y, st1, rfl, h1⟩ := zm_J_of h
    obtain ⟨x, st2, rfl, h2⟩ := zm_J_of h1
    exact fun H locs ls hP hS hl => lv_lmul hx hb hd (hk _ _ _ h2 H locs ls hP hS hl)
  | lor =>
    obtain ⟨hd, rfl, -⟩ : decode cc pc = .ok (.lor, zm_len (.lor)) ∧ npc = pc + zm_len (.lor) ∧ _ := zm_b3 hq
    obtain ⟨y, st1, rfl, h1⟩ := zm_J_of h
    obtain ⟨x, st2, rfl, h2⟩ := zm_J_of h1
    exact fun H locs ls hP hS hl => lv_lor hx hb hd (hk _ _ _ h2 H locs ls hP hS hl)
  | ldiv =>
    obtain ⟨hd, rfl, -⟩ : decode cc pc = .ok (.ldiv, zm_len (.ldiv)) ∧ npc = pc + zm_len (.ldiv) ∧ _ := zm_b3 hq
    obtain ⟨y, st1, rfl, h1⟩ := zm_J_of h
    obtain ⟨x, st2, rfl, h0, h2⟩ := zm_J_of h1
    exact fun H locs ls hP hS hl => lv_ldiv hx hb hd h0 (hk _ _ _ h2 H locs ls hP hS hl)
  | lrem =>
    obtain ⟨hd, rfl, -⟩ : decode cc pc = .ok (.lrem, zm_len (.lrem)) ∧ npc = pc + zm_len (.lrem) ∧ _ := zm_b3 hq
    obtain ⟨y, st1, rfl, h1⟩ := zm_J_of h
    obtain ⟨x, st2, rfl, h0, h2⟩ := zm_J_of h1
    exact fun H locs ls hP hS hl => lv_lrem hx hb hd h0 (hk _ _ _ h2 H locs ls hP hS hl)
  | lneg =>
    obtain ⟨hd, rfl, -⟩ : decode cc pc = .ok (.lneg, zm_len (.lneg)) ∧ npc = pc + zm_len (.lneg) ∧ _ := zm_b3 hq
    obtain ⟨x, st1, rfl, h1⟩ := zm_J_of h
    exact fun H locs ls hP hS hl => lv_lneg hx hb hd (hk _ _ _ h1 H locs ls hP hS hl)
  | lshl =>
    obtain ⟨hd, rfl, -⟩ : decode cc pc = .ok (.lshl, zm_len (.lshl)) ∧ npc = pc + zm_len (.lshl) ∧ _ := zm_b3 hq
    obtain ⟨y, st1, rfl, h1⟩ := zm_I_of h
    obtain ⟨x, st2, rfl, h2⟩ := zm_J_of h1
    exact fun H locs ls hP hS hl => lv_lshl hx hb hd rfl (hk _ _ _ h2 H locs ls hP hS hl)
  | lshr =>
    obtain ⟨hd, rfl, -⟩ : decode cc pc = .ok (.lshr, zm_len (.lshr)) ∧ npc = pc + zm_len (.lshr) ∧ _ := zm_b3 hq
    obtain ⟨y, st1, rfl, h1⟩ := zm_I_of h
    obtain ⟨x, st2, rfl, h2⟩ := zm_J_of h1
    exact fun H locs ls hP hS hl => lv_lshr hx hb hd rfl (hk _ _ _ h2 H locs ls hP hS hl)
  | lcmp =>
    obtain ⟨hd, rfl, -⟩ : decode cc pc = .ok (.lcmp, zm_len (.lcmp)) ∧ npc = pc + zm_len (.lcmp) ∧ _ := zm_b3 hq
    obtain ⟨y, st1, rfl, h1⟩ := zm_J_of h
    obtain ⟨x, st2, rfl, h2⟩ := zm_J_of h1
    exact fun H locs ls hP hS hl => W.lcmp hx hb hd (hk _ _ _ h2 H locs ls hP hS hl)
  | i2l =>
    obtain ⟨hd, rfl, -⟩ : decode cc pc = .ok (.i2l, zm_len (.i2l)) ∧ npc = pc + zm_len (.i2l) ∧ _ := zm_b3 hq
    obtain ⟨x, st1, rfl, h1⟩ := zm_I_of h
    exact fun H locs ls hP hS hl => lv_i2l hx hb hd rfl (hk _ _ _ h1 H locs ls hP hS hl)
  | l2i =>
    obtain ⟨hd, rfl, -⟩ : decode cc pc = .ok (.l2i, zm_len (.l2i)) ∧ npc = pc + zm_len (.l2i) ∧ _ := zm_b3 hq
    obtain ⟨x, st1, rfl, h1⟩ := zm_J_of h
    exact fun H locs ls hP hS hl => lv_l2i hx hb hd rfl (hk _ _ _ h1 H locs ls hP hS hl)
  | i2c =>
    obtain ⟨hd, rfl, -⟩ : decode cc pc = .ok (.i2c, zm_len (.i2c)) ∧ npc = pc + zm_len (.i2c) ∧ _ := zm_b3 hq
    obtain ⟨x, st1, rfl, h1⟩ := zm_I_of h
    exact fun H locs ls hP hS hl => lv_i2c hx hb hd rfl (hk _ _ _ h1 H locs ls hP hS hl)
  | dup =>
    obtain ⟨hd, rfl, -⟩ : decode cc pc = .ok (.dup, zm_len (.dup)) ∧ npc = pc + zm_len (.dup) ∧ _ := zm_b3 hq
    have hh : zm_V st (fun v st => k lv (v :: v :: st) M) := h
    obtain ⟨v, st1, rfl, hc, k1⟩ := zm_V_of hh
    exact fun H locs ls hP hS hl => lv_dup hx hb hd (by rw [zm_c_cat]; exact hc) (hk _ _ _ k1 H locs ls hP hS hl)
  | dup2 =>
    obtain ⟨hd, rfl, -⟩ : decode cc pc = .ok (.dup2, zm_len (.dup2)) ∧ npc = pc + zm_len (.dup2) ∧ _ := zm_b3 hq
    have hh : zm_V st (fun v st => zm_V st fun w st => k lv (v :: w :: v :: w :: st) M) := h
    obtain ⟨v, st1, rfl, hc, k1⟩ := zm_V_of hh
    obtain ⟨w, st2, rfl, hc2, k2⟩ := zm_V_of k1
    exact fun H locs ls hP hS hl => lv_dup2_11 hx hb hd (by rw [zm_c_cat]; exact hc) (by rw [zm_c_cat]; exact hc2) (hk _ _ _ k2 H locs ls hP hS hl)
  | pop =>
    obtain ⟨hd, rfl, -⟩ : decode cc pc = .ok (.pop, zm_len (.pop)) ∧ npc = pc + zm_len (.pop) ∧ _ := zm_b3 hq
    have hh : zm_V st (fun _ st => k lv st M) := h
    obtain ⟨v, st1, rfl, hc, k1⟩ := zm_V_of hh
    exact fun H locs ls hP hS hl => lv_pop hx hb hd (by rw [zm_c_cat]; exact hc) (hk _ _ _ k1 H locs ls hP hS hl)
  | ifCond c o =>
    obtain ⟨hd, rfl, he⟩ : decode cc pc = .ok (.ifCond c o, zm_len (.ifCond c o)) ∧ npc = pc + zm_len (.ifCond c o) ∧ _ := zm_b3 hq
    obtain ⟨x, st1, rfl, h1⟩ := zm_I_of h
    cases c with
    | eq => exact fun H locs ls hP hS hl => lv_if_eq hx hb hd (of_decide_eq_true he) (fun c => hJ _ _ _ _ (h1.1 c) H locs ls hP hS hl) (fun c => hk _ _ _ (h1.2 c) H locs ls hP hS hl)
    | ne => exact fun H locs ls hP hS hl => lv_if_ne hx hb hd (of_decide_eq_true he) (fun c => hJ _ _ _ _ (h1.1 c) H locs ls hP hS hl) (fun c => hk _ _ _ (h1.2 (fun z => z c)) H locs ls hP hS hl)
    | lt => exact fun H locs ls hP hS hl => lv_if_lt hx hb hd (of_decide_eq_true he) (fun c => hJ _ _ _ _ (h1.1 c) H locs ls hP hS hl) (fun c => hk _ _ _ (h1.2 c) H locs ls hP hS hl)
    | ge => exact fun H locs ls hP hS hl => lv_if_ge hx hb hd (of_decide_eq_true he) (fun c => hJ _ _ _ _ (h1.1 c) H locs ls hP hS hl) (fun c => hk _ _ _ (h1.2 c) H locs ls hP hS hl)
    | gt => exact fun H locs ls hP hS hl => lv_if_gt hx hb hd (of_decide_eq_true he) (fun c => hJ _ _ _ _ (h1.1 c) H locs ls hP hS hl) (fun c => hk _ _ _ (h1.2 c) H locs ls hP hS hl)
    | le => exact fun H locs ls hP hS hl => lv_if_le hx hb hd (of_decide_eq_true he) (fun c => hJ _ _ _ _ (h1.1 c) H locs ls hP hS hl) (fun c => hk _ _ _ (h1.2 c) H locs ls hP hS hl)
  | if_icmp c o =>
    obtain ⟨hd, rfl, he⟩ : decode cc pc = .ok (.if_icmp c o, zm_len (.if_icmp c o)) ∧ npc = pc + zm_len (.if_icmp c o) ∧ _ := zm_b3 hq
    obtain ⟨y, st1, rfl, h1⟩ := zm_I_of h
    obtain ⟨x, st2, rfl, h2⟩ := zm_I_of h1
    cases c with
    | eq => exact fun H locs ls hP hS hl => lv_icmp_eq hx hb hd (of_decide_eq_true he) (fun c => hJ _ _ _ _ (h2.1 c) H locs ls hP hS hl) (fun c => hk _ _ _ (h2.2 c) H locs ls hP hS hl)
    | ne => exact fun H locs ls hP hS hl => lv_icmp_ne hx hb hd (of_decide_eq_true he) (fun c => hJ _ _ _ _ (h2.1 c) H locs ls hP hS hl) (fun c => hk _ _ _ (h2.2 (fun z => z c)) H locs ls hP hS hl)
    | lt => exact fun H locs ls hP hS hl => lv_icmp_lt hx hb hd (of_decide_eq_true he) (fun c => hJ _ _ _ _ (h2.1 c) H locs ls hP hS hl) (fun c => hk _ _ _ (h2.2 c) H locs ls hP hS hl)
    | ge => exact fun H locs ls hP hS hl => lv_icmp_ge hx hb hd (of_decide_eq_true he) (fun c => hJ _ _ _ _ (h2.1 c) H locs ls hP hS hl) (fun c => hk _ _ _ (h2.2 c) H locs ls hP hS hl)
    | gt => exact fun H locs ls hP hS hl => lv_icmp_gt hx hb hd (of_decide_eq_true he) (fun c => hJ _ _ _ _ (h2.1 c) H locs ls hP hS hl) (fun c => hk _ _ _ (h2.2 c) H locs ls hP hS hl)
    | le => exact fun H locs ls hP hS hl => lv_icmp_le hx hb hd (of_decide_eq_true he) (fun c => hJ _ _ _ _ (h2.1 c) H locs ls hP hS hl) (fun c => hk _ _ _ (h2.2 c) H locs ls hP hS hl)
  | if_acmp c o =>
    obtain ⟨hd, rfl, he⟩ : decode cc pc = .ok (.if_acmp c o, zm_len (.if_acmp c o)) ∧ npc = pc + zm_len (.if_acmp c o) ∧ _ := zm_b3 hq
    cases c with
    | eq =>
      have hh : zm_A st (fun y st => zm_A st fun x st => zm_br (x = y) (J tgt lv st M) (k lv st M)) := h
      obtain ⟨y, st1, rfl, k1⟩ := zm_A_of hh
      obtain ⟨x, st2, rfl, k2⟩ := zm_A_of k1
      exact fun H locs ls hP hS hl => W.eq (by rw [List.map_cons, List.map_cons, zm_c_rf, zm_c_rf]) (lv_acmp_eq hx hb hd (of_decide_eq_true he) (fun c => hJ _ _ _ _ (k2.1 (zm_inj hok c)) H locs ls hP hS hl) (fun c => hk _ _ _ (k2.2 (fun z => c (by rw [z]))) H locs ls hP hS hl))
    | ne =>
      have hh : zm_A st (fun y st => zm_A st fun x st => zm_br (¬ x = y) (J tgt lv st M) (k lv st M)) := h
      obtain ⟨y, st1, rfl, k1⟩ := zm_A_of hh
      obtain ⟨x, st2, rfl, k2⟩ := zm_A_of k1
      exact fun H locs ls hP hS hl => W.eq (by rw [List.map_cons, List.map_cons, zm_c_rf, zm_c_rf]) (lv_acmp_ne hx hb hd (of_decide_eq_true he) (fun c => hJ _ _ _ _ (k2.1 (fun z => c (by rw [z]))) H locs ls hP hS hl) (fun c => hk _ _ _ (k2.2 (fun z => z (zm_inj hok c))) H locs ls hP hS hl))
  | ifnull o =>
    obtain ⟨hd, rfl, he⟩ : decode cc pc = .ok (.ifnull o, zm_len (.ifnull o)) ∧ npc = pc + zm_len (.ifnull o) ∧ _ := zm_b3 hq
    have hh : zm_A st (fun x st => (x = none → J tgt lv st M) ∧ (∀ y, x = some y → k lv st M)) := h
    obtain ⟨x, st1, rfl, k1⟩ := zm_A_of hh
    cases x with
    | none => exact fun H locs ls hP hS hl => lv_ifnullN hx hb hd (of_decide_eq_true he) (hJ _ _ _ _ (k1.1 rfl) H locs ls hP hS hl)
    | some x => exact fun H locs ls hP hS hl => lv_ifnull hx hb hd (hk _ _ _ (k1.2 x rfl) H locs ls hP hS hl)
  | goto o =>
    obtain ⟨hd, rfl, he⟩ : decode cc pc = .ok (.goto o, zm_len (.goto o)) ∧ npc = pc + zm_len (.goto o) ∧ _ := zm_b3 hq
    exact fun H locs ls hP hS hl => lv_goto hx hb hd (of_decide_eq_true he) (hJ _ _ _ _ h H locs ls hP hS hl)
  | tableswitch dd lo hi offs =>
    obtain ⟨hd, ht⟩ : decode cc pc = .ok (.tableswitch dd lo hi offs, npc - pc) ∧ _ := zm_b1 hq
    obtain ⟨x, st1, rfl, h1⟩ := zm_I_of h
    obtain ⟨ht1, ht2⟩ : zm_okT pc lo hi offs.toList cs = true ∧ (pc : Int) + dd = (tgt : Int) := zm_b2' ht
    exact fun H locs ls hP hS hl => by
      by_cases hc : x.toInt < lo ∨ hi < x.toInt
      · exact lv_tableOut hx hb hd hc ht2 (hJ _ _ _ _ (zm_sw_out h1 (zm_okT_out ht1 hc)) H locs ls hP hS hl)
      · obtain ⟨o, t, e1, e2, e3⟩ := zm_okT_in ht1 (fun z => hc (Or.inl z)) (fun z => hc (Or.inr z))
        exact lv_tableIn hx hb hd (fun z => hc (Or.inl z)) (fun z => hc (Or.inr z)) (by rw [← Array.getElem?_toList]; exact e1) e2 (hJ _ _ _ _ (e3 _ _ h1) H locs ls hP hS hl)
  | lookupswitch dd ps =>
    obtain ⟨hd, ht⟩ : decode cc pc = .ok (.lookupswitch dd ps, npc - pc) ∧ _ := zm_b1 hq
    obtain ⟨x, st1, rfl, h1⟩ := zm_I_of h
    obtain ⟨ht0, ht2⟩ : (((ps.toList.zip (ps.toList.drop 1)).all (fun (a, next) => a.1 < next.1)) && zm_okL pc ps.toList cs) = true ∧ (pc : Int) + dd = (tgt : Int) := zm_b2' ht
    obtain ⟨ht3, ht1⟩ := Bool.and_eq_true_iff.mp ht0
    exact fun H locs ls hP hS hl => by
      obtain ⟨t, e1, e2⟩ := zm_okL_sw (x := x) (dd := dd) (J := fun t => J t lv st1 M) ps.toList cs ht1 ht2 h1
      exact lv_lookup hx hb hd ht3 rfl e1 (hJ _ _ _ _ e2 H locs ls hP hS hl)
  | ireturn =>
    obtain ⟨hd, rfl, -⟩ : decode cc pc = .ok (.ireturn, zm_len (.ireturn)) ∧ npc = pc + zm_len (.ireturn) ∧ _ := zm_b3 hq
    obtain ⟨x, st1, rfl, rfl, hn, h1⟩ := zm_I_of h
    cases ret with
    | none => exact hn.elim
    | some ty => exact fun H locs ls hP hS hl => W.zret hx hb hr hn (fun t ht hW => ⟨⟨some (.int x), M, rfl, h1, by rw [ht]; exact hP⟩, hS.F ht⟩) hS.2.2 hd hlk
  | lreturn =>
    obtain ⟨hd, rfl, -⟩ : decode cc pc = .ok (.lreturn, zm_len (.lreturn)) ∧ npc = pc + zm_len (.lreturn) ∧ _ := zm_b3 hq
    obtain ⟨x, st1, rfl, rfl, rfl, h1⟩ := zm_J_of h
    exact fun H locs ls hP hS hl => W.lret hx hb hr (fun t ht hW => ⟨⟨some (.long x), M, rfl, h1, by rw [ht]; exact hP⟩, hS.F ht⟩) hS.2.2 hd hlk
  | areturn =>
    obtain ⟨hd, rfl, -⟩ : decode cc pc = .ok (.areturn, zm_len (.areturn)) ∧ npc = pc + zm_len (.areturn) ∧ _ := zm_b3 hq
    have hh : zm_A st (fun x st => st = [] ∧ zm_ra ret ∧ Q (some (va_rf x)) M) := h
    obtain ⟨x, st1, rfl, rfl, hn, k1⟩ := zm_A_of hh
    obtain ⟨nn, rfl⟩ := zm_ra_of hn
    exact fun H locs ls hP hS hl => W.eq (by rw [List.map_cons, zm_c_rf]; rfl) (W.aret (v := va_rf (x.map E.2.2.1)) hx hb hr (Or.inl ⟨nn, rfl⟩) (by cases x with | none => exact Or.inl rfl | some y => exact Or.inr ⟨_, rfl⟩) (fun t ht hW => ⟨⟨some (va_rf x), M, by rw [Option.map_some, zm_c_rf], k1, by rw [ht]; exact hP⟩, hS.F ht⟩) hS.2.2 hd hlk)
  | return_ =>
    obtain ⟨hd, rfl, -⟩ : decode cc pc = .ok (.return_, zm_len (.return_)) ∧ npc = pc + zm_len (.return_) ∧ _ := zm_b3 hq
    obtain ⟨rfl, rfl, h⟩ := h
    exact fun H locs ls hP hS hl => W.vret hx hb hr (fun t ht hW => ⟨⟨none, M, rfl, h, by rw [ht]; exact hP⟩, hS.F ht⟩) hS.2.2 hd hlk
  | getfield i =>
    obtain ⟨hd, rfl, -⟩ : decode cc pc = .ok (.getfield i, zm_len (.getfield i)) ∧ npc = pc + zm_len (.getfield i) ∧ _ := zm_b3 hq
    cases hz : zz_gf own i with
    | zero =>
      have h : zm_P st (fun p st => zm_ob p (zy_fr own i).1 ∧ zy_fo own i ∧ k lv (zm_fv id M p (zy_fr own i).1 (zy_fr own i).2 :: st) M) := by have h' := h; simp only [zm_st, hz] at h'; exact h'
      obtain ⟨a, st1, rfl, ho, hf, h1⟩ := zm_P_of h
      obtain ⟨C, T, N, ty0, ⟨hc, hin, hty, hnm, hln, hft⟩, hkN, hlink⟩ := hf
      exact fun H locs ls hP hS hl => by
        refine va_get hx hb hts hin hown hK hP a ((zm_at ho.1).trans (by rw [zm_cell_ob ho])) hc (zy_fr own i).2 hkN (hts _ hlink) (fun _ h9 => h9) (v := zm_fv E.2.2.1 M a (zy_fr own i).1 (zy_fr own i).2) ?_ hd ?_
        · rw [hln a ho.1 ho.2.1, List.getElem?_map, List.getElem?_range hkN]; rfl
        · rw [zm_fv_c]; exact hk _ _ _ h1 H locs ls hP hS hl
    | succ f =>
      have h : zm_P st (fun p st => (1000 ≤ p ∧ p < 1044) ∧ k lv (.int (zz_fv f (p - 1000)) :: st) M) := by have h' := h; simp only [zm_st, hz] at h'; exact h'
      obtain ⟨a, st1, rfl, ⟨h5, h6⟩, h1⟩ := zm_P_of h
      obtain ⟨w, hw, rfl⟩ := zz_ex h5 h6
      rw [Nat.add_sub_cancel_left] at h1
      obtain ⟨q9, hq9, he9, hl9, hv9⟩ := zz_gf_ok hz
      exact fun H locs ls hP hS hl => va_getE hx hb hSF.2.2.1 (i := w) hw hS hown hq9 (hts _ hl9) (fun x h9 => by rw [he9] at h9; exact h9) hd (by rw [hv9]; exact hk _ _ _ h1 H locs ls hP hS hl)
  | getstatic i =>
    obtain ⟨hd, rfl, -⟩ : decode cc pc = .ok (.getstatic i, zm_len (.getstatic i)) ∧ npc = pc + zm_len (.getstatic i) ∧ _ := zm_b3 hq
    cases hz : zz_gs own i with
    | none =>
      have h : False := by have h' := h; simp only [zm_st, hz] at h'
      exact h.elim
    | some w =>
      have h : k lv (.ref (1000 + w) :: st) M := by have h' := h; simp only [zm_st, hz] at h'; exact h'
      obtain ⟨hw, hl9⟩ := zz_gs_ok hz
      exact fun H locs ls hP hS hl => va_gets hx hb (hSF.2.2.1.1 w hw).1 hS hown (hts _ hl9) (fun _ h9 => h9) hd (hk _ _ _ h H locs ls hP hS hl)
  | aastore =>
    obtain ⟨hd, rfl, -⟩ : decode cc pc = .ok (.aastore, zm_len (.aastore)) ∧ npc = pc + zm_len (.aastore) ∧ _ := zm_b3 hq
    obtain ⟨v, st1, rfl, h1⟩ := zm_P_of h
    obtain ⟨j, st2, rfl, h2⟩ := zm_I_of h1
    obtain ⟨a, st3, rfl, ⟨h5, h6⟩, ⟨n, ha, hi⟩, h3⟩ := zm_P_of h2
    obtain ⟨w, hw, rfl⟩ := zz_ex h5 h6
    exact fun H locs ls hP hS hl => by
      obtain ⟨cell, g1, g2, g3⟩ := va_recvE hSF.2.2.1 (i := w) hw hS
      obtain ⟨kC, hkC, -⟩ := Vm.findClass_spec g3
      refine va_astqM hx hb hK hP (zm_D hok _ _) hS a 6 (f := fun i => (M.2.2 a i).map E.2.2.1) ((zm_at ha.1).trans (by rw [zm_cell_ar ha]; rfl)) rfl ⟨cell, g1, g2, ⟨kC, hkC⟩, fun comp hc => ?_⟩ hi hd (fun H1 locs1 hP1 hD1 hS1 => hk _ _ _ h3 H1 locs1 ls ?_ hS1 hl)
      · have e9 : comp = cell.cls := Option.some.inj (hc.symm.trans g3)
        rw [e9]; exact va_asg _ _
      · have e := zm_set (ad := E.2.2.1) (cA := E.2.2.2.1) (M := M) (M' := zm_wr M a j.toNatClampNeg (some (1000 + w))) ha.1 (zm_wr_ne M a _ _)
        rw [zm_cell_ar ha, show zm_ct E.2.2.1 (zm_wr M a j.toNatClampNeg (some (1000 + w))) a 6 = .inr (.inr (.inr (.inr (va_up (fun i => (M.2.2 a i).map E.2.2.1) j.toNatClampNeg (some (E.2.2.1 (1000 + w))))))) from congrArg (fun f => Sum.inr (Sum.inr (Sum.inr (Sum.inr f)))) (funext fun i => by
          simp only [zm_wr, if_true, va_up]
          split <;> rfl)] at e
        rw [← e]; exact hP1
  | putfield i =>
    obtain ⟨hd, rfl, -⟩ : decode cc pc = .ok (.putfield i, zm_len (.putfield i)) ∧ npc = pc + zm_len (.putfield i) ∧ _ := zm_b3 hq
    obtain ⟨v, st1, rfl, h1⟩ := zm_W_of h
    obtain ⟨a, st2, rfl, ho, hf, h2⟩ := zm_P_of h1
    obtain ⟨C, T, N, ty0, ⟨hc, hin, hty, hnm, hln, hft⟩, hkN, hlink⟩ := hf
    obtain ⟨M2, hM2, hn, hfit, hfin, hk2, hv2⟩ := zm_pf_of (ad := E.2.2.1) hft hkN h2
    exact fun H locs ls hP hS hl => by
      refine va_put hx hb hts hin ty0 hty hnm hown hK hP (zm_D hok _ _) hS a ((zm_at ho.1).trans (by rw [zm_cell_ob ho])) hc (zy_fr own i).2 hkN (hts _ hlink) (fun _ h9 => h9) hfin (hty _ hkN) hn hfit (by rw [List.length_map, List.length_range, hln a ho.1 ho.2.1]; exact hkN) hd (fun H1 locs1 hP1 hD1 hS1 => hk _ _ _ hM2 H1 locs1 ls ?_ hS1 hl)
      have e := zm_set (ad := E.2.2.1) (cA := E.2.2.2.1) (M := M) (M' := M2) ho.1 hk2
      rw [zm_cell_ob ho, ← hv2 _ (by rw [hln a ho.1 ho.2.1]; exact hkN)] at e
      rw [← e]; exact hP1
  | iaload =>
    obtain ⟨hd, rfl, -⟩ : decode cc pc = .ok (.iaload, zm_len (.iaload)) ∧ npc = pc + zm_len (.iaload) ∧ _ := zm_b3 hq
    obtain ⟨j, st1, rfl, h1⟩ := zm_I_of h
    obtain ⟨a, st2, rfl, ⟨n, ha, hi⟩, h2⟩ := zm_P_of h1
    exact fun H locs ls hP hS hl => va_iald hx hb hK hP a 0 ((zm_at ha.1).trans (by rw [zm_cell_ar ha]; rfl)) rfl hi hd (hk _ _ _ h2 H locs ls hP hS hl)
  | caload =>
    obtain ⟨hd, rfl, -⟩ : decode cc pc = .ok (.caload, zm_len (.caload)) ∧ npc = pc + zm_len (.caload) ∧ _ := zm_b3 hq
    obtain ⟨j, st1, rfl, h1⟩ := zm_I_of h
    obtain ⟨a, st2, rfl, ⟨n, ha, hi⟩, h2⟩ := zm_P_of h1
    exact fun H locs ls hP hS hl => va_cald hx hb hK hP a 1 ((zm_at ha.1).trans (by rw [zm_cell_ar ha]; rfl)) rfl hi hd (hk _ _ _ h2 H locs ls hP hS hl)
  | baload =>
    obtain ⟨hd, rfl, -⟩ : decode cc pc = .ok (.baload, zm_len (.baload)) ∧ npc = pc + zm_len (.baload) ∧ _ := zm_b3 hq
    obtain ⟨j, st1, rfl, h1⟩ := zm_I_of h
    obtain ⟨a, st2, rfl, ⟨n, ha, hi⟩, h2⟩ := zm_P_of h1
    exact fun H locs ls hP hS hl => va_zald hx hb hK hP a 2 ((zm_at ha.1).trans (by rw [zm_cell_ar ha]; rfl)) rfl hi hd (hk _ _ _ h2 H locs ls hP hS hl)
  | laload =>
    obtain ⟨hd, rfl, -⟩ : decode cc pc = .ok (.laload, zm_len (.laload)) ∧ npc = pc + zm_len (.laload) ∧ _ := zm_b3 hq
    obtain ⟨j, st1, rfl, h1⟩ := zm_I_of h
    obtain ⟨a, st2, rfl, ⟨n, ha, hi⟩, h2⟩ := zm_P_of h1
    exact fun H locs ls hP hS hl => va_lald hx hb hK hP a 3 ((zm_at ha.1).trans (by rw [zm_cell_ar ha]; rfl)) rfl hi hd (hk _ _ _ h2 H locs ls hP hS hl)
  | aaload =>
    obtain ⟨hd, rfl, -⟩ : decode cc pc = .ok (.aaload, zm_len (.aaload)) ∧ npc = pc + zm_len (.aaload) ∧ _ := zm_b3 hq
    obtain ⟨j, st1, rfl, h1⟩ := zm_I_of h
    obtain ⟨a, st2, rfl, ⟨t, n, ha, h4, h7, hi⟩, h2⟩ := zm_P_of h1
    have ht : t = 4 ∨ t = 5 ∨ t = 6 := by omega
    have ha2 : zy_ly a = (100 + t, n) := ha.2
    exact fun H locs ls hP hS hl => by
      rcases ht with rfl | rfl | rfl
      · refine va_aldq hx hb hK hP a 4 (f := fun i => some (E.2.2.1 (zy_el 4 a i))) ((zm_at ha.1).trans (by rw [zm_cell_ar ha]; rfl)) rfl hi hd ?_
        have h2 := hk _ _ _ h2 H locs ls hP hS hl
        rw [show zm_ao M a j.toNatClampNeg = .ref (zy_el 4 a j.toNatClampNeg) by unfold zm_ao; rw [ha2]; rfl] at h2
        exact h2
      · refine va_aldq hx hb hK hP a 5 (f := fun i => some (E.2.2.1 (zy_el 5 a i))) ((zm_at ha.1).trans (by rw [zm_cell_ar ha]; rfl)) rfl hi hd ?_
        have h2 := hk _ _ _ h2 H locs ls hP hS hl
        rw [show zm_ao M a j.toNatClampNeg = .ref (zy_el 5 a j.toNatClampNeg) by unfold zm_ao; rw [ha2]; rfl] at h2
        exact h2
      · refine va_aldq hx hb hK hP a 6 (f := fun i => (M.2.2 a i).map E.2.2.1) ((zm_at ha.1).trans (by rw [zm_cell_ar ha]; rfl)) rfl hi hd ?_
        have h2 := hk _ _ _ h2 H locs ls hP hS hl
        rw [show zm_ao M a j.toNatClampNeg = va_rf (M.2.2 a j.toNatClampNeg) by unfold zm_ao; rw [ha2]; rfl, List.map_cons, zm_c_rf] at h2
        exact h2
  | iastore =>
    obtain ⟨hd, rfl, -⟩ : decode cc pc = .ok (.iastore, zm_len (.iastore)) ∧ npc = pc + zm_len (.iastore) ∧ _ := zm_b3 hq
    obtain ⟨x, st1, rfl, h1⟩ := zm_I_of h
    obtain ⟨j, st2, rfl, h2⟩ := zm_I_of h1
    obtain ⟨a, st3, rfl, ⟨n, ha, hi⟩, h3⟩ := zm_P_of h2
    exact fun H locs ls hP hS hl => by
      refine va_iast hx hb hK hP (zm_D hok _ _) hS a 0 ((zm_at ha.1).trans (by rw [zm_cell_ar ha]; rfl)) rfl hi hd (fun H1 locs1 hP1 hD1 hS1 => hk _ _ _ h3 H1 locs1 ls ?_ hS1 hl)
      have e := zm_set (ad := E.2.2.1) (cA := E.2.2.2.1) (M := M) (M' := zm_wi M a j.toNatClampNeg x) ha.1 (zm_wi_ne M a _ _)
      rw [zm_cell_ar ha, show zm_ct E.2.2.1 (zm_wi M a j.toNatClampNeg x) a 0 = .inl (upd (M.1 a) j.toNatClampNeg x) from congrArg Sum.inl (if_pos rfl)] at e
      rw [← e]; exact hP1
  | castore =>
    obtain ⟨hd, rfl, -⟩ : decode cc pc = .ok (.castore, zm_len (.castore)) ∧ npc = pc + zm_len (.castore) ∧ _ := zm_b3 hq
    obtain ⟨x, st1, rfl, h1⟩ := zm_I_of h
    obtain ⟨j, st2, rfl, h2⟩ := zm_I_of h1
    obtain ⟨a, st3, rfl, ⟨n, ha, hi⟩, h3⟩ := zm_P_of h2
    exact fun H locs ls hP hS hl => by
      refine va_cast hx hb hK hP (zm_D hok _ _) hS a 1 ((zm_at ha.1).trans (by rw [zm_cell_ar ha]; rfl)) rfl hi hd (fun H1 locs1 hP1 hD1 hS1 => hk _ _ _ h3 H1 locs1 ls ?_ hS1 hl)
      have e := zm_set (ad := E.2.2.1) (cA := E.2.2.2.1) (M := M) (M' := zm_wi M a j.toNatClampNeg (vp_nar .char x)) ha.1 (zm_wi_ne M a _ _)
      rw [zm_cell_ar ha, show zm_ct E.2.2.1 (zm_wi M a j.toNatClampNeg (vp_nar .char x)) a 1 = .inl (upd (M.1 a) j.toNatClampNeg (vp_nar .char x)) from congrArg Sum.inl (if_pos rfl)] at e
      rw [← e]; exact hP1
  | bastore =>
    obtain ⟨hd, rfl, -⟩ : decode cc pc = .ok (.bastore, zm_len (.bastore)) ∧ npc = pc + zm_len (.bastore) ∧ _ := zm_b3 hq
    obtain ⟨x, st1, rfl, h1⟩ := zm_I_of h
    obtain ⟨j, st2, rfl, h2⟩ := zm_I_of h1
    obtain ⟨a, st3, rfl, ⟨n, ha, hi⟩, h3⟩ := zm_P_of h2
    exact fun H locs ls hP hS hl => by
      refine va_zast hx hb hK hP (zm_D hok _ _) hS a 2 ((zm_at ha.1).trans (by rw [zm_cell_ar ha]; rfl)) rfl hi hd (fun H1 locs1 hP1 hD1 hS1 => hk _ _ _ h3 H1 locs1 ls ?_ hS1 hl)
      have e := zm_set (ad := E.2.2.1) (cA := E.2.2.2.1) (M := M) (M' := zm_wi M a j.toNatClampNeg (vp_nar .boolean x)) ha.1 (zm_wi_ne M a _ _)
      rw [zm_cell_ar ha, show zm_ct E.2.2.1 (zm_wi M a j.toNatClampNeg (vp_nar .boolean x)) a 2 = .inl (upd (M.1 a) j.toNatClampNeg (vp_nar .boolean x)) from congrArg Sum.inl (if_pos rfl)] at e
      rw [← e]; exact hP1
  | lastore =>
    obtain ⟨hd, rfl, -⟩ : decode cc pc = .ok (.lastore, zm_len (.lastore)) ∧ npc = pc + zm_len (.lastore) ∧ _ := zm_b3 hq
    obtain ⟨x, st1, rfl, h1⟩ := zm_J_of h
    obtain ⟨j, st2, rfl, h2⟩ := zm_I_of h1
    obtain ⟨a, st3, rfl, ⟨n, ha, hi⟩, h3⟩ := zm_P_of h2
    exact fun H locs ls hP hS hl => by
      refine va_last hx hb hK hP (zm_D hok _ _) hS a 3 ((zm_at ha.1).trans (by rw [zm_cell_ar ha]; rfl)) rfl hi hd (fun H1 locs1 hP1 hD1 hS1 => hk _ _ _ h3 H1 locs1 ls ?_ hS1 hl)
      have e := zm_set (ad := E.2.2.1) (cA := E.2.2.2.1) (M := M) (M' := zm_wj M a j.toNatClampNeg x) ha.1 (zm_wj_ne M a _ _)
      rw [zm_cell_ar ha, show zm_ct E.2.2.1 (zm_wj M a j.toNatClampNeg x) a 3 = .inr (.inl (vp_updL (M.2.1 a) j.toNatClampNeg x)) from congrArg (fun f => Sum.inr (Sum.inl f)) (if_pos rfl)] at e
      rw [← e]; exact hP1
  | arraylength =>
    obtain ⟨hd, rfl, -⟩ : decode cc pc = .ok (.arraylength, zm_len (.arraylength)) ∧ npc = pc + zm_len (.arraylength) ∧ _ := zm_b3 hq
    obtain ⟨a, st1, rfl, ⟨t, ht, ha⟩, h1⟩ := zm_P_of h
    obtain ⟨ty, hty⟩ := zm_tys_at E.2.2.2.1 ht
    exact fun H locs ls hP hS hl => va_alen (x := ((zy_ly a).2, zm_ct E.2.2.1 M a t)) hx hb hK hP a t ((zm_at ha.1).trans (by rw [zm_cell_ar ha])) hty rfl hd (hk _ _ _ h1 H locs ls hP hS hl)
  | invokevirtual i =>
    obtain ⟨hd, rfl, -⟩ : decode cc pc = .ok (.invokevirtual i, zm_len (.invokevirtual i)) ∧ npc = pc + zm_len (.invokevirtual i) ∧ _ := zm_b3 hq
    obtain ⟨as, st1, hlen, rfl, hs, hp, hm, h1⟩ := zm_pop_of _ _ _ _ h
    rw [List.append_nil] at hp h1
    obtain ⟨a, as, rfl, ho⟩ := zm_P_of hp
    exact fun H locs ls hP hS hl => zm_callV hx hb hml hown hts hK hok hSF hm ho hs (by simpa using hlen) hd h1 hP hS hl (fun r M2 h2 => hk _ _ _ h2)
  | invokestatic i =>
    obtain ⟨hd, rfl, -⟩ : decode cc pc = .ok (.invokestatic i, zm_len (.invokestatic i)) ∧ npc = pc + zm_len (.invokestatic i) ∧ _ := zm_b3 hq
    by_cases h3 : 3 ≤ (zy_mr own i).1
    · have h : zy_mn own i ∧ zm_nat (zy_mr own i).1 st M (fun st M2 => k lv st M2) := by have := h; simp only [zm_st, if_pos h3] at this; exact this
      exact fun H locs ls hP hS hl => zm_callN hx hb hml hown hts hK hok h.1 hd h.2 hP hS hl (fun st M2 h2 => hk _ _ _ h2)
    · have h : zm_pop (zy_mr own i).2.2.1 st [] (fun as st => zm_sh st ∧ zy_ms own i ∧ zm_R E d (zy_mr own i).2.2.2 as M (fun r M2 => k lv (r.toList ++ st) M2)) := by have := h; simp only [zm_st, if_neg h3] at this; exact this
      obtain ⟨as, st1, hlen, rfl, hs, hm, h1⟩ := zm_pop_of _ _ _ _ h
      rw [List.append_nil] at h1
      exact fun H locs ls hP hS hl => zm_callS hx hb hml hown hts hK hok hSF hm hs hlen hd h1 hP hS hl (fun r M2 h2 => hk _ _ _ h2)
  | _ => exact (show False from h).elim
