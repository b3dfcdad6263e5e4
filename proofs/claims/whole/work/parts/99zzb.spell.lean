/-! ===== spelling: strings that lie there from the start ===== -/
def zw_B (A : Nat → Prop) (a av n : Nat) (f : Nat → Value) (U : State) (H : Heap) : Prop := va_O "java/lang/String" a A U H ∧ va_OF "java/lang/String" "coder" "B" (.int 0) a A U H ∧ va_OF "java/lang/String" "value" "[B" (.ref av) a A U H ∧ va_T .byte av n f A U H ∧ va_Z "java/lang/String" "COMPACT_STRINGS" "Z" (.int 1) A U H ∧ va_Zq "jdk/internal/util/Preconditions" "SIOOBE_FORMATTER" "Ljava/util/function/BiFunction;" A U H
def zw_st (B : State → Heap → Prop) : Prop := ∀ (u U : State) (H : Heap), u.vm.Alike U.vm → B u H → B U H
theorem zw_B_st {A : Nat → Prop} {a av n : Nat} {f : Nat → Value} : zw_st (zw_B A a av n f) := fun _ _ _ hvm h => ⟨va_O.moved hvm h.1, va_OF.moved hvm h.2.1, va_OF.moved hvm h.2.2.1, va_T.moved hvm h.2.2.2.1, va_Z.moved hvm h.2.2.2.2.1, va_Zq.moved hvm h.2.2.2.2.2⟩
def zw_Q (v : Option Value) : Array Value → State → Outcome → State → Prop := fun _ st o t => o = .returned v ∧ t.heap = st.heap
def zw_M (l : Launch) (d : Nat) (me : zm_Me) (as : List Value) (B : State → Heap → Prop) (v : Option Value) : Prop := Met l me.1 (Cond.code me.1 me.2.1 me.2.2.1 me.2.2.2 :: zy_T) (zm_rm d) (va_Pc as (fun U => B U U.heap)) (zw_Q v) 0 0 (fun _ => False)
def zw_cx (p : Program) (s : State) (m : MethodId) (args : Array Value) (meth : Method) (c : Code) (me : zm_Me) : Prop := p.tables.exec = Jvm.exec ∧ c.code = me.2.1 ∧ c.maxLocals = me.2.2.1 ∧ s.vm.findClass me.1.cls = some m.cls ∧ (∀ w ∈ zy_T, w.before args s = true) ∧ meth.sig.returnType = me.2.2.2 ∧ meth.locks = false
theorem zw_met {l : Launch} {d : Nat} {me : zm_Me} {as : List Value} {B : State → Heap → Prop} {v : Option Value} (hpl : plainName me.1.cls = true) (hlen : (lg_sl as).length ≤ me.2.2.1)
    (h : ∀ (p : Program) (e : Env) (s : State) (m : MethodId) (below : List Frame) (meth : Method) (c : Code) (ls : Array Slot), zw_cx p s m as.toArray meth c me → B s s.heap → lv_has ls me.2.2.1 (lv_args 0 as) → W p l e (zm_rm d) s m as.toArray below meth c s.heap [] 0 0 (MQ below (zw_Q v) as.toArray s 0 0 (fun _ => False)) (F0 m 0 ls [])) : zw_M l d me as B v := by
  obtain ⟨y, cc, maxL, ret⟩ := me
  dsimp only at hpl hlen h
  refine Met.ofW (cc := cc) (maxL := maxL) (ret := ret) hpl rfl ?_
  intro p e s m args below meth c s₁ B0 hml hv
  obtain ⟨rfl, hB⟩ := hv
  have hts : ∀ w ∈ zy_T, w.before as.toArray s = true := fun w hw => atoms_spec (ws := Cond.code y cc maxL ret :: zy_T) B0.pre w (List.mem_cons_of_mem _ hw)
  have hown := findClass_of_methodNamed B0.named
  have hl := lv_entry as (n := maxL) hlen
  rw [lg_entry_eq]
  exact h p e s m below meth c _ ⟨B0.exec, B0.bytes, hml, hown, hts, B0.returns, B0.notSynchronized⟩ hB hl
section ZW
variable {p : Program} {l : Launch} {e : Env} {s : State} {m : MethodId} {args : Array Value} {below : List Frame} {meth : Method} {c : Code} {cc : ByteArray} {nL pc i n d : Nat} {own : String} {ls : Array Slot} {rest : List Value} {Qw : State → Prop} {me : zm_Me} {as : List Value} {B : State → Heap → Prop} {v : Option Value}
theorem zw_cont {R : Room} {cells slots : Nat} {H : Heap} {locs : List Loc} {st0 : List Value} {a : Array Value} (hr : va_Run p l e R s m args below meth c H locs cells slots 0 0 (F0 m pc ls st0) rest (zw_Q v a) (fun _ => False)) (kk : W p l e R s m args below meth c H locs cells slots Qw (F0 m (pc + 3) ls (v.toList ++ rest))) : W p l e R s m args below meth c H locs cells slots Qw (F0 m pc ls st0) := by
  intro T hT X
  obtain ⟨v', st₀, t, T', L, h0, X', hL, e1, e2, ⟨hv, hh⟩, st⟩ := hr T hT X
  cases hv
  have hL0 : L = [] := by
    cases L with
    | nil => rfl
    | cons q L => exact (hL q List.mem_cons_self).elim
  subst hL0
  rw [List.append_nil] at X'
  obtain ⟨t2, a1, b1⟩ := kk T' (by rw [e1, hh, h0]) X'
  exact ⟨t2, st t2 a1, b1⟩
theorem zw_pre (hst : zw_st B) (hB : B s s.heap) : ∀ U : State, U.heap = s.heap → s.WarmedH U.vm → va_Pc as (fun U => B U U.heap) as.toArray U := fun U hU hW => ⟨rfl, by
  show B U U.heap
  rw [hU]
  exact hst _ _ _ hW.alike hB⟩
theorem zw_blind (hst : zw_st B) : FrameBlind (va_Pc as (fun U => B U U.heap)) := fun a U g mk q => ⟨q.1, hst U (U.calling g mk a) U.heap (Vm.Alike.refl U.vm) q.2⟩
theorem zw_callS (hx : p.tables.exec = Jvm.exec) (hb : c.code = cc) (hml : c.maxLocals = nL) (hown : s.vm.findClass own = some m.cls) (hts : ∀ w ∈ zy_T, w.before args s = true) (hM : zw_M l d me as B v) (hst : zw_st B) (hB : B s s.heap) (hc : zy_mc n me) (hk : Cond.methodLink own i me.1 ∈ zy_T) (hs : Cond.static me.1 ∈ zy_T) (hlen : as.length = n) (hls : ls.size = nL) (hr : (rest.map fun v => v.category).sum ≤ 8) (hd : decode cc pc = .ok (.invokestatic i, 3))
    (kk : W p l e (zm_rm (d + 1)) s m args below meth c s.heap [] 0 0 Qw (F0 m (pc + 3) ls (v.toList ++ rest))) : W p l e (zm_rm (d + 1)) s m args below meth c s.heap [] 0 0 Qw (F0 m pc ls (as.reverse ++ rest)) := by
  obtain ⟨g1, g2, g3, g4⟩ := hc
  have hG : GoodIn zy_T (va_wsS own i me.1 (Cond.code me.1 me.2.1 me.2.2.1 me.2.2.2 :: zy_T)) := by
    intro w hw
    simp only [va_wsS, List.mem_append, List.mem_cons, List.not_mem_nil, or_false] at hw
    rcases hw with (rfl | rfl | rfl) | rfl | hw
    · exact zy_good hk
    · exact zy_good hs
    · exact zy_good g2
    · exact zy_good g1
    · exact zy_good hw
  exact zw_cont (rest := rest) (va_runS (As := as) ⟨hx, hb, hml, hown, hts⟩ hM (va_cwS n hts hG rfl rfl rfl g3 (zm_room d _ g4)) ⟨zw_blind hst, zw_pre hst hB⟩ rfl hlen hls rfl (lv_room hr) hd ⟨Nat.le_refl 0, Nat.le_refl 0⟩) kk
theorem zw_callV {a : Nat} {A : Nat → Prop} (hx : p.tables.exec = Jvm.exec) (hb : c.code = cc) (hml : c.maxLocals = nL) (hown : s.vm.findClass own = some m.cls) (hts : ∀ w ∈ zy_T, w.before args s = true) (hM : zw_M l d me (.ref a :: as) B v) (hst : zw_st B) (hB : B s s.heap) (ho : va_O me.1.cls a A s s.heap) (hc : zy_mc n me) (hk : Cond.methodLink own i me.1 ∈ zy_T) (hi : Cond.instanceMethod me.1 ∈ zy_T) (hs : Cond.selects me.1.cls me.1 me.1 ∈ zy_T) (hlen : as.length = n) (hls : ls.size = nL) (hr : (rest.map fun v => v.category).sum ≤ 8) (hd : decode cc pc = .ok (.invokevirtual i, 3))
    (kk : W p l e (zm_rm (d + 1)) s m args below meth c s.heap [] 0 0 Qw (F0 m (pc + 3) ls (v.toList ++ rest))) : W p l e (zm_rm (d + 1)) s m args below meth c s.heap [] 0 0 Qw (F0 m pc ls (as.reverse ++ .ref a :: rest)) := by
  obtain ⟨g1, g2, g3, g4⟩ := hc
  have hG : GoodIn zy_T (wsV own i me.1.cls me.1 (Cond.code me.1 me.2.1 me.2.2.1 me.2.2.2 :: zy_T)) := by
    intro w hw
    apply zy_good
    simp only [wsV, List.mem_append, List.mem_cons, List.not_mem_nil, or_false] at hw
    rcases hw with (rfl | rfl | rfl | rfl) | rfl | hw
    · exact hk
    · exact hi
    · exact hs
    · exact g2
    · exact g1
    · exact hw
  exact zw_cont (rest := rest) (va_runV (As := as) (C := me.1.cls) (b := a) ⟨hx, hb, hml, hown, hts⟩ hM (cwV n hts hG rfl rfl rfl ⟨rfl, g3⟩ (zm_room d _ g4)) ⟨zw_blind hst, va_Orecv ho va_S.rf, zw_pre hst hB⟩ rfl hlen hls rfl (lv_room hr) hd ⟨Nat.le_refl 0, Nat.le_refl 0⟩) kk
end ZW
theorem zw_coder {l : Launch} {A : Nat → Prop} {a av n : Nat} {f : Nat → Value} (d : Nat) : zw_M l d zj_coder [.ref a] (zw_B A a av n f) (some (.int 0)) := by
  refine zw_met (by decide) (Nat.le_of_ble_eq_true rfl) ?_
  rintro p e s m below meth c ls ⟨hx, hb, hml, hown, hts, hr, hlk⟩ ⟨b1, b2, b3, b4, b5, b6⟩ hl
  have hl : lv_has ls 1 [(0, .ref a)] := hl
  refine va_gets hx hb b5 va_S.rf hown (hts _ zj_f_RJ0_38) (fun _ h => h) dJ0_coder_7d493_0 ?_
  refine lv_if_eq (tgt := 13) hx hb dJ0_coder_7d493_3 (by decide) (fun h => absurd h (by decide)) (fun _ => ?_)
  refine lv_aload_n hx hb dJ0_coder_7d493_6 rfl (lv_at hl 0 rfl) ?_
  refine vk_getf hx hb b2 va_S.rf hown (hts _ zj_f_RJ0_15) (fun _ h => h) dJ0_coder_7d493_7 ?_
  refine lv_goto (tgt := 14) hx hb dJ0_coder_7d493_10 (by decide) ?_
  exact W.zret hx hb hr rfl (fun t ht hW => ⟨rfl, ht⟩) (fun _ h => by cases h) dJ0_coder_7d493_14 hlk
theorem zw_isLatin1 {l : Launch} {A : Nat → Prop} {a av n : Nat} {f : Nat → Value} (d : Nat) : zw_M l d zj_isLatin1 [.ref a] (zw_B A a av n f) (some (.int 1)) := by
  refine zw_met (by decide) (Nat.le_of_ble_eq_true rfl) ?_
  rintro p e s m below meth c ls ⟨hx, hb, hml, hown, hts, hr, hlk⟩ ⟨b1, b2, b3, b4, b5, b6⟩ hl
  have hl : lv_has ls 1 [(0, .ref a)] := hl
  refine va_gets hx hb b5 va_S.rf hown (hts _ zj_f_RJ0_38) (fun _ h => h) dJ0_isLatin1_aae02_0 ?_
  refine lv_if_eq (tgt := 17) hx hb dJ0_isLatin1_aae02_3 (by decide) (fun h => absurd h (by decide)) (fun _ => ?_)
  refine lv_aload_n hx hb dJ0_isLatin1_aae02_6 rfl (lv_at hl 0 rfl) ?_
  refine vk_getf hx hb b2 va_S.rf hown (hts _ zj_f_RJ0_15) (fun _ h => h) dJ0_isLatin1_aae02_7 ?_
  refine lv_if_ne (tgt := 17) hx hb dJ0_isLatin1_aae02_10 (by decide) (fun h => absurd rfl h) (fun _ => ?_)
  refine lv_iconst (v := 1) hx hb dJ0_isLatin1_aae02_13 (by decide) ?_
  refine lv_goto (tgt := 18) hx hb dJ0_isLatin1_aae02_14 (by decide) ?_
  exact W.zret hx hb hr rfl (fun t ht hW => ⟨rfl, ht⟩) (fun _ h => by cases h) dJ0_isLatin1_aae02_18 hlk
theorem zw_sh0 : ∀ n, n < 8 → nI n >>> ((0 : Int32) &&& 31) = nI n := by decide +kernel
theorem zw_length {l : Launch} {A : Nat → Prop} {a av n : Nat} {f : Nat → Value} (d : Nat) (hn : n < 8) : zw_M l (d + 1) zj_length [.ref a] (zw_B A a av n f) (some (.int (nI n))) := by
  refine zw_met (by decide) (Nat.le_of_ble_eq_true rfl) ?_
  rintro p e s m below meth c ls ⟨hx, hb, hml, hown, hts, hr, hlk⟩ hB hl
  have hl : lv_has ls 1 [(0, .ref a)] := hl
  have hB2 := hB
  obtain ⟨b1, b2, b3, b4, b5, b6⟩ := hB2
  refine lv_aload_n hx hb dJ0_length_8abf5_0 rfl (lv_at hl 0 rfl) ?_
  refine vk_getf hx hb b3 va_S.rf hown (hts _ zj_f_RJ0_9) (fun _ h => h) dJ0_length_8abf5_1 ?_
  refine va_tlen hx hb b4 va_S.rf rfl dJ0_length_8abf5_4 ?_
  refine lv_aload_n hx hb dJ0_length_8abf5_5 rfl (lv_at hl 0 rfl) ?_
  refine zw_callV (as := []) hx hb hml hown hts (zw_coder d) zw_B_st hB b1 zj_c_coder zj_l_RJ0_335 zj_i_coder zj_s_coder rfl hl.1 (Nat.le_of_ble_eq_true rfl) dJ0_length_8abf5_6 ?_
  refine lv_ishr hx hb dJ0_length_8abf5_9 ?_
  have e1 : Int32.ofNat n >>> ((0 : Int32) &&& 31) = nI n := zw_sh0 n hn
  rw [e1]
  exact W.zret hx hb hr rfl (fun t ht hW => ⟨rfl, ht⟩) (fun _ h => by cases h) dJ0_length_8abf5_10 hlk
theorem zw_pcheck {l : Launch} {k n : Nat} {fm : Value} (hf : fm = .null ∨ ∃ t, fm = .ref t) (d : Nat) (hk : k < n) (hn : n < 8) : zw_M l d zj_pcheck [.int (nI k), .int (nI n), fm] (fun _ _ => True) (some (.int (nI k))) := by
  have key : ∀ ls : Array Slot, lv_has ls 3 (lv_args 0 [.int (nI k), .int (nI n), fm]) → lv_has ls 3 [(0, .int (nI k)), (1, .int (nI n)), (2, fm)] := fun ls h => by
    rcases hf with rfl | ⟨t, rfl⟩ <;> exact h
  refine zw_met (by decide) (by rcases hf with rfl | ⟨t, rfl⟩ <;> exact Nat.le_of_ble_eq_true rfl) ?_
  rintro p e s m below meth c ls ⟨hx, hb, hml, hown, hts, hr, hlk⟩ - hl
  have hl := key ls hl
  refine lv_iload_n hx hb dJ3_checkIndex_8e157_0 rfl (lv_at hl 0 rfl) ?_
  refine lv_if_lt (tgt := 9) hx hb dJ3_checkIndex_8e157_1 (by decide) (fun h => absurd h (nI_pos (by omega))) (fun _ => ?_)
  refine lv_iload_n hx hb dJ3_checkIndex_8e157_4 rfl (lv_at hl 0 rfl) ?_
  refine lv_iload_n hx hb dJ3_checkIndex_8e157_5 rfl (lv_at hl 1 rfl) ?_
  refine lv_icmp_lt (tgt := 16) hx hb dJ3_checkIndex_8e157_6 (by decide) (fun _ => ?_) (fun h => absurd (nI_lt hk (by omega)) h)
  refine lv_iload_n hx hb dJ3_checkIndex_8e157_16 rfl (lv_at hl 0 rfl) ?_
  exact W.zret hx hb hr rfl (fun t ht hW => ⟨rfl, ht⟩) (fun _ h => by cases h) dJ3_checkIndex_8e157_17 hlk
theorem zw_scheck {l : Launch} {A : Nat → Prop} {a av n k : Nat} {f : Nat → Value} (d : Nat) (hk : k < n) (hn : n < 8) : zw_M l (d + 1) zj_scheck [.int (nI k), .int (nI n)] (zw_B A a av n f) none := by
  refine zw_met (by decide) (Nat.le_of_ble_eq_true rfl) ?_
  rintro p e s m below meth c ls ⟨hx, hb, hml, hown, hts, hr, hlk⟩ ⟨b1, b2, b3, b4, b5, b6⟩ hl
  have hl : lv_has ls 2 [(0, .int (nI k)), (1, .int (nI n))] := hl
  refine lv_iload_n hx hb dJ0_checkIndex_df160_0 rfl (lv_at hl 0 rfl) ?_
  refine lv_iload_n hx hb dJ0_checkIndex_df160_1 rfl (lv_at hl 1 rfl) ?_
  have go : ∀ fm : Value, (fm = .null ∨ ∃ t, fm = .ref t) → va_Z "jdk/internal/util/Preconditions" "SIOOBE_FORMATTER" "Ljava/util/function/BiFunction;" fm A s s.heap → W p l e (zm_rm (d + 1)) s m [Value.int (nI k), Value.int (nI n)].toArray below meth c s.heap [] 0 0 (MQ below (zw_Q none) [Value.int (nI k), Value.int (nI n)].toArray s 0 0 (fun _ => False)) (F0 m 2 ls [.int (nI n), .int (nI k)]) := by
    intro fm hf hz
    refine va_gets hx hb hz va_S.rf hown (hts _ zj_f_RJ0_1053) (fun _ h => h) dJ0_checkIndex_df160_2 ?_
    refine zw_callS (as := [.int (nI k), .int (nI n), fm]) (rest := []) hx hb hml hown hts (zw_pcheck hf d hk hn) (fun _ _ _ _ _ => trivial) trivial zj_c_pcheck zj_l_RJ0_1059 zj_t_pcheck rfl hl.1 (Nat.le_of_ble_eq_true rfl) dJ0_checkIndex_df160_5 ?_
    refine lv_pop hx hb dJ0_checkIndex_df160_8 rfl ?_
    exact W.vret hx hb hr (fun t ht hW => ⟨rfl, ht⟩) (fun _ h => by cases h) dJ0_checkIndex_df160_9 hlk
  rcases b6 with b6 | ⟨t, b6⟩
  · exact go _ (Or.inl rfl) b6
  · exact go _ (Or.inr ⟨t, rfl⟩) b6
theorem zw_byte : ∀ x, x < 256 → nI x &&& 255 = nI x ∧ ((nI x).toUInt32 % 65536).toInt32 = nI x ∧ narrow .char (.int (nI x)) = .int (nI x) := by decide +kernel
theorem zw_lcharAt {l : Launch} {A : Nat → Prop} {a av n k x : Nat} {f : Nat → Value} (d : Nat) (hk : k < n) (hn : n < 8) (hf : f k = .int (nI x)) (hx0 : x < 256) : zw_M l (d + 2) zj_lcharAt [.ref av, .int (nI k)] (zw_B A a av n f) (some (.int (nI x))) := by
  obtain ⟨x1, x2, x3⟩ := zw_byte x hx0
  refine zw_met (by decide) (Nat.le_of_ble_eq_true rfl) ?_
  rintro p e s m below meth c ls ⟨hx, hb, hml, hown, hts, hr, hlk⟩ hB hl
  have hl : lv_has ls 2 [(0, .ref av), (1, .int (nI k))] := hl
  have hB2 := hB
  obtain ⟨b1, b2, b3, b4, b5, b6⟩ := hB2
  refine lv_iload_n hx hb dJ1_charAt_3b067_0 rfl (lv_at hl 1 rfl) ?_
  refine lv_aload_n hx hb dJ1_charAt_3b067_1 rfl (lv_at hl 0 rfl) ?_
  refine va_tlen hx hb b4 va_S.rf rfl dJ1_charAt_3b067_2 ?_
  refine zw_callS (as := [.int (nI k), .int (nI n)]) (rest := []) hx hb hml hown hts (zw_scheck d hk hn) zw_B_st hB zj_c_scheck zj_l_RJ1_9 zj_t_scheck rfl hl.1 (Nat.le_of_ble_eq_true rfl) dJ1_charAt_3b067_3 ?_
  refine lv_aload_n hx hb dJ1_charAt_3b067_6 rfl (lv_at hl 0 rfl) ?_
  refine lv_iload_n hx hb dJ1_charAt_3b067_7 rfl (lv_at hl 1 rfl) ?_
  refine va_tb (v := .int (nI x)) hx hb b4 va_S.rf (vp_in_nI hk (by omega)) (by rw [nI_clamp (by omega)]; exact hf) dJ1_charAt_3b067_8 ?_
  refine lv_sipush (v := 255) hx hb dJ1_charAt_3b067_9 (by decide) ?_
  refine lv_iand hx hb dJ1_charAt_3b067_12 ?_
  rw [x1]
  refine lv_i2c hx hb dJ1_charAt_3b067_13 x2 ?_
  exact W.zret hx hb hr x3 (fun t ht hW => ⟨rfl, ht⟩) (fun _ h => by cases h) dJ1_charAt_3b067_14 hlk
theorem zw_charAt {l : Launch} {A : Nat → Prop} {a av n k x : Nat} {f : Nat → Value} (d : Nat) (hk : k < n) (hn : n < 8) (hf : f k = .int (nI x)) (hx0 : x < 256) : zw_M l (d + 3) zj_charAt [.ref a, .int (nI k)] (zw_B A a av n f) (some (.int (nI x))) := by
  obtain ⟨x1, x2, x3⟩ := zw_byte x hx0
  refine zw_met (by decide) (Nat.le_of_ble_eq_true rfl) ?_
  rintro p e s m below meth c ls ⟨hx, hb, hml, hown, hts, hr, hlk⟩ hB hl
  have hl : lv_has ls 2 [(0, .ref a), (1, .int (nI k))] := hl
  have hB2 := hB
  obtain ⟨b1, b2, b3, b4, b5, b6⟩ := hB2
  refine lv_aload_n hx hb dJ0_charAt_5068e_0 rfl (lv_at hl 0 rfl) ?_
  refine zw_callV (as := []) hx hb hml hown hts (zw_isLatin1 (d + 2)) zw_B_st hB b1 zj_c_isLatin1 zj_l_RJ0_492 zj_i_isLatin1 zj_s_isLatin1 rfl hl.1 (Nat.le_of_ble_eq_true rfl) dJ0_charAt_5068e_1 ?_
  refine lv_if_eq (tgt := 16) hx hb dJ0_charAt_5068e_4 (by decide) (fun h => absurd h (by decide)) (fun _ => ?_)
  refine lv_aload_n hx hb dJ0_charAt_5068e_7 rfl (lv_at hl 0 rfl) ?_
  refine vk_getf hx hb b3 va_S.rf hown (hts _ zj_f_RJ0_9) (fun _ h => h) dJ0_charAt_5068e_8 ?_
  refine lv_iload_n hx hb dJ0_charAt_5068e_11 rfl (lv_at hl 1 rfl) ?_
  refine zw_callS (as := [.ref av, .int (nI k)]) (rest := []) hx hb hml hown hts (zw_lcharAt d hk hn hf hx0) zw_B_st hB zj_c_lcharAt zj_l_RJ0_495 zj_t_lcharAt rfl hl.1 (Nat.le_of_ble_eq_true rfl) dJ0_charAt_5068e_12 ?_
  exact W.zret hx hb hr x3 (fun t ht hW => ⟨rfl, ht⟩) (fun _ h => by cases h) dJ0_charAt_5068e_15 hlk
