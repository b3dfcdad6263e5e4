/-! ===== the law: rows ===== -/
def zq_C (p : Program) (s : State) (m : MethodId) (c : Code) (E : zm_E) (sb L : Nat) (xs : Nat → Int32) : Prop := p.tables.exec = Jvm.exec ∧ c.code = code ∧ c.maxLocals = 4 ∧ s.vm.findClass RL = some m.cls ∧ (∀ w ∈ zy_T, w.before #[Value.ref sb] s = true) ∧ va_K E.2.1 zy_cl (zm_tys E.2.2.2.1) s ∧ zm_ok E.2.2.1 E.2.2.2.2 ∧ zm_SF E.2.2.1 E.2.2.2.2 s s.heap ∧ va_X sb L xs s s.heap ∧ sb < s.heap.size ∧ ¬ E.2.2.2.2 sb
def zq_nx (p : Program) (e : Env) (s : State) (m : MethodId) (sb : Nat) (below : List Frame) (meth : Method) (c : Code) (E : zm_E) (ls : Array Slot) : Prop := ∀ (M : zm_M) (H : Heap) (locs : List Loc), zGG M → va_P E.2.1 zy_cl (zm_ws E.2.2.1 E.2.2.2.1 M) H → va_S E.2.2.2.2 s.heap H locs → W p E.1 e room_1 s m #[Value.ref sb] below meth c H locs 600000 7302250 (lw_Z below #[Value.ref sb] s) (F0 m 1525 ls [])
theorem zq_ob15 : zm_ob 15 11 := ⟨by decide, rfl, by decide⟩
theorem zq_ob0 : zm_ob 0 12 := ⟨by decide, rfl, by decide⟩
section ZQ
variable {p : Program} {e : Env} {R : Room} {s : State} {m : MethodId} {args : Array Value} {below : List Frame} {meth : Method} {c : Code} {E : zm_E} {H : Heap} {locs : List Loc} {cells slots : Nat} {Qw : State → Prop} {ls : Array Slot} {rest : List Value} {cc : ByteArray} {pc nL n i j sb L : Nat} {xs : Nat → Int32} {M : zm_M} {Qk : Option Value → zm_M → Prop} {own : String}
theorem zq_cont {st0 : List Value} {a : Array Value} (hr : va_Run p E.1 e R s m args below meth c H locs cells slots 0 0 (F0 m pc ls st0) rest (zm_Qc E Qk a) E.2.2.2.2) (hS : va_S E.2.2.2.2 s.heap H locs)
    (kk : ∀ (r : Option Value) (M2 : zm_M) (H1 : Heap) (locs1 : List Loc), Qk r M2 → va_P E.2.1 zy_cl (zm_ws E.2.2.1 E.2.2.2.1 M2) H1 → va_S E.2.2.2.2 s.heap H1 locs1 → W p E.1 e R s m args below meth c H1 locs1 cells slots Qw (F0 m (pc + 3) ls ((r.map (zm_c E.2.2.1)).toList ++ rest))) : W p E.1 e R s m args below meth c H locs cells slots Qw (F0 m pc ls st0) := by
  intro T hT X
  obtain ⟨v, st₀, t, T', L, h0, X', hL, e1, e2, ⟨⟨r, M2, hv, hq, hp⟩, hz, hk⟩, st⟩ := hr T hT X
  cases hv
  rw [h0] at hz hk
  obtain ⟨t2, a1, b1⟩ := kk r M2 T'.heap (locs ++ L) hq (by rw [e1]; exact hp)
    ⟨Nat.le_trans hS.1 (by rw [e1]; exact hz), fun q h1 h2 => by rw [e1, hk q (Nat.lt_of_lt_of_le h1 hS.1) h2]; exact hS.2.1 q h1 h2, fun q hq => by
      rcases List.mem_append.mp hq with h | h
      · exact hS.2.2 q h
      · exact hL q h⟩ T' rfl X'
  exact ⟨t2, st t2 a1, b1⟩
theorem zq_callV {a ci : Nat} {me : zm_Me} {as : List Value} {T : u_T} {N : Nat} (hx : p.tables.exec = Jvm.exec) (hb : c.code = cc) (hml : c.maxLocals = nL) (hown : s.vm.findClass own = some m.cls) (hts : ∀ w ∈ zy_T, w.before args s = true) (hK : va_K E.2.1 zy_cl (zm_tys E.2.2.2.1) s) (hSF : zm_SF E.2.2.1 E.2.2.2.2 s s.heap) (hc : zy_mc n me) (hcl : zy_cl[ci]? = some (me.1.cls, T, N)) (ho : zm_ob a ci) (hk : Cond.methodLink own i me.1 ∈ zy_T) (hi : Cond.instanceMethod me.1 ∈ zy_T) (hs : Cond.selects me.1.cls me.1 me.1 ∈ zy_T) (hlen : as.length = n) (hls : ls.size = nL) (hr : (rest.map fun v => v.category).sum ≤ 8) (hR : 100 + 1 ≤ R.frames ∧ 8 + (me.2.2.1 + 11) + 6400 ≤ R.locals) (hf : cells + 0 ≤ R.cells ∧ slots + 0 ≤ R.slots) (hd : decode cc pc = .ok (.invokevirtual i, 3)) (h : zm_R E 100 me (.ref a :: as) M Qk)
    (hP : va_P E.2.1 zy_cl (zm_ws E.2.2.1 E.2.2.2.1 M) H) (hS : va_S E.2.2.2.2 s.heap H locs)
    (kk : ∀ (r : Option Value) (M2 : zm_M) (H1 : Heap) (locs1 : List Loc), Qk r M2 → va_P E.2.1 zy_cl (zm_ws E.2.2.1 E.2.2.2.1 M2) H1 → va_S E.2.2.2.2 s.heap H1 locs1 → W p E.1 e R s m args below meth c H1 locs1 cells slots Qw (F0 m (pc + 3) ls ((r.map (zm_c E.2.2.1)).toList ++ rest))) : W p E.1 e R s m args below meth c H locs cells slots Qw (F0 m pc ls ((as.map (zm_c E.2.2.1)).reverse ++ .ref (E.2.2.1 a) :: rest)) := by
  obtain ⟨g1, g2, g3, g4⟩ := hc
  have hG : GoodIn zy_T (wsV own i me.1.cls me.1 (Cond.code me.1 me.2.1 me.2.2.1 me.2.2.2 :: zy_T)) := by
    intro w hw
    apply zy_good
    simp only [wsV, List.mem_append, List.mem_cons, List.not_mem_nil, or_false] at hw
    rcases hw with (rfl | rfl | rfl | rfl) | rfl | hw
    · exact hk
    · exact hi
    · exact hs
    · exact g2
    · exact g1
    · exact hw
  exact zq_cont (Qk := Qk) (rest := rest) (va_runV (As := as.map (zm_c E.2.2.1)) (C := me.1.cls) (b := E.2.2.1 a) ⟨hx, hb, hml, hown, hts⟩ h (cwV n hts hG rfl rfl rfl ⟨rfl, g3⟩ hR) ⟨zm_blind _, va_recv hK hP hcl ((zm_at ho.1).trans (by rw [zm_cell_ob ho])), zm_pre (.ref a :: as) hK hSF hP hS⟩ rfl (by rw [List.length_map]; exact hlen) hls rfl (lv_room hr) hd hf) hS kk
theorem zq_arg {jj : Int} (C : zq_C p s m c E sb L xs) (hl : lv_has ls 4 [(3, .int (nI i)), (2, .ref (E.2.2.1 0)), (1, .ref (E.2.2.1 15)), (0, .ref sb)]) (hij : i + j < L) (hL : L ≤ 3072) (hS : va_S E.2.2.2.2 s.heap H locs) (hj : Int32.ofInt jj = nI j) (d0 : decode code pc = .ok (.aload_n 0, 1)) (d1 : decode code (pc + 1) = .ok (.iload_n 3, 1)) (d2 : decode code (pc + 1 + 1) = .ok (.iconst jj, 1)) (d3 : decode code (pc + 1 + 1 + 1) = .ok (.iadd, 1)) (d4 : decode code (pc + 1 + 1 + 1 + 1) = .ok (.iaload, 1))
    (kk : W p E.1 e R s m args below meth c H locs cells slots Qw (F0 m (pc + 5) ls (.int (xs (i + j)) :: rest))) : W p E.1 e R s m args below meth c H locs cells slots Qw (F0 m pc ls rest) := by
  obtain ⟨hx, hb, hml, hown, hts, hK, hE, hSF, hX, hbl, hbA⟩ := id C
  refine lv_aload_n hx hb d0 rfl (lv_at hl 3 rfl) ?_
  refine lv_iload_n hx hb d1 rfl (lv_at hl 0 rfl) ?_
  refine lv_iconst (v := nI j) hx hb d2 hj ?_
  refine lv_iadd hx hb d3 ?_
  rw [nI_add]
  refine va_sld hx hb hX hbl hbA hS (vp_in_nI hij (by omega)) d4 ?_
  rw [nI_clamp (by omega)]
  exact kk
theorem zq_argb {jj : Int} (C : zq_C p s m c E sb L xs) (hl : lv_has ls 4 [(3, .int (nI i)), (2, .ref (E.2.2.1 0)), (1, .ref (E.2.2.1 15)), (0, .ref sb)]) (hij : i + j < L) (hL : L ≤ 3072) (hS : va_S E.2.2.2.2 s.heap H locs) (hj : Int32.ofInt jj = nI j) (d0 : decode code pc = .ok (.aload_n 0, 1)) (d1 : decode code (pc + 1) = .ok (.iload_n 3, 1)) (d2 : decode code (pc + 1 + 1) = .ok (.iconst jj, 1)) (d3 : decode code (pc + 1 + 1 + 1) = .ok (.iadd, 1)) (d4 : decode code (pc + 1 + 1 + 1 + 1) = .ok (.iaload, 1)) (d5 : decode code (pc + 5) = .ok (.ifCond .eq 7, 3)) (d6 : decode code (pc + 5 + 3) = .ok (.iconst 1, 1)) (d7 : decode code (pc + 5 + 3 + 1) = .ok (.goto 4, 3)) (d8 : decode code (pc + 12) = .ok (.iconst 0, 1))
    (kk : W p E.1 e R s m args below meth c H locs cells slots Qw (F0 m (pc + 13) ls (.int (if xs (i + j) = 0 then 0 else 1) :: rest))) : W p E.1 e R s m args below meth c H locs cells slots Qw (F0 m pc ls rest) := by
  obtain ⟨hx, hb, -⟩ := id C
  refine zq_arg C hl hij hL hS hj d0 d1 d2 d3 d4 ?_
  refine lv_if_eq (tgt := pc + 12) hx hb d5 (by omega) (fun h => ?_) (fun h => ?_)
  · rw [if_pos h] at kk
    exact lv_iconst (v := 0) hx hb d8 (by decide) kk
  · rw [if_neg h] at kk
    refine lv_iconst (v := 1) hx hb d6 (by decide) ?_
    exact lv_goto (tgt := pc + 13) hx hb d7 (by omega) kk
theorem zq_lcmp {v : Int64} (hx : p.tables.exec = Jvm.exec) (hb : c.code = cc) (hd : decode cc pc = .ok (.lcmp, 1)) (kk : W p E.1 e R s m args below meth c H locs cells slots Qw (F0 m (pc + 1) ls (.int 0 :: rest))) : W p E.1 e R s m args below meth c H locs cells slots Qw (F0 m pc ls (.long v :: .long v :: rest)) := by
  refine W.lcmp hx hb hd ?_
  rw [show lg_cmp v v = 0 by unfold lg_cmp; simp]
  exact kk
theorem zq_and63 (v : Int32) : ∃ k, k < 64 ∧ v &&& 63 = nI k := by
  refine ⟨(v.toBitVec &&& 63#32).toNat, ?_, ?_⟩
  · rw [BitVec.toNat_and]
    exact Nat.lt_of_le_of_lt Nat.and_le_right (by decide)
  · apply Int32.toBitVec_inj.mp
    show v.toBitVec &&& 63#32 = BitVec.ofNat 32 _
    simp
end ZQ
