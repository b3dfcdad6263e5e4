/-! ===== constructors: contracts and calls ===== -/
def zc_rm (d mc ms : Nat) : Room := { frames := d, cells := mc, slots := ms, locals := 64 * d }
/-- what is known of links within the nest, and of arrays of references -/
def zc_N (b0 sw : Nat) (U : State) (H : Heap) : Prop := va_Nw (.methodLinkNest RX6 11 yX7_init "ApologyUp") U ∧ va_Nw (.methodLinkNest RX6 20 yX10_init "ApologyUp") U ∧ va_Nw (.methodLinkNest RX6 50 yX4_init "ApologyUp") U ∧ va_Nw (.methodLinkNest RX6 68 yX1_init "ApologyUp") U ∧ va_Nw (.methodLinkNest RX11 21 yX10_init "ApologyUp") U ∧ va_Nw (.methodLinkNest RX11 64 yX5_init "ApologyUp") U ∧ va_AO "ApologyUp$World" U ∧ va_AO "ApologyUp$Law" U ∧ va_AO "ApologyUp$Word" U ∧ va_Z "ApologyUp$Word" "STOP" "LApologyUp$Word;" (.ref sw) (fun q => b0 ≤ q) U H
theorem zc_N_warm {b0 sw : Nat} {s U : State} {H : Heap} (hW : s.WarmedH U.vm) (h : zc_N b0 sw s s.heap) (hk : ∀ a : Nat, a < s.heap.size → ¬ (b0 ≤ a) → H[a]? = s.heap[a]?) : zc_N b0 sw U H := ⟨va_Nw.warmM hW h.1, va_Nw.warmM hW h.2.1, va_Nw.warmM hW h.2.2.1, va_Nw.warmM hW h.2.2.2.1, va_Nw.warmM hW h.2.2.2.2.1, va_Nw.warmM hW h.2.2.2.2.2.1, va_AO.moved hW.alike h.2.2.2.2.2.2.1, va_AO.moved hW.alike h.2.2.2.2.2.2.2.1, va_AO.moved hW.alike h.2.2.2.2.2.2.2.2.1, (va_Z.moved hW.alike h.2.2.2.2.2.2.2.2.2).kept hk⟩
theorem zc_N_same {b0 sw : Nat} {u U : State} {H : Heap} (hvm : u.vm = U.vm) (h : zc_N b0 sw u H) : zc_N b0 sw U H := ⟨va_Nw.same rfl hvm h.1, va_Nw.same rfl hvm h.2.1, va_Nw.same rfl hvm h.2.2.1, va_Nw.same rfl hvm h.2.2.2.1, va_Nw.same rfl hvm h.2.2.2.2.1, va_Nw.same rfl hvm h.2.2.2.2.2.1, va_AO.moved (by rw [hvm]; exact Vm.Alike.refl U.vm) h.2.2.2.2.2.2.1, va_AO.moved (by rw [hvm]; exact Vm.Alike.refl U.vm) h.2.2.2.2.2.2.2.1, va_AO.moved (by rw [hvm]; exact Vm.Alike.refl U.vm) h.2.2.2.2.2.2.2.2.1, va_Z.moved (by rw [hvm]; exact Vm.Alike.refl U.vm) h.2.2.2.2.2.2.2.2.2⟩
def zc_Q (D : va_G) (h : Nat) (L : List va_E) : Array Value → State → Outcome → State → Prop := fun _ st o t => o = .returned none ∧ zc_P D h L t.heap ∧ va_F (fun q => h ≤ q) st t
def zc_B (b0 sw : Nat) (D : va_G) (cA : Nat → ClassId) (h : Nat) (L : List va_E) (U : State) : Prop := zc_P D h L U.heap ∧ va_K D zy_cl (zm_tys cA) U ∧ b0 ≤ h ∧ zc_N b0 sw U U.heap
def zc_M (b0 sw : Nat) (l : Launch) (D : va_G) (cA : Nat → ClassId) (d mc ms : Nat) (y : MethodName) (bytes : ByteArray) (maxL : Nat) (as : List Value) (h : Nat) (e0 : va_E) (L : List va_E) : Prop := Met l y (Cond.code y bytes maxL none :: zy_T) (zc_rm d mc ms) (va_Pc (.ref h :: as) (zc_B b0 sw D cA h [e0])) (zc_Q D h L) mc ms (fun q => h ≤ q)
theorem zc_met {b0 sw : Nat} {l : Launch} {D : va_G} {cA : Nat → ClassId} {d mc ms : Nat} {y : MethodName} {bytes : ByteArray} {maxL : Nat} {as : List Value} {h : Nat} {e0 : va_E} {L : List va_E} (hpl : plainName y.cls = true) (hlen : (lg_sl (.ref h :: as)).length ≤ maxL)
    (hh : ∀ (p : Program) (e : Env) (s : State) (m : MethodId) (below : List Frame) (meth : Method) (c : Code) (ls : Array Slot), zw_cx p s m (.ref h :: as).toArray meth c (y, bytes, maxL, none) → meth.name = y.name → zc_P D h [e0] s.heap → va_K D zy_cl (zm_tys cA) s → b0 ≤ h → zc_N b0 sw s s.heap → lv_has ls maxL (lv_args 0 (.ref h :: as)) → W p l e (zc_rm d mc ms) s m (.ref h :: as).toArray below meth c s.heap [] 0 0 (MQ below (zc_Q D h L) (.ref h :: as).toArray s mc ms (fun q => h ≤ q)) (F0 m 0 ls [])) : zc_M b0 sw l D cA d mc ms y bytes maxL as h e0 L := by
  refine Met.ofW (cc := bytes) (maxL := maxL) (ret := none) hpl rfl ?_
  intro p e s m args below meth c s₁ B0 hml hv
  obtain ⟨rfl, hP, hK, hb0, hN⟩ := hv
  have hts : ∀ w ∈ zy_T, w.before (Value.ref h :: as).toArray s = true := fun w hw => atoms_spec (ws := Cond.code y bytes maxL none :: zy_T) B0.pre w (List.mem_cons_of_mem _ hw)
  have hl := lv_entry (.ref h :: as) (n := maxL) hlen
  rw [lg_entry_eq]
  exact hh p e s m below meth c _ ⟨B0.exec, B0.bytes, hml, findClass_of_methodNamed B0.named, hts, B0.returns, B0.notSynchronized⟩ (name_of_methodNamed B0.named B0.method).1 hP hK hb0 hN hl
section ZCC
variable {p : Program} {l : Launch} {e : Env} {R : Room} {s : State} {m : MethodId} {args : Array Value} {below : List Frame} {meth : Method} {c : Code} {H H0 : Heap} {locs : List Loc} {cells slots : Nat} {Q : State → Prop}
variable {cc : ByteArray} {pc nL i n d mc ms : Nat} {own : String} {ls : Array Slot} {rest as : List Value} {D : va_G} {h a0 b0 sw : Nat} {L L2 : List va_E} {e0 : va_E} {cA : Nat → ClassId} {y : MethodName} {bytes : ByteArray} {maxL : Nat}
theorem zc_cont {st0 : List Value} {a : Array Value} (hr : va_Run p l e R s m args below meth c H locs cells slots mc ms (F0 m pc ls st0) rest (zc_Q D (h + L.length) L2 a) (fun q => h + L.length ≤ q)) (hP : zc_P D h (L ++ [e0]) H) (hS : va_S (fun q => a0 ≤ q) H0 H locs) (hA : a0 ≤ h)
    (kk : ∀ (H1 : Heap) (locs1 : List Loc), zc_P D h (L ++ L2) H1 → va_S (fun q => a0 ≤ q) H0 H1 locs1 → W p l e R s m args below meth c H1 locs1 (cells + mc) (slots + ms) Q (F0 m (pc + 3) ls rest)) : W p l e R s m args below meth c H locs cells slots Q (F0 m pc ls st0) := by
  intro T hT X
  obtain ⟨v, st₀, t, T', L0, h0, X', hL, e1, e2, ⟨hv, hp, hz, hk⟩, st⟩ := hr T hT X
  cases hv
  rw [h0] at hz hk
  obtain ⟨t2, a1, b1⟩ := kk T'.heap (locs ++ L0) (zc_P_app hP (fun q h1 h2 => by rw [e1]; exact hk q h1 h2) (by rw [e1]; exact hp))
    ⟨Nat.le_trans hS.1 (by rw [e1]; exact hz), fun q h1 h2 => by
      rw [e1, hk q (Nat.lt_of_lt_of_le h1 hS.1) (fun h3 => h2 (show a0 ≤ q by omega))]
      exact hS.2.1 q h1 h2, fun q hq => by
      rcases List.mem_append.mp hq with h3 | h3
      · exact hS.2.2 q h3
      · have h4 := hL q h3
        show a0 ≤ q.base
        omega⟩ T' rfl X'
  exact ⟨t2, st t2 a1, b1⟩
theorem zc_blind : FrameBlind (va_Pc as (zc_B b0 sw D cA h L)) := fun a U g mk q => ⟨q.1, q.2.1, va_K.moved (u := U) (U := U.calling g mk a) (Vm.Alike.refl U.vm) q.2.2.1, q.2.2.2.1, zc_N_same (u := U) rfl q.2.2.2.2⟩
theorem zc_pre (hP : zc_P D h (L ++ [e0]) H) (hK : va_K D zy_cl (zm_tys cA) s) (hN : zc_N b0 sw s s.heap) (hS : va_S (fun q => a0 ≤ q) s.heap H locs) (hb0 : b0 ≤ a0) (hA : a0 ≤ h) : ∀ U : State, U.heap = H → s.WarmedH U.vm → va_Pc (.ref (h + L.length) :: as) (zc_B b0 sw D cA (h + L.length) [e0]) (Value.ref (h + L.length) :: as).toArray U := fun U hU hW => ⟨rfl, by rw [hU]; exact zc_P_last hP, va_K.moved hW.alike hK, by omega, zc_N_warm hW hN (fun a h1 h2 => by rw [hU]; exact hS.2.1 a h1 (fun h3 => h2 (show b0 ≤ a by omega)))⟩
theorem zc_good (hc : zy_mc n (y, bytes, maxL, none)) : GoodIn zy_T (Cond.code y bytes maxL none :: zy_T) := by
  intro w hw
  rcases List.mem_cons.mp hw with rfl | hw
  · exact zy_good hc.1
  · exact zy_good hw
theorem zc_callI (hx : p.tables.exec = Jvm.exec) (hb : c.code = cc) (hml : c.maxLocals = nL) (hown : s.vm.findClass own = some m.cls) (hts : ∀ w ∈ zy_T, w.before args s = true) (hM : zc_M b0 sw l D cA d mc ms y bytes maxL as (h + L.length) e0 L2) (hc : zy_mc n (y, bytes, maxL, none)) (hnm : y.name = "<init>") (hk : Cond.methodLink own i y ∈ zy_T) (hi : Cond.instanceMethod y ∈ zy_T) (hlen : as.length = n) (hls : ls.size = nL) (hrs : (rest.map fun v => v.category).sum ≤ 8) (hd : decode cc pc = .ok (.invokespecial i, 3)) (hR : d + 1 ≤ R.frames ∧ 8 + (maxL + 11) + 64 * d ≤ R.locals) (hf : cells + mc ≤ R.cells ∧ slots + ms ≤ R.slots)
    (hP : zc_P D h (L ++ [e0]) H) (hS : va_S (fun q => a0 ≤ q) s.heap H locs) (hA : a0 ≤ h) (hb0 : b0 ≤ a0) (hK : va_K D zy_cl (zm_tys cA) s) (hN : zc_N b0 sw s s.heap)
    (kk : ∀ (H1 : Heap) (locs1 : List Loc), zc_P D h (L ++ L2) H1 → va_S (fun q => a0 ≤ q) s.heap H1 locs1 → W p l e R s m args below meth c H1 locs1 (cells + mc) (slots + ms) Q (F0 m (pc + 3) ls rest)) : W p l e R s m args below meth c H locs cells slots Q (F0 m pc ls (as.reverse ++ .ref (h + L.length) :: rest)) :=
  zc_cont (rest := rest) (va_runI (As := as) (b := h + L.length) ⟨hx, hb, hml, hown, hts⟩ hM (cwI n hts (zc_good hc) rfl rfl rfl (hts _ hc.2.1) (hts _ hk) (hts _ hi) hnm hc.2.2.1 hR) ⟨zc_blind, zc_pre hP hK hN hS hb0 hA⟩ rfl hlen hls rfl (lv_room hrs) hd hf) hP hS hA kk
theorem zc_callN (hx : p.tables.exec = Jvm.exec) (hb : c.code = cc) (hml : c.maxLocals = nL) (hown : s.vm.findClass own = some m.cls) (hts : ∀ w ∈ zy_T, w.before args s = true) (hM : zc_M b0 sw l D cA d mc ms y bytes maxL as (h + L.length) e0 L2) (hc : zy_mc n (y, bytes, maxL, none)) (hnm : y.name = "<init>") (hk : va_Nw (.methodLinkNest own i y "ApologyUp") s) (hi : Cond.instanceMethod y ∈ zy_T) (hlen : as.length = n) (hls : ls.size = nL) (hrs : (rest.map fun v => v.category).sum ≤ 8) (hd : decode cc pc = .ok (.invokespecial i, 3)) (hR : d + 1 ≤ R.frames ∧ 8 + (maxL + 11) + 64 * d ≤ R.locals) (hf : cells + mc ≤ R.cells ∧ slots + ms ≤ R.slots)
    (hP : zc_P D h (L ++ [e0]) H) (hS : va_S (fun q => a0 ≤ q) s.heap H locs) (hA : a0 ≤ h) (hb0 : b0 ≤ a0) (hK : va_K D zy_cl (zm_tys cA) s) (hN : zc_N b0 sw s s.heap)
    (kk : ∀ (H1 : Heap) (locs1 : List Loc), zc_P D h (L ++ L2) H1 → va_S (fun q => a0 ≤ q) s.heap H1 locs1 → W p l e R s m args below meth c H1 locs1 (cells + mc) (slots + ms) Q (F0 m (pc + 3) ls rest)) : W p l e R s m args below meth c H locs cells slots Q (F0 m pc ls (as.reverse ++ .ref (h + L.length) :: rest)) :=
  zc_cont (rest := rest) (va_runIN (As := as) (b := h + L.length) ⟨hx, hb, hml, hown, hts⟩ hM ⟨va_cnB n hts (zc_good hc) rfl rfl rfl hk (hts _ hc.2.1) hc.2.2.1 hR, hnm, hts _ hi⟩ ⟨zc_blind, zc_pre hP hK hN hS hb0 hA⟩ rfl hlen hls rfl (lv_room hrs) hd hf) hP hS hA kk
end ZCC
theorem zc_S {b0 a0 : Nat} {H0 H : Heap} {locs : List Loc} (hb : b0 ≤ a0) (hS : va_S (fun q => a0 ≤ q) H0 H locs) : va_S (fun q => b0 ≤ q) H0 H locs := ⟨hS.1, fun q h1 h2 => hS.2.1 q h1 (fun h3 => h2 (show b0 ≤ q by omega)), fun q hq => by
  have h4 := hS.2.2 q hq
  show b0 ≤ q.base
  omega⟩
