/-! ===== printed: ApologyUpModel() ===== -/
theorem dX12_copy_0 : decode cX12_copy 0 = .ok (.iconst 0, 1) := by decide +kernel
theorem dX12_copy_1 : decode cX12_copy 1 = .ok (.istore_n 2, 1) := by decide +kernel
theorem dX12_copy_2 : decode cX12_copy 2 = .ok (.iload_n 2, 1) := by decide +kernel
theorem dX12_copy_3 : decode cX12_copy 3 = .ok (.sipush 4544, 3) := by decide +kernel
theorem dX12_copy_6 : decode cX12_copy 6 = .ok (.if_icmp .ge 15, 3) := by decide +kernel
theorem dX12_copy_9 : decode cX12_copy 9 = .ok (.aload_n 1, 1) := by decide +kernel
theorem dX12_copy_10 : decode cX12_copy 10 = .ok (.iload_n 2, 1) := by decide +kernel
theorem dX12_copy_11 : decode cX12_copy 11 = .ok (.aload_n 0, 1) := by decide +kernel
theorem dX12_copy_12 : decode cX12_copy 12 = .ok (.iload_n 2, 1) := by decide +kernel
theorem dX12_copy_13 : decode cX12_copy 13 = .ok (.iaload, 1) := by decide +kernel
theorem dX12_copy_14 : decode cX12_copy 14 = .ok (.iastore, 1) := by decide +kernel
theorem dX12_copy_15 : decode cX12_copy 15 = .ok (.iinc 2 1, 3) := by decide +kernel
theorem dX12_copy_18 : decode cX12_copy 18 = .ok (.goto (-16), 3) := by decide +kernel
theorem dX12_copy_21 : decode cX12_copy 21 = .ok (.return_, 1) := by decide +kernel
def zu_m15 (cA : Nat → ClassId) (fa fi : Nat → Int32) (h : Nat) : List va_E := [.inr (12, [.ref (h + 1), .ref (h + 2), .ref (h + 3), .ref (h + 4), .int 0, .int (-1), .int (-1), .int 0, .int 0, .int 0, .int 0, .long 0, .int 0, .int 0, .int 0, .ref (h + 5), .int 0, .int 0, .int 0, .int 0, .ref (h + 6), .ref (h + 7), .ref (h + 8), .int 1, .int 0, .int 0, .ref (h + 9), .ref (h + 10), .ref (h + 11), .ref (h + 12), .ref (h + 13), .int 0, .int 0, .ref (h + 14), .int 0]), .inl (cA 0, 4544, .inl fa), .inl (cA 0, 4544, .inl fi), .inl (cA 0, 2820, .inl (fun _ => 0)), .inl (cA 0, 300, .inl (fun _ => 0)), .inl (cA 0, 160, .inl (fun _ => 0)), .inl (cA 0, 9, .inl (fun _ => 0)), .inl (cA 3, 330, .inr (.inl (fun _ => 0))), .inl (cA 2, 330, .inl (fun _ => 0)), .inl (cA 0, 90, .inl (fun _ => 0)), .inl (cA 0, 10, .inl (fun _ => 0)), .inl (cA 0, 11, .inl (fun _ => 0)), .inl (cA 0, 11, .inl (fun _ => 0)), .inl (cA 0, 11, .inl (fun _ => 0)), .inl (cA 0, 8, .inl (fun _ => 0))]
theorem zu_cp_c : zy_mc 2 (yX12_copy, cX12_copy, 3, none) := ⟨zy_mem (zy_t6 (List.mem_of_getElem? (i := 3) (by decide +kernel))) rfl, zy_mem (zy_t1 (List.mem_of_getElem? (i := 14) (by decide +kernel))) rfl, by decide +kernel, by decide +kernel⟩
theorem zu_cp_l : Cond.methodLink RX12 65 yX12_copy ∈ zy_T := zy_mem (zy_t6 (List.mem_of_getElem? (i := 1) (by decide +kernel))) rfl
theorem zu_cp_t : Cond.static yX12_copy ∈ zy_T := zy_mem (zy_t6 (List.mem_of_getElem? (i := 2) (by decide +kernel))) rfl
def zu_fa (i : Nat) : Nat → Int32 := fun k => if 128 ≤ k ∧ k < 128 + i then 1 else if k = 2 then -1 else if k = 7 then 181 else 0
theorem zu_fa_0 : upd (upd (fun _ => 0) 7 181) 2 (-1) = zu_fa 0 := by
  funext k
  unfold upd zu_fa
  rw [if_neg (by omega : ¬ (128 ≤ k ∧ k < 128 + 0))]
theorem zu_fa_up (i : Nat) : upd (zu_fa i) (128 + i) 1 = zu_fa (i + 1) := by
  funext k
  unfold upd zu_fa
  by_cases e : k = 128 + i
  · rw [if_pos e, if_pos (by omega)]
  · rw [if_neg e]
    by_cases e2 : 128 ≤ k ∧ k < 128 + i
    · rw [if_pos e2, if_pos (by omega)]
    · rw [if_neg e2, if_neg (by omega : ¬ (128 ≤ k ∧ k < 128 + (i + 1)))]
def zu_fc (fa fi : Nat → Int32) (k : Nat) : Nat → Int32 := fun j => if j < k then fa j else fi j
theorem zu_fc_up (fa fi : Nat → Int32) (k : Nat) : upd (zu_fc fa fi k) k (fa k) = zu_fc fa fi (k + 1) := by
  funext j
  unfold upd zu_fc
  by_cases e : j = k
  · subst e
    rw [if_pos rfl, if_pos (by omega)]
  · rw [if_neg e]
    by_cases e2 : j < k
    · rw [if_pos e2, if_pos (by omega)]
    · rw [if_neg e2, if_neg (by omega)]
theorem zu_fc_0 (fa fi : Nat → Int32) : fi = zu_fc fa fi 0 := by
  funext j
  unfold zu_fc
  rw [if_neg (by omega)]
def zu_CM (l : Launch) (D : va_G) (cA : Nat → ClassId) (fa fi : Nat → Int32) (h : Nat) : Prop := Met l yX12_copy (Cond.code yX12_copy cX12_copy 3 none :: zy_T) (zc_rm 1 0 0) (va_Pc [.ref (h + 1), .ref (h + 2)] (fun U => zc_P D h (zu_m15 cA fa fi h) U.heap ∧ va_K D zy_cl (zm_tys cA) U)) (zc_Q D h (zu_m15 cA fa (zu_fc fa fi 4544) h)) 0 0 (fun q => h ≤ q)
theorem zu_copy (l : Launch) (D : va_G) (cA : Nat → ClassId) (fa fi : Nat → Int32) (h : Nat) : zu_CM l D cA fa fi h := by
  refine Met.ofW (cc := cX12_copy) (maxL := 3) (ret := none) (by decide) rfl ?_
  intro p e s m args below meth c s₁ B0 hml hv
  obtain ⟨rfl, hP, hK⟩ := hv
  have hx := B0.exec
  have hb : c.code = cX12_copy := B0.bytes
  have hr := B0.returns
  have hlk := B0.notSynchronized
  have hl := lv_entry [Value.ref (h + 1), Value.ref (h + 2)] (n := 3) (Nat.le_of_ble_eq_true rfl)
  rw [lg_entry_eq]
  generalize hls : ((lg_sl [Value.ref (h + 1), Value.ref (h + 2)]) ++ List.replicate (3 - (lg_sl [Value.ref (h + 1), Value.ref (h + 2)]).length) Slot.unset).toArray = ls at hl ⊢
  have hl : lv_has ls 3 [(0, .ref (h + 1)), (1, .ref (h + 2))] := hl
  have loop : ∀ (f k : Nat) (ls : Array Slot) (H : Heap) (locs : List Loc), k + f = 4544 → lv_has ls 3 [(2, .int (nI k)), (0, .ref (h + 1)), (1, .ref (h + 2))] → zc_P D h (zu_m15 cA fa (zu_fc fa fi k) h) H → va_S (fun q => h ≤ q) s.heap H locs → W p l e (zc_rm 1 0 0) s m [Value.ref (h + 1), Value.ref (h + 2)].toArray below meth c H locs 0 0 (MQ below (zc_Q D h (zu_m15 cA fa (zu_fc fa fi 4544) h)) [Value.ref (h + 1), Value.ref (h + 2)].toArray s 0 0 (fun q => h ≤ q)) (F0 m 2 ls []) := by
    intro f
    induction f with
    | zero =>
      intro k ls H locs hkf hl hP hS
      have hk : k = 4544 := by omega
      subst hk
      refine lv_iload_n hx hb dX12_copy_2 rfl (lv_at hl 0 rfl) ?_
      refine lv_sipush (v := 4544) hx hb dX12_copy_3 (by decide) ?_
      refine lv_icmp_ge (tgt := 21) hx hb dX12_copy_6 (by decide) (fun _ => ?_) (fun h9 => absurd (show (4544 : Int32) ≤ nI 4544 by decide) h9)
      exact W.vret hx hb hr (fun t ht hW => ⟨rfl, by rw [ht]; exact hP, hS.F ht⟩) hS.2.2 dX12_copy_21 hlk
    | succ f ih =>
      intro k ls H locs hkf hl hP hS
      have hk : k < 4544 := by omega
      refine lv_iload_n hx hb dX12_copy_2 rfl (lv_at hl 0 rfl) ?_
      refine lv_sipush (v := 4544) hx hb dX12_copy_3 (by decide) ?_
      refine lv_icmp_ge (tgt := 21) hx hb dX12_copy_6 (by decide) (fun h9 => absurd h9 (nI_ge hk (by decide))) (fun _ => ?_)
      refine lv_aload_n hx hb dX12_copy_9 rfl (lv_at hl 2 rfl) ?_
      refine lv_iload_n hx hb dX12_copy_10 rfl (lv_at hl 0 rfl) ?_
      refine lv_aload_n hx hb dX12_copy_11 rfl (lv_at hl 1 rfl) ?_
      refine lv_iload_n hx hb dX12_copy_12 rfl (lv_at hl 0 rfl) ?_
      refine va_iald (f := fa) hx hb hK hP.2 1 0 rfl rfl (vp_in_nI hk (by decide)) dX12_copy_13 ?_
      rw [nI_clamp (by omega)]
      refine zc_iast (q0 := 2) (t0 := 0) (f := zu_fc fa fi k) (n := 4544) hx hb hK hP hS (Nat.le_refl _) rfl rfl (vp_in_nI hk (by decide)) dX12_copy_14 (fun H locs hP hS => ?_)
      rw [nI_clamp (by omega), zu_fc_up] at hP
      refine lv_iinc (k := 0) hx hb dX12_copy_15 hl rfl (show nI k + Int32.ofInt 1 = nI (k + 1) from nI_1 k) (by decide) rfl (fun ls2 hl2 => ?_)
      refine lv_goto (tgt := 2) hx hb dX12_copy_18 (by decide) ?_
      exact ih (k + 1) ls2 H locs (by omega) hl2 hP hS
  refine lv_iconst (v := 0) hx hb dX12_copy_0 (by decide) ?_
  refine lv_istore_n hx hb dX12_copy_1 rfl hl (by decide) rfl (fun ls2 hl2 => ?_)
  rw [zu_fc_0 fa fi] at hP
  exact loop 4544 0 ls2 s.heap [] rfl hl2 hP va_S.rf
theorem zu_t12_c2 {p : Program} {l : Launch} {e : Env} {R : Room} {s : State} {m : MethodId} {args : Array Value} {below : List Frame} {meth : Method} {c : Code} {H : Heap} {locs : List Loc} {cells slots pc : Nat} {Q : State → Prop} {ls : Array Slot} {st0 rest : List Value} {a : Array Value} {D : va_G} {h : Nat} {L2 : List va_E} (hr : va_Run p l e R s m args below meth c H locs cells slots 0 0 (F0 m pc ls st0) rest (zc_Q D h L2 a) (fun q => h ≤ q)) (hS : va_S (fun q => h ≤ q) s.heap H locs)
    (kk : ∀ (H1 : Heap) (locs1 : List Loc), zc_P D h L2 H1 → va_S (fun q => h ≤ q) s.heap H1 locs1 → W p l e R s m args below meth c H1 locs1 cells slots Q (F0 m (pc + 3) ls rest)) : W p l e R s m args below meth c H locs cells slots Q (F0 m pc ls st0) := by
  intro T hT X
  obtain ⟨v, st₀, t, T', L0, h0, X', hL, e1, e2, ⟨hv, hp, hz, hk⟩, st⟩ := hr T hT X
  cases hv
  rw [h0] at hz hk
  obtain ⟨t2, a1, b1⟩ := kk T'.heap (locs ++ L0) (by rw [e1]; exact hp)
    ⟨Nat.le_trans hS.1 (by rw [e1]; exact hz), fun q h1 h2 => by
      rw [e1, hk q (Nat.lt_of_lt_of_le h1 hS.1) h2]
      exact hS.2.1 q h1 h2, fun q hq => by
      rcases List.mem_append.mp hq with h3 | h3
      · exact hS.2.2 q h3
      · exact hL q h3⟩ T' rfl X'
  exact ⟨t2, st t2 a1, b1⟩
theorem zu_cp_G : GoodIn zy_T (va_wsS RX12 65 yX12_copy (Cond.code yX12_copy cX12_copy 3 none :: zy_T)) := by
  intro w hw
  simp only [va_wsS, List.mem_append, List.mem_cons, List.not_mem_nil, or_false] at hw
  rcases hw with (rfl | rfl | rfl) | rfl | hw
  · exact zy_good zu_cp_l
  · exact zy_good zu_cp_t
  · exact zy_good zu_cp_c.2.1
  · exact zy_good zu_cp_c.1
  · exact zy_good hw
def zu_t12 (cA : Nat → ClassId) (h : Nat) : List va_E := zu_m15 cA (zu_fa 10) (zu_fc (zu_fa 10) (fun _ => 0) 4544) h
set_option maxRecDepth 20000 in
theorem zu_t12_ok (b0 sw : Nat) (l : Launch) (D : va_G) (cA : Nat → ClassId) (h : Nat) : zc_M b0 sw l D cA 2 14 13178 yX12_init cX12_init 2 [] h (.inr (12, zu_d12)) (zu_t12 cA h) := by
  refine zc_met (by decide) (Nat.le_of_ble_eq_true rfl) ?_
  rintro p e s m below meth c ls ⟨hx, hb, hml, hown, hts, hr, hlk⟩ hin hP hK hb0 hN hl
  have hl : lv_has ls 2 [(0, .ref h)] := hl
  have hS : va_S (fun q => h ≤ q) s.heap s.heap [] := va_S.rf
  have loop : ∀ (f i : Nat) (ls : Array Slot) (H : Heap) (locs : List Loc), i + f = 10 → lv_has ls 2 [(1, .int (nI i)), (0, .ref h)] → zc_P D h (zu_m15 cA (zu_fa i) (fun _ => 0) h) H → va_S (fun q => h ≤ q) s.heap H locs → W p l e (zc_rm 2 14 13178) s m [Value.ref h].toArray below meth c H locs 14 13178 (MQ below (zc_Q D h (zu_t12 cA h)) [Value.ref h].toArray s 14 13178 (fun q => h ≤ q)) (F0 m 157 ls []) := by
    intro f
    induction f with
    | zero =>
      intro i ls H locs hif hl hP hS
      have hi : i = 10 := by omega
      subst hi
      refine lv_iload_n hx hb dX12_init_157 rfl (lv_at hl 0 rfl) ?_
      refine lv_bipush (v := 10) hx hb dX12_init_158 (by decide) ?_
      refine lv_icmp_ge (tgt := 180) hx hb dX12_init_160 (by decide) (fun _ => ?_) (fun h9 => absurd (show (10 : Int32) ≤ nI 10 by decide) h9)
      refine lv_aload_n hx hb dX12_init_180 rfl (lv_at hl 1 rfl) ?_
      refine va_get (D := D) (ci := 12) (v := .ref (h + 1)) (C := RX12) (T := TX12) (N := 35) hx hb hts zy_in12 hown hK hP.2 0 rfl rfl 0 (by decide) (hts _ (zy_mem (zy_t6 (List.mem_of_getElem? (i := 4) (by decide +kernel))) rfl)) (fun _ h9 => h9) rfl dX12_init_181 ?_
      refine lv_aload_n hx hb dX12_init_184 rfl (lv_at hl 1 rfl) ?_
      refine va_get (D := D) (ci := 12) (v := .ref (h + 2)) (C := RX12) (T := TX12) (N := 35) hx hb hts zy_in12 hown hK hP.2 0 rfl rfl 1 (by decide) (hts _ (zy_mem (zy_t6 (List.mem_of_getElem? (i := 5) (by decide +kernel))) rfl)) (fun _ h9 => h9) rfl dX12_init_185 ?_
      refine zu_t12_c2 (rest := []) (va_runS (As := [.ref (h + 1), .ref (h + 2)]) ⟨hx, hb, hml, hown, hts⟩ (zu_copy l D cA (zu_fa 10) (fun _ => 0) h) (va_cwS 2 hts zu_cp_G rfl rfl rfl zu_cp_c.2.2.1 ⟨Nat.le_of_ble_eq_true rfl, Nat.le_of_ble_eq_true rfl⟩) ⟨fun a U g mk q => ⟨q.1, q.2.1, va_K.moved (u := U) (U := U.calling g mk a) (Vm.Alike.refl U.vm) q.2.2⟩, fun U hU hW => ⟨rfl, by rw [hU]; exact hP, va_K.moved hW.alike hK⟩⟩ rfl rfl hl.1 rfl (lv_room (Nat.le_of_ble_eq_true rfl)) dX12_init_188 ⟨Nat.le_refl _, Nat.le_refl _⟩) hS (fun H locs hP hS => ?_)
      exact W.vret hx hb hr (fun t ht hW => ⟨rfl, by rw [ht]; exact hP, hS.F ht⟩) hS.2.2 dX12_init_191 hlk
    | succ f ih =>
      intro i ls H locs hif hl hP hS
      have hi : i < 10 := by omega
      refine lv_iload_n hx hb dX12_init_157 rfl (lv_at hl 0 rfl) ?_
      refine lv_bipush (v := 10) hx hb dX12_init_158 (by decide) ?_
      refine lv_icmp_ge (tgt := 180) hx hb dX12_init_160 (by decide) (fun h9 => absurd h9 (nI_ge hi (by decide))) (fun _ => ?_)
      refine lv_aload_n hx hb dX12_init_163 rfl (lv_at hl 1 rfl) ?_
      refine va_get (D := D) (ci := 12) (v := .ref (h + 1)) (C := RX12) (T := TX12) (N := 35) hx hb hts zy_in12 hown hK hP.2 0 rfl rfl 0 (by decide) (hts _ (zy_mem (zy_t6 (List.mem_of_getElem? (i := 4) (by decide +kernel))) rfl)) (fun _ h9 => h9) rfl dX12_init_164 ?_
      refine lv_sipush (v := 128) hx hb dX12_init_167 (by decide) ?_
      refine lv_iload_n hx hb dX12_init_170 rfl (lv_at hl 0 rfl) ?_
      refine lv_iadd hx hb dX12_init_171 ?_
      rw [show (128 : Int32) + nI i = nI (128 + i) from nI_add 128 i]
      refine lv_iconst (v := 1) hx hb dX12_init_172 (by decide) ?_
      refine zc_iast (q0 := 1) (t0 := 0) (f := zu_fa i) (n := 4544) hx hb hK hP hS (Nat.le_refl _) rfl rfl (vp_in_nI (by omega) (by decide)) dX12_init_173 (fun H locs hP hS => ?_)
      rw [nI_clamp (by omega), zu_fa_up] at hP
      refine lv_iinc (k := 0) hx hb dX12_init_174 hl rfl (show nI i + Int32.ofInt 1 = nI (i + 1) from nI_1 i) (by decide) rfl (fun ls2 hl2 => ?_)
      refine lv_goto (tgt := 157) hx hb dX12_init_177 (by decide) ?_
      exact ih (i + 1) ls2 H locs (by omega) hl2 hP hS
  refine lv_aload_n hx hb dX12_init_0 rfl (lv_at hl 0 rfl) ?_
  refine W.objInit hx hb hown (hts _ zu_o12) (hts _ zu_oi) (hts _ zu_oc) rfl (by rw [hml]; exact hl.1) rfl dX12_init_1 (Nat.le_of_ble_eq_true rfl) (Nat.le_of_ble_eq_true rfl) ?_
  refine W.eq (g2 := F0 m 4 ls []) rfl ?_
  refine lv_aload_n hx hb dX12_init_4 rfl (lv_at hl 0 rfl) ?_
  refine lv_sipush (v := 4544) hx hb dX12_init_5 (by decide) ?_
  refine zc_newa (atype := .int) (t := 0) (ty := .int) (a1 := .inl (fun _ => 0)) (N' := 4544) hx hb (hts _ zu_a_int) rfl hK rfl (fun _ h => h) hP hS (fun _ => rfl) (by decide) (by decide) (by decide) (Nat.le_of_ble_eq_true rfl) (Nat.le_of_ble_eq_true rfl) dX12_init_8 (fun H hP hS => ?_)
  have hP : zc_P D h [.inr (12, [.null, .null, .null, .null, .int 0, .int 0, .int 0, .int 0, .int 0, .int 0, .int 0, .long 0, .int 0, .int 0, .int 0, .null, .int 0, .int 0, .int 0, .int 0, .null, .null, .null, .int 0, .int 0, .int 0, .null, .null, .null, .null, .null, .int 0, .int 0, .null, .int 0]), .inl (cA 0, 4544, .inl (fun _ => 0))] H := hP
  refine W.widen (k := 1) (n := 4544) (Nat.le_of_ble_eq_true rfl) (Nat.le_of_ble_eq_true rfl) ?_
  refine zc_put0 (v := .ref (h + 1)) hx hb hts zy_co12 hown hK hP hS (Nat.le_refl _) 0 (by decide) (hts _ (zy_mem (zy_t6 (List.mem_of_getElem? (i := 4) (by decide +kernel))) rfl)) (Or.inl ⟨rfl, hin, rfl⟩) rfl rfl (Nat.le_of_ble_eq_true rfl) dX12_init_10 (fun H locs hP hS => ?_)
  have hP : zc_P D h [.inr (12, [.ref (h + 1), .null, .null, .null, .int 0, .int 0, .int 0, .int 0, .int 0, .int 0, .int 0, .long 0, .int 0, .int 0, .int 0, .null, .int 0, .int 0, .int 0, .int 0, .null, .null, .null, .int 0, .int 0, .int 0, .null, .null, .null, .null, .null, .int 0, .int 0, .null, .int 0]), .inl (cA 0, 4544, .inl (fun _ => 0))] H := hP
  refine lv_aload_n hx hb dX12_init_13 rfl (lv_at hl 0 rfl) ?_
  refine lv_sipush (v := 4544) hx hb dX12_init_14 (by decide) ?_
  refine zc_newa (atype := .int) (t := 0) (ty := .int) (a1 := .inl (fun _ => 0)) (N' := 4544) hx hb (hts _ zu_a_int) rfl hK rfl (fun _ h => h) hP hS (fun _ => rfl) (by decide) (by decide) (by decide) (Nat.le_of_ble_eq_true rfl) (Nat.le_of_ble_eq_true rfl) dX12_init_17 (fun H hP hS => ?_)
  have hP : zc_P D h [.inr (12, [.ref (h + 1), .null, .null, .null, .int 0, .int 0, .int 0, .int 0, .int 0, .int 0, .int 0, .long 0, .int 0, .int 0, .int 0, .null, .int 0, .int 0, .int 0, .int 0, .null, .null, .null, .int 0, .int 0, .int 0, .null, .null, .null, .null, .null, .int 0, .int 0, .null, .int 0]), .inl (cA 0, 4544, .inl (fun _ => 0)), .inl (cA 0, 4544, .inl (fun _ => 0))] H := hP
  refine W.widen (k := 2) (n := 9088) (Nat.le_of_ble_eq_true rfl) (Nat.le_of_ble_eq_true rfl) ?_
  refine zc_put0 (v := .ref (h + 2)) hx hb hts zy_co12 hown hK hP hS (Nat.le_refl _) 1 (by decide) (hts _ (zy_mem (zy_t6 (List.mem_of_getElem? (i := 5) (by decide +kernel))) rfl)) (Or.inl ⟨rfl, hin, rfl⟩) rfl rfl (Nat.le_of_ble_eq_true rfl) dX12_init_19 (fun H locs hP hS => ?_)
  have hP : zc_P D h [.inr (12, [.ref (h + 1), .ref (h + 2), .null, .null, .int 0, .int 0, .int 0, .int 0, .int 0, .int 0, .int 0, .long 0, .int 0, .int 0, .int 0, .null, .int 0, .int 0, .int 0, .int 0, .null, .null, .null, .int 0, .int 0, .int 0, .null, .null, .null, .null, .null, .int 0, .int 0, .null, .int 0]), .inl (cA 0, 4544, .inl (fun _ => 0)), .inl (cA 0, 4544, .inl (fun _ => 0))] H := hP
  refine lv_aload_n hx hb dX12_init_22 rfl (lv_at hl 0 rfl) ?_
  refine lv_sipush (v := 2820) hx hb dX12_init_23 (by decide) ?_
  refine zc_newa (atype := .int) (t := 0) (ty := .int) (a1 := .inl (fun _ => 0)) (N' := 2820) hx hb (hts _ zu_a_int) rfl hK rfl (fun _ h => h) hP hS (fun _ => rfl) (by decide) (by decide) (by decide) (Nat.le_of_ble_eq_true rfl) (Nat.le_of_ble_eq_true rfl) dX12_init_26 (fun H hP hS => ?_)
  have hP : zc_P D h [.inr (12, [.ref (h + 1), .ref (h + 2), .null, .null, .int 0, .int 0, .int 0, .int 0, .int 0, .int 0, .int 0, .long 0, .int 0, .int 0, .int 0, .null, .int 0, .int 0, .int 0, .int 0, .null, .null, .null, .int 0, .int 0, .int 0, .null, .null, .null, .null, .null, .int 0, .int 0, .null, .int 0]), .inl (cA 0, 4544, .inl (fun _ => 0)), .inl (cA 0, 4544, .inl (fun _ => 0)), .inl (cA 0, 2820, .inl (fun _ => 0))] H := hP
  refine W.widen (k := 3) (n := 11908) (Nat.le_of_ble_eq_true rfl) (Nat.le_of_ble_eq_true rfl) ?_
  refine zc_put0 (v := .ref (h + 3)) hx hb hts zy_co12 hown hK hP hS (Nat.le_refl _) 2 (by decide) (hts _ (zy_mem (zy_t6 (List.mem_of_getElem? (i := 6) (by decide +kernel))) rfl)) (Or.inl ⟨rfl, hin, rfl⟩) rfl rfl (Nat.le_of_ble_eq_true rfl) dX12_init_28 (fun H locs hP hS => ?_)
  have hP : zc_P D h [.inr (12, [.ref (h + 1), .ref (h + 2), .ref (h + 3), .null, .int 0, .int 0, .int 0, .int 0, .int 0, .int 0, .int 0, .long 0, .int 0, .int 0, .int 0, .null, .int 0, .int 0, .int 0, .int 0, .null, .null, .null, .int 0, .int 0, .int 0, .null, .null, .null, .null, .null, .int 0, .int 0, .null, .int 0]), .inl (cA 0, 4544, .inl (fun _ => 0)), .inl (cA 0, 4544, .inl (fun _ => 0)), .inl (cA 0, 2820, .inl (fun _ => 0))] H := hP
  refine lv_aload_n hx hb dX12_init_31 rfl (lv_at hl 0 rfl) ?_
  refine lv_sipush (v := 300) hx hb dX12_init_32 (by decide) ?_
  refine zc_newa (atype := .int) (t := 0) (ty := .int) (a1 := .inl (fun _ => 0)) (N' := 300) hx hb (hts _ zu_a_int) rfl hK rfl (fun _ h => h) hP hS (fun _ => rfl) (by decide) (by decide) (by decide) (Nat.le_of_ble_eq_true rfl) (Nat.le_of_ble_eq_true rfl) dX12_init_35 (fun H hP hS => ?_)
  have hP : zc_P D h [.inr (12, [.ref (h + 1), .ref (h + 2), .ref (h + 3), .null, .int 0, .int 0, .int 0, .int 0, .int 0, .int 0, .int 0, .long 0, .int 0, .int 0, .int 0, .null, .int 0, .int 0, .int 0, .int 0, .null, .null, .null, .int 0, .int 0, .int 0, .null, .null, .null, .null, .null, .int 0, .int 0, .null, .int 0]), .inl (cA 0, 4544, .inl (fun _ => 0)), .inl (cA 0, 4544, .inl (fun _ => 0)), .inl (cA 0, 2820, .inl (fun _ => 0)), .inl (cA 0, 300, .inl (fun _ => 0))] H := hP
  refine W.widen (k := 4) (n := 12208) (Nat.le_of_ble_eq_true rfl) (Nat.le_of_ble_eq_true rfl) ?_
  refine zc_put0 (v := .ref (h + 4)) hx hb hts zy_co12 hown hK hP hS (Nat.le_refl _) 3 (by decide) (hts _ (zy_mem (zy_t6 (List.mem_of_getElem? (i := 7) (by decide +kernel))) rfl)) (Or.inl ⟨rfl, hin, rfl⟩) rfl rfl (Nat.le_of_ble_eq_true rfl) dX12_init_37 (fun H locs hP hS => ?_)
  have hP : zc_P D h [.inr (12, [.ref (h + 1), .ref (h + 2), .ref (h + 3), .ref (h + 4), .int 0, .int 0, .int 0, .int 0, .int 0, .int 0, .int 0, .long 0, .int 0, .int 0, .int 0, .null, .int 0, .int 0, .int 0, .int 0, .null, .null, .null, .int 0, .int 0, .int 0, .null, .null, .null, .null, .null, .int 0, .int 0, .null, .int 0]), .inl (cA 0, 4544, .inl (fun _ => 0)), .inl (cA 0, 4544, .inl (fun _ => 0)), .inl (cA 0, 2820, .inl (fun _ => 0)), .inl (cA 0, 300, .inl (fun _ => 0))] H := hP
  refine lv_aload_n hx hb dX12_init_40 rfl (lv_at hl 0 rfl) ?_
  refine lv_iconst (v := (-1)) hx hb dX12_init_41 (by decide) ?_
  refine zc_put0 (v := .int (-1)) hx hb hts zy_co12 hown hK hP hS (Nat.le_refl _) 5 (by decide) (hts _ (zy_mem (zy_t6 (List.mem_of_getElem? (i := 9) (by decide +kernel))) rfl)) (Or.inr rfl) rfl rfl (Nat.le_of_ble_eq_true rfl) dX12_init_42 (fun H locs hP hS => ?_)
  have hP : zc_P D h [.inr (12, [.ref (h + 1), .ref (h + 2), .ref (h + 3), .ref (h + 4), .int 0, .int (-1), .int 0, .int 0, .int 0, .int 0, .int 0, .long 0, .int 0, .int 0, .int 0, .null, .int 0, .int 0, .int 0, .int 0, .null, .null, .null, .int 0, .int 0, .int 0, .null, .null, .null, .null, .null, .int 0, .int 0, .null, .int 0]), .inl (cA 0, 4544, .inl (fun _ => 0)), .inl (cA 0, 4544, .inl (fun _ => 0)), .inl (cA 0, 2820, .inl (fun _ => 0)), .inl (cA 0, 300, .inl (fun _ => 0))] H := hP
  refine lv_aload_n hx hb dX12_init_45 rfl (lv_at hl 0 rfl) ?_
  refine lv_iconst (v := (-1)) hx hb dX12_init_46 (by decide) ?_
  refine zc_put0 (v := .int (-1)) hx hb hts zy_co12 hown hK hP hS (Nat.le_refl _) 6 (by decide) (hts _ (zy_mem (zy_t6 (List.mem_of_getElem? (i := 10) (by decide +kernel))) rfl)) (Or.inr rfl) rfl rfl (Nat.le_of_ble_eq_true rfl) dX12_init_47 (fun H locs hP hS => ?_)
  have hP : zc_P D h [.inr (12, [.ref (h + 1), .ref (h + 2), .ref (h + 3), .ref (h + 4), .int 0, .int (-1), .int (-1), .int 0, .int 0, .int 0, .int 0, .long 0, .int 0, .int 0, .int 0, .null, .int 0, .int 0, .int 0, .int 0, .null, .null, .null, .int 0, .int 0, .int 0, .null, .null, .null, .null, .null, .int 0, .int 0, .null, .int 0]), .inl (cA 0, 4544, .inl (fun _ => 0)), .inl (cA 0, 4544, .inl (fun _ => 0)), .inl (cA 0, 2820, .inl (fun _ => 0)), .inl (cA 0, 300, .inl (fun _ => 0))] H := hP
  refine lv_aload_n hx hb dX12_init_50 rfl (lv_at hl 0 rfl) ?_
  refine lv_sipush (v := 160) hx hb dX12_init_51 (by decide) ?_
  refine zc_newa (atype := .int) (t := 0) (ty := .int) (a1 := .inl (fun _ => 0)) (N' := 160) hx hb (hts _ zu_a_int) rfl hK rfl (fun _ h => h) hP hS (fun _ => rfl) (by decide) (by decide) (by decide) (Nat.le_of_ble_eq_true rfl) (Nat.le_of_ble_eq_true rfl) dX12_init_54 (fun H hP hS => ?_)
  have hP : zc_P D h [.inr (12, [.ref (h + 1), .ref (h + 2), .ref (h + 3), .ref (h + 4), .int 0, .int (-1), .int (-1), .int 0, .int 0, .int 0, .int 0, .long 0, .int 0, .int 0, .int 0, .null, .int 0, .int 0, .int 0, .int 0, .null, .null, .null, .int 0, .int 0, .int 0, .null, .null, .null, .null, .null, .int 0, .int 0, .null, .int 0]), .inl (cA 0, 4544, .inl (fun _ => 0)), .inl (cA 0, 4544, .inl (fun _ => 0)), .inl (cA 0, 2820, .inl (fun _ => 0)), .inl (cA 0, 300, .inl (fun _ => 0)), .inl (cA 0, 160, .inl (fun _ => 0))] H := hP
  refine W.widen (k := 5) (n := 12368) (Nat.le_of_ble_eq_true rfl) (Nat.le_of_ble_eq_true rfl) ?_
  refine zc_put0 (v := .ref (h + 5)) hx hb hts zy_co12 hown hK hP hS (Nat.le_refl _) 15 (by decide) (hts _ (zy_mem (zy_t6 (List.mem_of_getElem? (i := 19) (by decide +kernel))) rfl)) (Or.inl ⟨rfl, hin, rfl⟩) rfl rfl (Nat.le_of_ble_eq_true rfl) dX12_init_56 (fun H locs hP hS => ?_)
  have hP : zc_P D h [.inr (12, [.ref (h + 1), .ref (h + 2), .ref (h + 3), .ref (h + 4), .int 0, .int (-1), .int (-1), .int 0, .int 0, .int 0, .int 0, .long 0, .int 0, .int 0, .int 0, .ref (h + 5), .int 0, .int 0, .int 0, .int 0, .null, .null, .null, .int 0, .int 0, .int 0, .null, .null, .null, .null, .null, .int 0, .int 0, .null, .int 0]), .inl (cA 0, 4544, .inl (fun _ => 0)), .inl (cA 0, 4544, .inl (fun _ => 0)), .inl (cA 0, 2820, .inl (fun _ => 0)), .inl (cA 0, 300, .inl (fun _ => 0)), .inl (cA 0, 160, .inl (fun _ => 0))] H := hP
  refine lv_aload_n hx hb dX12_init_59 rfl (lv_at hl 0 rfl) ?_
  refine lv_bipush (v := 9) hx hb dX12_init_60 (by decide) ?_
  refine zc_newa (atype := .int) (t := 0) (ty := .int) (a1 := .inl (fun _ => 0)) (N' := 9) hx hb (hts _ zu_a_int) rfl hK rfl (fun _ h => h) hP hS (fun _ => rfl) (by decide) (by decide) (by decide) (Nat.le_of_ble_eq_true rfl) (Nat.le_of_ble_eq_true rfl) dX12_init_62 (fun H hP hS => ?_)
  have hP : zc_P D h [.inr (12, [.ref (h + 1), .ref (h + 2), .ref (h + 3), .ref (h + 4), .int 0, .int (-1), .int (-1), .int 0, .int 0, .int 0, .int 0, .long 0, .int 0, .int 0, .int 0, .ref (h + 5), .int 0, .int 0, .int 0, .int 0, .null, .null, .null, .int 0, .int 0, .int 0, .null, .null, .null, .null, .null, .int 0, .int 0, .null, .int 0]), .inl (cA 0, 4544, .inl (fun _ => 0)), .inl (cA 0, 4544, .inl (fun _ => 0)), .inl (cA 0, 2820, .inl (fun _ => 0)), .inl (cA 0, 300, .inl (fun _ => 0)), .inl (cA 0, 160, .inl (fun _ => 0)), .inl (cA 0, 9, .inl (fun _ => 0))] H := hP
  refine W.widen (k := 6) (n := 12377) (Nat.le_of_ble_eq_true rfl) (Nat.le_of_ble_eq_true rfl) ?_
  refine zc_put0 (v := .ref (h + 6)) hx hb hts zy_co12 hown hK hP hS (Nat.le_refl _) 20 (by decide) (hts _ (zy_mem (zy_t6 (List.mem_of_getElem? (i := 24) (by decide +kernel))) rfl)) (Or.inl ⟨rfl, hin, rfl⟩) rfl rfl (Nat.le_of_ble_eq_true rfl) dX12_init_64 (fun H locs hP hS => ?_)
  have hP : zc_P D h [.inr (12, [.ref (h + 1), .ref (h + 2), .ref (h + 3), .ref (h + 4), .int 0, .int (-1), .int (-1), .int 0, .int 0, .int 0, .int 0, .long 0, .int 0, .int 0, .int 0, .ref (h + 5), .int 0, .int 0, .int 0, .int 0, .ref (h + 6), .null, .null, .int 0, .int 0, .int 0, .null, .null, .null, .null, .null, .int 0, .int 0, .null, .int 0]), .inl (cA 0, 4544, .inl (fun _ => 0)), .inl (cA 0, 4544, .inl (fun _ => 0)), .inl (cA 0, 2820, .inl (fun _ => 0)), .inl (cA 0, 300, .inl (fun _ => 0)), .inl (cA 0, 160, .inl (fun _ => 0)), .inl (cA 0, 9, .inl (fun _ => 0))] H := hP
  refine lv_aload_n hx hb dX12_init_67 rfl (lv_at hl 0 rfl) ?_
  refine lv_sipush (v := 330) hx hb dX12_init_68 (by decide) ?_
  refine zc_newa (atype := .long) (t := 3) (ty := .long) (a1 := .inr (.inl (fun _ => 0))) (N' := 330) hx hb (hts _ zu_a_long) rfl hK rfl (fun _ h => h) hP hS (fun _ => rfl) (by decide) (by decide) (by decide) (Nat.le_of_ble_eq_true rfl) (Nat.le_of_ble_eq_true rfl) dX12_init_71 (fun H hP hS => ?_)
  have hP : zc_P D h [.inr (12, [.ref (h + 1), .ref (h + 2), .ref (h + 3), .ref (h + 4), .int 0, .int (-1), .int (-1), .int 0, .int 0, .int 0, .int 0, .long 0, .int 0, .int 0, .int 0, .ref (h + 5), .int 0, .int 0, .int 0, .int 0, .ref (h + 6), .null, .null, .int 0, .int 0, .int 0, .null, .null, .null, .null, .null, .int 0, .int 0, .null, .int 0]), .inl (cA 0, 4544, .inl (fun _ => 0)), .inl (cA 0, 4544, .inl (fun _ => 0)), .inl (cA 0, 2820, .inl (fun _ => 0)), .inl (cA 0, 300, .inl (fun _ => 0)), .inl (cA 0, 160, .inl (fun _ => 0)), .inl (cA 0, 9, .inl (fun _ => 0)), .inl (cA 3, 330, .inr (.inl (fun _ => 0)))] H := hP
  refine W.widen (k := 7) (n := 12707) (Nat.le_of_ble_eq_true rfl) (Nat.le_of_ble_eq_true rfl) ?_
  refine zc_put0 (v := .ref (h + 7)) hx hb hts zy_co12 hown hK hP hS (Nat.le_refl _) 21 (by decide) (hts _ (zy_mem (zy_t6 (List.mem_of_getElem? (i := 25) (by decide +kernel))) rfl)) (Or.inl ⟨rfl, hin, rfl⟩) rfl rfl (Nat.le_of_ble_eq_true rfl) dX12_init_73 (fun H locs hP hS => ?_)
  have hP : zc_P D h [.inr (12, [.ref (h + 1), .ref (h + 2), .ref (h + 3), .ref (h + 4), .int 0, .int (-1), .int (-1), .int 0, .int 0, .int 0, .int 0, .long 0, .int 0, .int 0, .int 0, .ref (h + 5), .int 0, .int 0, .int 0, .int 0, .ref (h + 6), .ref (h + 7), .null, .int 0, .int 0, .int 0, .null, .null, .null, .null, .null, .int 0, .int 0, .null, .int 0]), .inl (cA 0, 4544, .inl (fun _ => 0)), .inl (cA 0, 4544, .inl (fun _ => 0)), .inl (cA 0, 2820, .inl (fun _ => 0)), .inl (cA 0, 300, .inl (fun _ => 0)), .inl (cA 0, 160, .inl (fun _ => 0)), .inl (cA 0, 9, .inl (fun _ => 0)), .inl (cA 3, 330, .inr (.inl (fun _ => 0)))] H := hP
  refine lv_aload_n hx hb dX12_init_76 rfl (lv_at hl 0 rfl) ?_
  refine lv_sipush (v := 330) hx hb dX12_init_77 (by decide) ?_
  refine zc_newa (atype := .boolean) (t := 2) (ty := .boolean) (a1 := .inl (fun _ => 0)) (N' := 330) hx hb (hts _ zu_a_boolean) rfl hK rfl (fun _ h => h) hP hS (fun _ => rfl) (by decide) (by decide) (by decide) (Nat.le_of_ble_eq_true rfl) (Nat.le_of_ble_eq_true rfl) dX12_init_80 (fun H hP hS => ?_)
  have hP : zc_P D h [.inr (12, [.ref (h + 1), .ref (h + 2), .ref (h + 3), .ref (h + 4), .int 0, .int (-1), .int (-1), .int 0, .int 0, .int 0, .int 0, .long 0, .int 0, .int 0, .int 0, .ref (h + 5), .int 0, .int 0, .int 0, .int 0, .ref (h + 6), .ref (h + 7), .null, .int 0, .int 0, .int 0, .null, .null, .null, .null, .null, .int 0, .int 0, .null, .int 0]), .inl (cA 0, 4544, .inl (fun _ => 0)), .inl (cA 0, 4544, .inl (fun _ => 0)), .inl (cA 0, 2820, .inl (fun _ => 0)), .inl (cA 0, 300, .inl (fun _ => 0)), .inl (cA 0, 160, .inl (fun _ => 0)), .inl (cA 0, 9, .inl (fun _ => 0)), .inl (cA 3, 330, .inr (.inl (fun _ => 0))), .inl (cA 2, 330, .inl (fun _ => 0))] H := hP
  refine W.widen (k := 8) (n := 13037) (Nat.le_of_ble_eq_true rfl) (Nat.le_of_ble_eq_true rfl) ?_
  refine zc_put0 (v := .ref (h + 8)) hx hb hts zy_co12 hown hK hP hS (Nat.le_refl _) 22 (by decide) (hts _ (zy_mem (zy_t6 (List.mem_of_getElem? (i := 26) (by decide +kernel))) rfl)) (Or.inl ⟨rfl, hin, rfl⟩) rfl rfl (Nat.le_of_ble_eq_true rfl) dX12_init_82 (fun H locs hP hS => ?_)
  have hP : zc_P D h [.inr (12, [.ref (h + 1), .ref (h + 2), .ref (h + 3), .ref (h + 4), .int 0, .int (-1), .int (-1), .int 0, .int 0, .int 0, .int 0, .long 0, .int 0, .int 0, .int 0, .ref (h + 5), .int 0, .int 0, .int 0, .int 0, .ref (h + 6), .ref (h + 7), .ref (h + 8), .int 0, .int 0, .int 0, .null, .null, .null, .null, .null, .int 0, .int 0, .null, .int 0]), .inl (cA 0, 4544, .inl (fun _ => 0)), .inl (cA 0, 4544, .inl (fun _ => 0)), .inl (cA 0, 2820, .inl (fun _ => 0)), .inl (cA 0, 300, .inl (fun _ => 0)), .inl (cA 0, 160, .inl (fun _ => 0)), .inl (cA 0, 9, .inl (fun _ => 0)), .inl (cA 3, 330, .inr (.inl (fun _ => 0))), .inl (cA 2, 330, .inl (fun _ => 0))] H := hP
  refine lv_aload_n hx hb dX12_init_85 rfl (lv_at hl 0 rfl) ?_
  refine lv_iconst (v := 1) hx hb dX12_init_86 (by decide) ?_
  refine zc_put0 (v := .int 1) hx hb hts zy_co12 hown hK hP hS (Nat.le_refl _) 23 (by decide) (hts _ (zy_mem (zy_t6 (List.mem_of_getElem? (i := 27) (by decide +kernel))) rfl)) (Or.inr rfl) rfl rfl (Nat.le_of_ble_eq_true rfl) dX12_init_87 (fun H locs hP hS => ?_)
  have hP : zc_P D h [.inr (12, [.ref (h + 1), .ref (h + 2), .ref (h + 3), .ref (h + 4), .int 0, .int (-1), .int (-1), .int 0, .int 0, .int 0, .int 0, .long 0, .int 0, .int 0, .int 0, .ref (h + 5), .int 0, .int 0, .int 0, .int 0, .ref (h + 6), .ref (h + 7), .ref (h + 8), .int 1, .int 0, .int 0, .null, .null, .null, .null, .null, .int 0, .int 0, .null, .int 0]), .inl (cA 0, 4544, .inl (fun _ => 0)), .inl (cA 0, 4544, .inl (fun _ => 0)), .inl (cA 0, 2820, .inl (fun _ => 0)), .inl (cA 0, 300, .inl (fun _ => 0)), .inl (cA 0, 160, .inl (fun _ => 0)), .inl (cA 0, 9, .inl (fun _ => 0)), .inl (cA 3, 330, .inr (.inl (fun _ => 0))), .inl (cA 2, 330, .inl (fun _ => 0))] H := hP
  refine lv_aload_n hx hb dX12_init_90 rfl (lv_at hl 0 rfl) ?_
  refine lv_bipush (v := 90) hx hb dX12_init_91 (by decide) ?_
  refine zc_newa (atype := .int) (t := 0) (ty := .int) (a1 := .inl (fun _ => 0)) (N' := 90) hx hb (hts _ zu_a_int) rfl hK rfl (fun _ h => h) hP hS (fun _ => rfl) (by decide) (by decide) (by decide) (Nat.le_of_ble_eq_true rfl) (Nat.le_of_ble_eq_true rfl) dX12_init_93 (fun H hP hS => ?_)
  have hP : zc_P D h [.inr (12, [.ref (h + 1), .ref (h + 2), .ref (h + 3), .ref (h + 4), .int 0, .int (-1), .int (-1), .int 0, .int 0, .int 0, .int 0, .long 0, .int 0, .int 0, .int 0, .ref (h + 5), .int 0, .int 0, .int 0, .int 0, .ref (h + 6), .ref (h + 7), .ref (h + 8), .int 1, .int 0, .int 0, .null, .null, .null, .null, .null, .int 0, .int 0, .null, .int 0]), .inl (cA 0, 4544, .inl (fun _ => 0)), .inl (cA 0, 4544, .inl (fun _ => 0)), .inl (cA 0, 2820, .inl (fun _ => 0)), .inl (cA 0, 300, .inl (fun _ => 0)), .inl (cA 0, 160, .inl (fun _ => 0)), .inl (cA 0, 9, .inl (fun _ => 0)), .inl (cA 3, 330, .inr (.inl (fun _ => 0))), .inl (cA 2, 330, .inl (fun _ => 0)), .inl (cA 0, 90, .inl (fun _ => 0))] H := hP
  refine W.widen (k := 9) (n := 13127) (Nat.le_of_ble_eq_true rfl) (Nat.le_of_ble_eq_true rfl) ?_
  refine zc_put0 (v := .ref (h + 9)) hx hb hts zy_co12 hown hK hP hS (Nat.le_refl _) 26 (by decide) (hts _ (zy_mem (zy_t6 (List.mem_of_getElem? (i := 30) (by decide +kernel))) rfl)) (Or.inl ⟨rfl, hin, rfl⟩) rfl rfl (Nat.le_of_ble_eq_true rfl) dX12_init_95 (fun H locs hP hS => ?_)
  have hP : zc_P D h [.inr (12, [.ref (h + 1), .ref (h + 2), .ref (h + 3), .ref (h + 4), .int 0, .int (-1), .int (-1), .int 0, .int 0, .int 0, .int 0, .long 0, .int 0, .int 0, .int 0, .ref (h + 5), .int 0, .int 0, .int 0, .int 0, .ref (h + 6), .ref (h + 7), .ref (h + 8), .int 1, .int 0, .int 0, .ref (h + 9), .null, .null, .null, .null, .int 0, .int 0, .null, .int 0]), .inl (cA 0, 4544, .inl (fun _ => 0)), .inl (cA 0, 4544, .inl (fun _ => 0)), .inl (cA 0, 2820, .inl (fun _ => 0)), .inl (cA 0, 300, .inl (fun _ => 0)), .inl (cA 0, 160, .inl (fun _ => 0)), .inl (cA 0, 9, .inl (fun _ => 0)), .inl (cA 3, 330, .inr (.inl (fun _ => 0))), .inl (cA 2, 330, .inl (fun _ => 0)), .inl (cA 0, 90, .inl (fun _ => 0))] H := hP
  refine lv_aload_n hx hb dX12_init_98 rfl (lv_at hl 0 rfl) ?_
  refine lv_bipush (v := 10) hx hb dX12_init_99 (by decide) ?_
  refine zc_newa (atype := .int) (t := 0) (ty := .int) (a1 := .inl (fun _ => 0)) (N' := 10) hx hb (hts _ zu_a_int) rfl hK rfl (fun _ h => h) hP hS (fun _ => rfl) (by decide) (by decide) (by decide) (Nat.le_of_ble_eq_true rfl) (Nat.le_of_ble_eq_true rfl) dX12_init_101 (fun H hP hS => ?_)
  have hP : zc_P D h [.inr (12, [.ref (h + 1), .ref (h + 2), .ref (h + 3), .ref (h + 4), .int 0, .int (-1), .int (-1), .int 0, .int 0, .int 0, .int 0, .long 0, .int 0, .int 0, .int 0, .ref (h + 5), .int 0, .int 0, .int 0, .int 0, .ref (h + 6), .ref (h + 7), .ref (h + 8), .int 1, .int 0, .int 0, .ref (h + 9), .null, .null, .null, .null, .int 0, .int 0, .null, .int 0]), .inl (cA 0, 4544, .inl (fun _ => 0)), .inl (cA 0, 4544, .inl (fun _ => 0)), .inl (cA 0, 2820, .inl (fun _ => 0)), .inl (cA 0, 300, .inl (fun _ => 0)), .inl (cA 0, 160, .inl (fun _ => 0)), .inl (cA 0, 9, .inl (fun _ => 0)), .inl (cA 3, 330, .inr (.inl (fun _ => 0))), .inl (cA 2, 330, .inl (fun _ => 0)), .inl (cA 0, 90, .inl (fun _ => 0)), .inl (cA 0, 10, .inl (fun _ => 0))] H := hP
  refine W.widen (k := 10) (n := 13137) (Nat.le_of_ble_eq_true rfl) (Nat.le_of_ble_eq_true rfl) ?_
  refine zc_put0 (v := .ref (h + 10)) hx hb hts zy_co12 hown hK hP hS (Nat.le_refl _) 27 (by decide) (hts _ (zy_mem (zy_t6 (List.mem_of_getElem? (i := 31) (by decide +kernel))) rfl)) (Or.inl ⟨rfl, hin, rfl⟩) rfl rfl (Nat.le_of_ble_eq_true rfl) dX12_init_103 (fun H locs hP hS => ?_)
  have hP : zc_P D h [.inr (12, [.ref (h + 1), .ref (h + 2), .ref (h + 3), .ref (h + 4), .int 0, .int (-1), .int (-1), .int 0, .int 0, .int 0, .int 0, .long 0, .int 0, .int 0, .int 0, .ref (h + 5), .int 0, .int 0, .int 0, .int 0, .ref (h + 6), .ref (h + 7), .ref (h + 8), .int 1, .int 0, .int 0, .ref (h + 9), .ref (h + 10), .null, .null, .null, .int 0, .int 0, .null, .int 0]), .inl (cA 0, 4544, .inl (fun _ => 0)), .inl (cA 0, 4544, .inl (fun _ => 0)), .inl (cA 0, 2820, .inl (fun _ => 0)), .inl (cA 0, 300, .inl (fun _ => 0)), .inl (cA 0, 160, .inl (fun _ => 0)), .inl (cA 0, 9, .inl (fun _ => 0)), .inl (cA 3, 330, .inr (.inl (fun _ => 0))), .inl (cA 2, 330, .inl (fun _ => 0)), .inl (cA 0, 90, .inl (fun _ => 0)), .inl (cA 0, 10, .inl (fun _ => 0))] H := hP
  refine lv_aload_n hx hb dX12_init_106 rfl (lv_at hl 0 rfl) ?_
  refine lv_bipush (v := 11) hx hb dX12_init_107 (by decide) ?_
  refine zc_newa (atype := .int) (t := 0) (ty := .int) (a1 := .inl (fun _ => 0)) (N' := 11) hx hb (hts _ zu_a_int) rfl hK rfl (fun _ h => h) hP hS (fun _ => rfl) (by decide) (by decide) (by decide) (Nat.le_of_ble_eq_true rfl) (Nat.le_of_ble_eq_true rfl) dX12_init_109 (fun H hP hS => ?_)
  have hP : zc_P D h [.inr (12, [.ref (h + 1), .ref (h + 2), .ref (h + 3), .ref (h + 4), .int 0, .int (-1), .int (-1), .int 0, .int 0, .int 0, .int 0, .long 0, .int 0, .int 0, .int 0, .ref (h + 5), .int 0, .int 0, .int 0, .int 0, .ref (h + 6), .ref (h + 7), .ref (h + 8), .int 1, .int 0, .int 0, .ref (h + 9), .ref (h + 10), .null, .null, .null, .int 0, .int 0, .null, .int 0]), .inl (cA 0, 4544, .inl (fun _ => 0)), .inl (cA 0, 4544, .inl (fun _ => 0)), .inl (cA 0, 2820, .inl (fun _ => 0)), .inl (cA 0, 300, .inl (fun _ => 0)), .inl (cA 0, 160, .inl (fun _ => 0)), .inl (cA 0, 9, .inl (fun _ => 0)), .inl (cA 3, 330, .inr (.inl (fun _ => 0))), .inl (cA 2, 330, .inl (fun _ => 0)), .inl (cA 0, 90, .inl (fun _ => 0)), .inl (cA 0, 10, .inl (fun _ => 0)), .inl (cA 0, 11, .inl (fun _ => 0))] H := hP
  refine W.widen (k := 11) (n := 13148) (Nat.le_of_ble_eq_true rfl) (Nat.le_of_ble_eq_true rfl) ?_
  refine zc_put0 (v := .ref (h + 11)) hx hb hts zy_co12 hown hK hP hS (Nat.le_refl _) 28 (by decide) (hts _ (zy_mem (zy_t6 (List.mem_of_getElem? (i := 32) (by decide +kernel))) rfl)) (Or.inl ⟨rfl, hin, rfl⟩) rfl rfl (Nat.le_of_ble_eq_true rfl) dX12_init_111 (fun H locs hP hS => ?_)
  have hP : zc_P D h [.inr (12, [.ref (h + 1), .ref (h + 2), .ref (h + 3), .ref (h + 4), .int 0, .int (-1), .int (-1), .int 0, .int 0, .int 0, .int 0, .long 0, .int 0, .int 0, .int 0, .ref (h + 5), .int 0, .int 0, .int 0, .int 0, .ref (h + 6), .ref (h + 7), .ref (h + 8), .int 1, .int 0, .int 0, .ref (h + 9), .ref (h + 10), .ref (h + 11), .null, .null, .int 0, .int 0, .null, .int 0]), .inl (cA 0, 4544, .inl (fun _ => 0)), .inl (cA 0, 4544, .inl (fun _ => 0)), .inl (cA 0, 2820, .inl (fun _ => 0)), .inl (cA 0, 300, .inl (fun _ => 0)), .inl (cA 0, 160, .inl (fun _ => 0)), .inl (cA 0, 9, .inl (fun _ => 0)), .inl (cA 3, 330, .inr (.inl (fun _ => 0))), .inl (cA 2, 330, .inl (fun _ => 0)), .inl (cA 0, 90, .inl (fun _ => 0)), .inl (cA 0, 10, .inl (fun _ => 0)), .inl (cA 0, 11, .inl (fun _ => 0))] H := hP
  refine lv_aload_n hx hb dX12_init_114 rfl (lv_at hl 0 rfl) ?_
  refine lv_bipush (v := 11) hx hb dX12_init_115 (by decide) ?_
  refine zc_newa (atype := .int) (t := 0) (ty := .int) (a1 := .inl (fun _ => 0)) (N' := 11) hx hb (hts _ zu_a_int) rfl hK rfl (fun _ h => h) hP hS (fun _ => rfl) (by decide) (by decide) (by decide) (Nat.le_of_ble_eq_true rfl) (Nat.le_of_ble_eq_true rfl) dX12_init_117 (fun H hP hS => ?_)
  have hP : zc_P D h [.inr (12, [.ref (h + 1), .ref (h + 2), .ref (h + 3), .ref (h + 4), .int 0, .int (-1), .int (-1), .int 0, .int 0, .int 0, .int 0, .long 0, .int 0, .int 0, .int 0, .ref (h + 5), .int 0, .int 0, .int 0, .int 0, .ref (h + 6), .ref (h + 7), .ref (h + 8), .int 1, .int 0, .int 0, .ref (h + 9), .ref (h + 10), .ref (h + 11), .null, .null, .int 0, .int 0, .null, .int 0]), .inl (cA 0, 4544, .inl (fun _ => 0)), .inl (cA 0, 4544, .inl (fun _ => 0)), .inl (cA 0, 2820, .inl (fun _ => 0)), .inl (cA 0, 300, .inl (fun _ => 0)), .inl (cA 0, 160, .inl (fun _ => 0)), .inl (cA 0, 9, .inl (fun _ => 0)), .inl (cA 3, 330, .inr (.inl (fun _ => 0))), .inl (cA 2, 330, .inl (fun _ => 0)), .inl (cA 0, 90, .inl (fun _ => 0)), .inl (cA 0, 10, .inl (fun _ => 0)), .inl (cA 0, 11, .inl (fun _ => 0)), .inl (cA 0, 11, .inl (fun _ => 0))] H := hP
  refine W.widen (k := 12) (n := 13159) (Nat.le_of_ble_eq_true rfl) (Nat.le_of_ble_eq_true rfl) ?_
  refine zc_put0 (v := .ref (h + 12)) hx hb hts zy_co12 hown hK hP hS (Nat.le_refl _) 29 (by decide) (hts _ (zy_mem (zy_t6 (List.mem_of_getElem? (i := 33) (by decide +kernel))) rfl)) (Or.inl ⟨rfl, hin, rfl⟩) rfl rfl (Nat.le_of_ble_eq_true rfl) dX12_init_119 (fun H locs hP hS => ?_)
  have hP : zc_P D h [.inr (12, [.ref (h + 1), .ref (h + 2), .ref (h + 3), .ref (h + 4), .int 0, .int (-1), .int (-1), .int 0, .int 0, .int 0, .int 0, .long 0, .int 0, .int 0, .int 0, .ref (h + 5), .int 0, .int 0, .int 0, .int 0, .ref (h + 6), .ref (h + 7), .ref (h + 8), .int 1, .int 0, .int 0, .ref (h + 9), .ref (h + 10), .ref (h + 11), .ref (h + 12), .null, .int 0, .int 0, .null, .int 0]), .inl (cA 0, 4544, .inl (fun _ => 0)), .inl (cA 0, 4544, .inl (fun _ => 0)), .inl (cA 0, 2820, .inl (fun _ => 0)), .inl (cA 0, 300, .inl (fun _ => 0)), .inl (cA 0, 160, .inl (fun _ => 0)), .inl (cA 0, 9, .inl (fun _ => 0)), .inl (cA 3, 330, .inr (.inl (fun _ => 0))), .inl (cA 2, 330, .inl (fun _ => 0)), .inl (cA 0, 90, .inl (fun _ => 0)), .inl (cA 0, 10, .inl (fun _ => 0)), .inl (cA 0, 11, .inl (fun _ => 0)), .inl (cA 0, 11, .inl (fun _ => 0))] H := hP
  refine lv_aload_n hx hb dX12_init_122 rfl (lv_at hl 0 rfl) ?_
  refine lv_bipush (v := 11) hx hb dX12_init_123 (by decide) ?_
  refine zc_newa (atype := .int) (t := 0) (ty := .int) (a1 := .inl (fun _ => 0)) (N' := 11) hx hb (hts _ zu_a_int) rfl hK rfl (fun _ h => h) hP hS (fun _ => rfl) (by decide) (by decide) (by decide) (Nat.le_of_ble_eq_true rfl) (Nat.le_of_ble_eq_true rfl) dX12_init_125 (fun H hP hS => ?_)
  have hP : zc_P D h [.inr (12, [.ref (h + 1), .ref (h + 2), .ref (h + 3), .ref (h + 4), .int 0, .int (-1), .int (-1), .int 0, .int 0, .int 0, .int 0, .long 0, .int 0, .int 0, .int 0, .ref (h + 5), .int 0, .int 0, .int 0, .int 0, .ref (h + 6), .ref (h + 7), .ref (h + 8), .int 1, .int 0, .int 0, .ref (h + 9), .ref (h + 10), .ref (h + 11), .ref (h + 12), .null, .int 0, .int 0, .null, .int 0]), .inl (cA 0, 4544, .inl (fun _ => 0)), .inl (cA 0, 4544, .inl (fun _ => 0)), .inl (cA 0, 2820, .inl (fun _ => 0)), .inl (cA 0, 300, .inl (fun _ => 0)), .inl (cA 0, 160, .inl (fun _ => 0)), .inl (cA 0, 9, .inl (fun _ => 0)), .inl (cA 3, 330, .inr (.inl (fun _ => 0))), .inl (cA 2, 330, .inl (fun _ => 0)), .inl (cA 0, 90, .inl (fun _ => 0)), .inl (cA 0, 10, .inl (fun _ => 0)), .inl (cA 0, 11, .inl (fun _ => 0)), .inl (cA 0, 11, .inl (fun _ => 0)), .inl (cA 0, 11, .inl (fun _ => 0))] H := hP
  refine W.widen (k := 13) (n := 13170) (Nat.le_of_ble_eq_true rfl) (Nat.le_of_ble_eq_true rfl) ?_
  refine zc_put0 (v := .ref (h + 13)) hx hb hts zy_co12 hown hK hP hS (Nat.le_refl _) 30 (by decide) (hts _ (zy_mem (zy_t6 (List.mem_of_getElem? (i := 34) (by decide +kernel))) rfl)) (Or.inl ⟨rfl, hin, rfl⟩) rfl rfl (Nat.le_of_ble_eq_true rfl) dX12_init_127 (fun H locs hP hS => ?_)
  have hP : zc_P D h [.inr (12, [.ref (h + 1), .ref (h + 2), .ref (h + 3), .ref (h + 4), .int 0, .int (-1), .int (-1), .int 0, .int 0, .int 0, .int 0, .long 0, .int 0, .int 0, .int 0, .ref (h + 5), .int 0, .int 0, .int 0, .int 0, .ref (h + 6), .ref (h + 7), .ref (h + 8), .int 1, .int 0, .int 0, .ref (h + 9), .ref (h + 10), .ref (h + 11), .ref (h + 12), .ref (h + 13), .int 0, .int 0, .null, .int 0]), .inl (cA 0, 4544, .inl (fun _ => 0)), .inl (cA 0, 4544, .inl (fun _ => 0)), .inl (cA 0, 2820, .inl (fun _ => 0)), .inl (cA 0, 300, .inl (fun _ => 0)), .inl (cA 0, 160, .inl (fun _ => 0)), .inl (cA 0, 9, .inl (fun _ => 0)), .inl (cA 3, 330, .inr (.inl (fun _ => 0))), .inl (cA 2, 330, .inl (fun _ => 0)), .inl (cA 0, 90, .inl (fun _ => 0)), .inl (cA 0, 10, .inl (fun _ => 0)), .inl (cA 0, 11, .inl (fun _ => 0)), .inl (cA 0, 11, .inl (fun _ => 0)), .inl (cA 0, 11, .inl (fun _ => 0))] H := hP
  refine lv_aload_n hx hb dX12_init_130 rfl (lv_at hl 0 rfl) ?_
  refine lv_bipush (v := 8) hx hb dX12_init_131 (by decide) ?_
  refine zc_newa (atype := .int) (t := 0) (ty := .int) (a1 := .inl (fun _ => 0)) (N' := 8) hx hb (hts _ zu_a_int) rfl hK rfl (fun _ h => h) hP hS (fun _ => rfl) (by decide) (by decide) (by decide) (Nat.le_of_ble_eq_true rfl) (Nat.le_of_ble_eq_true rfl) dX12_init_133 (fun H hP hS => ?_)
  have hP : zc_P D h [.inr (12, [.ref (h + 1), .ref (h + 2), .ref (h + 3), .ref (h + 4), .int 0, .int (-1), .int (-1), .int 0, .int 0, .int 0, .int 0, .long 0, .int 0, .int 0, .int 0, .ref (h + 5), .int 0, .int 0, .int 0, .int 0, .ref (h + 6), .ref (h + 7), .ref (h + 8), .int 1, .int 0, .int 0, .ref (h + 9), .ref (h + 10), .ref (h + 11), .ref (h + 12), .ref (h + 13), .int 0, .int 0, .null, .int 0]), .inl (cA 0, 4544, .inl (fun _ => 0)), .inl (cA 0, 4544, .inl (fun _ => 0)), .inl (cA 0, 2820, .inl (fun _ => 0)), .inl (cA 0, 300, .inl (fun _ => 0)), .inl (cA 0, 160, .inl (fun _ => 0)), .inl (cA 0, 9, .inl (fun _ => 0)), .inl (cA 3, 330, .inr (.inl (fun _ => 0))), .inl (cA 2, 330, .inl (fun _ => 0)), .inl (cA 0, 90, .inl (fun _ => 0)), .inl (cA 0, 10, .inl (fun _ => 0)), .inl (cA 0, 11, .inl (fun _ => 0)), .inl (cA 0, 11, .inl (fun _ => 0)), .inl (cA 0, 11, .inl (fun _ => 0)), .inl (cA 0, 8, .inl (fun _ => 0))] H := hP
  refine W.widen (k := 14) (n := 13178) (Nat.le_of_ble_eq_true rfl) (Nat.le_of_ble_eq_true rfl) ?_
  refine zc_put0 (v := .ref (h + 14)) hx hb hts zy_co12 hown hK hP hS (Nat.le_refl _) 33 (by decide) (hts _ (zy_mem (zy_t6 (List.mem_of_getElem? (i := 37) (by decide +kernel))) rfl)) (Or.inl ⟨rfl, hin, rfl⟩) rfl rfl (Nat.le_of_ble_eq_true rfl) dX12_init_135 (fun H locs hP hS => ?_)
  have hP : zc_P D h [.inr (12, [.ref (h + 1), .ref (h + 2), .ref (h + 3), .ref (h + 4), .int 0, .int (-1), .int (-1), .int 0, .int 0, .int 0, .int 0, .long 0, .int 0, .int 0, .int 0, .ref (h + 5), .int 0, .int 0, .int 0, .int 0, .ref (h + 6), .ref (h + 7), .ref (h + 8), .int 1, .int 0, .int 0, .ref (h + 9), .ref (h + 10), .ref (h + 11), .ref (h + 12), .ref (h + 13), .int 0, .int 0, .ref (h + 14), .int 0]), .inl (cA 0, 4544, .inl (fun _ => 0)), .inl (cA 0, 4544, .inl (fun _ => 0)), .inl (cA 0, 2820, .inl (fun _ => 0)), .inl (cA 0, 300, .inl (fun _ => 0)), .inl (cA 0, 160, .inl (fun _ => 0)), .inl (cA 0, 9, .inl (fun _ => 0)), .inl (cA 3, 330, .inr (.inl (fun _ => 0))), .inl (cA 2, 330, .inl (fun _ => 0)), .inl (cA 0, 90, .inl (fun _ => 0)), .inl (cA 0, 10, .inl (fun _ => 0)), .inl (cA 0, 11, .inl (fun _ => 0)), .inl (cA 0, 11, .inl (fun _ => 0)), .inl (cA 0, 11, .inl (fun _ => 0)), .inl (cA 0, 8, .inl (fun _ => 0))] H := hP
  have hP : zc_P D h (zu_m15 cA (fun _ => 0) (fun _ => 0) h) H := hP
  refine lv_aload_n hx hb dX12_init_138 rfl (lv_at hl 0 rfl) ?_
  refine va_get (D := D) (ci := 12) (v := .ref (h + 1)) (C := RX12) (T := TX12) (N := 35) hx hb hts zy_in12 hown hK hP.2 0 rfl rfl 0 (by decide) (hts _ (zy_mem (zy_t6 (List.mem_of_getElem? (i := 4) (by decide +kernel))) rfl)) (fun _ h9 => h9) rfl dX12_init_139 ?_
  refine lv_bipush (v := 7) hx hb dX12_init_142 (by decide) ?_
  refine lv_sipush (v := 181) hx hb dX12_init_144 (by decide) ?_
  refine zc_iast (q0 := 1) (t0 := 0) (f := fun _ => 0) (n := 4544) hx hb hK hP hS (Nat.le_refl _) rfl rfl (vp_in_nI (n := 7) (by decide) (by decide)) dX12_init_147 (fun H locs hP hS => ?_)
  have hP : zc_P D h (zu_m15 cA (upd (fun _ => 0) 7 181) (fun _ => 0) h) H := hP
  refine lv_aload_n hx hb dX12_init_148 rfl (lv_at hl 0 rfl) ?_
  refine va_get (D := D) (ci := 12) (v := .ref (h + 1)) (C := RX12) (T := TX12) (N := 35) hx hb hts zy_in12 hown hK hP.2 0 rfl rfl 0 (by decide) (hts _ (zy_mem (zy_t6 (List.mem_of_getElem? (i := 4) (by decide +kernel))) rfl)) (fun _ h9 => h9) rfl dX12_init_149 ?_
  refine lv_iconst (v := 2) hx hb dX12_init_152 (by decide) ?_
  refine lv_iconst (v := -1) hx hb dX12_init_153 (by decide) ?_
  refine zc_iast (q0 := 1) (t0 := 0) (f := upd (fun _ => 0) 7 181) (n := 4544) hx hb hK hP hS (Nat.le_refl _) rfl rfl (vp_in_nI (n := 2) (by decide) (by decide)) dX12_init_154 (fun H locs hP hS => ?_)
  have hP : zc_P D h (zu_m15 cA (upd (upd (fun _ => 0) 7 181) 2 (-1)) (fun _ => 0) h) H := hP
  rw [zu_fa_0] at hP
  refine lv_iconst (v := 0) hx hb dX12_init_155 (by decide) ?_
  refine lv_istore_n hx hb dX12_init_156 rfl hl (by decide) rfl (fun ls2 hl2 => ?_)
  exact loop 10 0 ls2 H locs rfl hl2 hP hS
