/-! ===== printed: the constructors that make arrays alone ===== -/
def zu_t7 (cA : Nat → ClassId) (h : Nat) : List va_E := [.inr (7, [.int 0, .ref (h + 1), .ref (h + 2), .ref (h + 3), .ref (h + 4), .ref (h + 5)]), .inl (cA 0, 10, .inl (fun _ => 0)), .inl (cA 0, 10, .inl (fun _ => 0)), .inl (cA 0, 10, .inl (fun _ => 0)), .inl (cA 0, 10, .inl (fun _ => 0)), .inl (cA 0, 10, .inl (fun _ => 0))]
set_option maxRecDepth 20000 in
theorem zu_t7_ok (b0 sw : Nat) (l : Launch) (D : va_G) (cA : Nat → ClassId) (h : Nat) : zc_M b0 sw l D cA 1 5 50 yX7_init cX7_init 1 [] h (.inr (7, zu_d7)) (zu_t7 cA h) := by
  refine zc_met (by decide) (Nat.le_of_ble_eq_true rfl) ?_
  rintro p e s m below meth c ls ⟨hx, hb, hml, hown, hts, hr, hlk⟩ hin hP hK hb0 hN hl
  have hl : lv_has ls 1 [(0, .ref h)] := hl
  have hS : va_S (fun q => h ≤ q) s.heap s.heap [] := va_S.rf
  refine lv_aload_n hx hb dX7_init_0 rfl (lv_at hl 0 rfl) ?_
  refine W.objInit hx hb hown (hts _ zu_o7) (hts _ zu_oi) (hts _ zu_oc) rfl (by rw [hml]; exact hl.1) rfl dX7_init_1 (Nat.le_of_ble_eq_true rfl) (Nat.le_of_ble_eq_true rfl) ?_
  refine W.eq (g2 := F0 m 4 ls []) rfl ?_
  refine lv_aload_n hx hb dX7_init_4 rfl (lv_at hl 0 rfl) ?_
  refine lv_iconst (v := 0) hx hb dX7_init_5 (by decide) ?_
  refine zc_put0 (v := .int 0) hx hb hts zy_co7 hown hK hP hS (Nat.le_refl _) 0 (by decide) (hts _ (zy_mem (zy_t1 (List.mem_of_getElem? (i := 42) (by decide +kernel))) rfl)) (Or.inr rfl) rfl rfl (Nat.le_of_ble_eq_true rfl) dX7_init_6 (fun H locs hP hS => ?_)
  have hP : zc_P D h [.inr (7, [.int 0, .null, .null, .null, .null, .null])] H := hP
  refine lv_aload_n hx hb dX7_init_9 rfl (lv_at hl 0 rfl) ?_
  refine lv_bipush (v := 10) hx hb dX7_init_10 (by decide) ?_
  refine zc_newa (atype := .int) (t := 0) (ty := .int) (a1 := .inl (fun _ => 0)) (N' := 10) hx hb (hts _ zu_a_int) rfl hK rfl (fun _ h => h) hP hS (fun _ => rfl) (by decide) (by decide) (by decide) (Nat.le_of_ble_eq_true rfl) (Nat.le_of_ble_eq_true rfl) dX7_init_12 (fun H hP hS => ?_)
  have hP : zc_P D h [.inr (7, [.int 0, .null, .null, .null, .null, .null]), .inl (cA 0, 10, .inl (fun _ => 0))] H := hP
  refine W.widen (k := 1) (n := 10) (Nat.le_of_ble_eq_true rfl) (Nat.le_of_ble_eq_true rfl) ?_
  refine zc_put0 (v := .ref (h + 1)) hx hb hts zy_co7 hown hK hP hS (Nat.le_refl _) 1 (by decide) (hts _ (zy_mem (zy_t1 (List.mem_of_getElem? (i := 46) (by decide +kernel))) rfl)) (Or.inl ⟨rfl, hin, rfl⟩) rfl rfl (Nat.le_of_ble_eq_true rfl) dX7_init_14 (fun H locs hP hS => ?_)
  have hP : zc_P D h [.inr (7, [.int 0, .ref (h + 1), .null, .null, .null, .null]), .inl (cA 0, 10, .inl (fun _ => 0))] H := hP
  refine lv_aload_n hx hb dX7_init_17 rfl (lv_at hl 0 rfl) ?_
  refine lv_bipush (v := 10) hx hb dX7_init_18 (by decide) ?_
  refine zc_newa (atype := .int) (t := 0) (ty := .int) (a1 := .inl (fun _ => 0)) (N' := 10) hx hb (hts _ zu_a_int) rfl hK rfl (fun _ h => h) hP hS (fun _ => rfl) (by decide) (by decide) (by decide) (Nat.le_of_ble_eq_true rfl) (Nat.le_of_ble_eq_true rfl) dX7_init_20 (fun H hP hS => ?_)
  have hP : zc_P D h [.inr (7, [.int 0, .ref (h + 1), .null, .null, .null, .null]), .inl (cA 0, 10, .inl (fun _ => 0)), .inl (cA 0, 10, .inl (fun _ => 0))] H := hP
  refine W.widen (k := 2) (n := 20) (Nat.le_of_ble_eq_true rfl) (Nat.le_of_ble_eq_true rfl) ?_
  refine zc_put0 (v := .ref (h + 2)) hx hb hts zy_co7 hown hK hP hS (Nat.le_refl _) 2 (by decide) (hts _ (zy_mem (zy_t1 (List.mem_of_getElem? (i := 51) (by decide +kernel))) rfl)) (Or.inl ⟨rfl, hin, rfl⟩) rfl rfl (Nat.le_of_ble_eq_true rfl) dX7_init_22 (fun H locs hP hS => ?_)
  have hP : zc_P D h [.inr (7, [.int 0, .ref (h + 1), .ref (h + 2), .null, .null, .null]), .inl (cA 0, 10, .inl (fun _ => 0)), .inl (cA 0, 10, .inl (fun _ => 0))] H := hP
  refine lv_aload_n hx hb dX7_init_25 rfl (lv_at hl 0 rfl) ?_
  refine lv_bipush (v := 10) hx hb dX7_init_26 (by decide) ?_
  refine zc_newa (atype := .int) (t := 0) (ty := .int) (a1 := .inl (fun _ => 0)) (N' := 10) hx hb (hts _ zu_a_int) rfl hK rfl (fun _ h => h) hP hS (fun _ => rfl) (by decide) (by decide) (by decide) (Nat.le_of_ble_eq_true rfl) (Nat.le_of_ble_eq_true rfl) dX7_init_28 (fun H hP hS => ?_)
  have hP : zc_P D h [.inr (7, [.int 0, .ref (h + 1), .ref (h + 2), .null, .null, .null]), .inl (cA 0, 10, .inl (fun _ => 0)), .inl (cA 0, 10, .inl (fun _ => 0)), .inl (cA 0, 10, .inl (fun _ => 0))] H := hP
  refine W.widen (k := 3) (n := 30) (Nat.le_of_ble_eq_true rfl) (Nat.le_of_ble_eq_true rfl) ?_
  refine zc_put0 (v := .ref (h + 3)) hx hb hts zy_co7 hown hK hP hS (Nat.le_refl _) 3 (by decide) (hts _ (zy_mem (zy_t1 (List.mem_of_getElem? (i := 55) (by decide +kernel))) rfl)) (Or.inl ⟨rfl, hin, rfl⟩) rfl rfl (Nat.le_of_ble_eq_true rfl) dX7_init_30 (fun H locs hP hS => ?_)
  have hP : zc_P D h [.inr (7, [.int 0, .ref (h + 1), .ref (h + 2), .ref (h + 3), .null, .null]), .inl (cA 0, 10, .inl (fun _ => 0)), .inl (cA 0, 10, .inl (fun _ => 0)), .inl (cA 0, 10, .inl (fun _ => 0))] H := hP
  refine lv_aload_n hx hb dX7_init_33 rfl (lv_at hl 0 rfl) ?_
  refine lv_bipush (v := 10) hx hb dX7_init_34 (by decide) ?_
  refine zc_newa (atype := .int) (t := 0) (ty := .int) (a1 := .inl (fun _ => 0)) (N' := 10) hx hb (hts _ zu_a_int) rfl hK rfl (fun _ h => h) hP hS (fun _ => rfl) (by decide) (by decide) (by decide) (Nat.le_of_ble_eq_true rfl) (Nat.le_of_ble_eq_true rfl) dX7_init_36 (fun H hP hS => ?_)
  have hP : zc_P D h [.inr (7, [.int 0, .ref (h + 1), .ref (h + 2), .ref (h + 3), .null, .null]), .inl (cA 0, 10, .inl (fun _ => 0)), .inl (cA 0, 10, .inl (fun _ => 0)), .inl (cA 0, 10, .inl (fun _ => 0)), .inl (cA 0, 10, .inl (fun _ => 0))] H := hP
  refine W.widen (k := 4) (n := 40) (Nat.le_of_ble_eq_true rfl) (Nat.le_of_ble_eq_true rfl) ?_
  refine zc_put0 (v := .ref (h + 4)) hx hb hts zy_co7 hown hK hP hS (Nat.le_refl _) 4 (by decide) (hts _ (zy_mem (zy_t1 (List.mem_of_getElem? (i := 58) (by decide +kernel))) rfl)) (Or.inl ⟨rfl, hin, rfl⟩) rfl rfl (Nat.le_of_ble_eq_true rfl) dX7_init_38 (fun H locs hP hS => ?_)
  have hP : zc_P D h [.inr (7, [.int 0, .ref (h + 1), .ref (h + 2), .ref (h + 3), .ref (h + 4), .null]), .inl (cA 0, 10, .inl (fun _ => 0)), .inl (cA 0, 10, .inl (fun _ => 0)), .inl (cA 0, 10, .inl (fun _ => 0)), .inl (cA 0, 10, .inl (fun _ => 0))] H := hP
  refine lv_aload_n hx hb dX7_init_41 rfl (lv_at hl 0 rfl) ?_
  refine lv_bipush (v := 10) hx hb dX7_init_42 (by decide) ?_
  refine zc_newa (atype := .int) (t := 0) (ty := .int) (a1 := .inl (fun _ => 0)) (N' := 10) hx hb (hts _ zu_a_int) rfl hK rfl (fun _ h => h) hP hS (fun _ => rfl) (by decide) (by decide) (by decide) (Nat.le_of_ble_eq_true rfl) (Nat.le_of_ble_eq_true rfl) dX7_init_44 (fun H hP hS => ?_)
  have hP : zc_P D h [.inr (7, [.int 0, .ref (h + 1), .ref (h + 2), .ref (h + 3), .ref (h + 4), .null]), .inl (cA 0, 10, .inl (fun _ => 0)), .inl (cA 0, 10, .inl (fun _ => 0)), .inl (cA 0, 10, .inl (fun _ => 0)), .inl (cA 0, 10, .inl (fun _ => 0)), .inl (cA 0, 10, .inl (fun _ => 0))] H := hP
  refine W.widen (k := 5) (n := 50) (Nat.le_of_ble_eq_true rfl) (Nat.le_of_ble_eq_true rfl) ?_
  refine zc_put0 (v := .ref (h + 5)) hx hb hts zy_co7 hown hK hP hS (Nat.le_refl _) 5 (by decide) (hts _ (zy_mem (zy_t1 (List.mem_of_getElem? (i := 60) (by decide +kernel))) rfl)) (Or.inl ⟨rfl, hin, rfl⟩) rfl rfl (Nat.le_of_ble_eq_true rfl) dX7_init_46 (fun H locs hP hS => ?_)
  have hP : zc_P D h [.inr (7, [.int 0, .ref (h + 1), .ref (h + 2), .ref (h + 3), .ref (h + 4), .ref (h + 5)]), .inl (cA 0, 10, .inl (fun _ => 0)), .inl (cA 0, 10, .inl (fun _ => 0)), .inl (cA 0, 10, .inl (fun _ => 0)), .inl (cA 0, 10, .inl (fun _ => 0)), .inl (cA 0, 10, .inl (fun _ => 0))] H := hP
  exact W.vret hx hb hr (fun t ht hW => ⟨rfl, by rw [ht]; exact hP, hS.F ht⟩) hS.2.2 dX7_init_49 hlk
def zu_t10 (cA : Nat → ClassId) (h : Nat) : List va_E := [.inr (10, [.int 0, .int 181, .int 0, .ref (h + 1), .ref (h + 2), .ref (h + 3), .ref (h + 4), .ref (h + 5), .ref (h + 6), .ref (h + 7), .ref (h + 8), .int 0, .ref (h + 9)]), .inl (cA 0, 10, .inl (fun _ => 0)), .inl (cA 0, 10, .inl (fun _ => 0)), .inl (cA 0, 10, .inl (fun _ => 0)), .inl (cA 0, 10, .inl (fun _ => 0)), .inl (cA 0, 10, .inl (fun _ => 0)), .inl (cA 0, 10, .inl (fun _ => 0)), .inl (cA 0, 10, .inl (fun _ => 0)), .inl (cA 0, 10, .inl (fun _ => 0)), .inl (cA 0, 120, .inl (fun _ => 0))]
set_option maxRecDepth 20000 in
theorem zu_t10_ok (b0 sw : Nat) (l : Launch) (D : va_G) (cA : Nat → ClassId) (h : Nat) : zc_M b0 sw l D cA 1 9 200 yX10_init cX10_init 1 [] h (.inr (10, zu_d10)) (zu_t10 cA h) := by
  refine zc_met (by decide) (Nat.le_of_ble_eq_true rfl) ?_
  rintro p e s m below meth c ls ⟨hx, hb, hml, hown, hts, hr, hlk⟩ hin hP hK hb0 hN hl
  have hl : lv_has ls 1 [(0, .ref h)] := hl
  have hS : va_S (fun q => h ≤ q) s.heap s.heap [] := va_S.rf
  refine lv_aload_n hx hb dX10_init_0 rfl (lv_at hl 0 rfl) ?_
  refine W.objInit hx hb hown (hts _ zu_o10) (hts _ zu_oi) (hts _ zu_oc) rfl (by rw [hml]; exact hl.1) rfl dX10_init_1 (Nat.le_of_ble_eq_true rfl) (Nat.le_of_ble_eq_true rfl) ?_
  refine W.eq (g2 := F0 m 4 ls []) rfl ?_
  refine lv_aload_n hx hb dX10_init_4 rfl (lv_at hl 0 rfl) ?_
  refine lv_iconst (v := 0) hx hb dX10_init_5 (by decide) ?_
  refine zc_put0 (v := .int 0) hx hb hts zy_co10 hown hK hP hS (Nat.le_refl _) 0 (by decide) (hts _ (zy_mem (zy_t1 (List.mem_of_getElem? (i := 83) (by decide +kernel))) rfl)) (Or.inr rfl) rfl rfl (Nat.le_of_ble_eq_true rfl) dX10_init_6 (fun H locs hP hS => ?_)
  have hP : zc_P D h [.inr (10, [.int 0, .int 0, .int 0, .null, .null, .null, .null, .null, .null, .null, .null, .int 0, .null])] H := hP
  refine lv_aload_n hx hb dX10_init_9 rfl (lv_at hl 0 rfl) ?_
  refine lv_sipush (v := 181) hx hb dX10_init_10 (by decide) ?_
  refine zc_put0 (v := .int 181) hx hb hts zy_co10 hown hK hP hS (Nat.le_refl _) 1 (by decide) (hts _ (zy_mem (zy_t1 (List.mem_of_getElem? (i := 86) (by decide +kernel))) rfl)) (Or.inr rfl) rfl rfl (Nat.le_of_ble_eq_true rfl) dX10_init_13 (fun H locs hP hS => ?_)
  have hP : zc_P D h [.inr (10, [.int 0, .int 181, .int 0, .null, .null, .null, .null, .null, .null, .null, .null, .int 0, .null])] H := hP
  refine lv_aload_n hx hb dX10_init_16 rfl (lv_at hl 0 rfl) ?_
  refine lv_iconst (v := 0) hx hb dX10_init_17 (by decide) ?_
  refine zc_put0 (v := .int 0) hx hb hts zy_co10 hown hK hP hS (Nat.le_refl _) 2 (by decide) (hts _ (zy_mem (zy_t1 (List.mem_of_getElem? (i := 88) (by decide +kernel))) rfl)) (Or.inr rfl) rfl rfl (Nat.le_of_ble_eq_true rfl) dX10_init_18 (fun H locs hP hS => ?_)
  have hP : zc_P D h [.inr (10, [.int 0, .int 181, .int 0, .null, .null, .null, .null, .null, .null, .null, .null, .int 0, .null])] H := hP
  refine lv_aload_n hx hb dX10_init_21 rfl (lv_at hl 0 rfl) ?_
  refine lv_bipush (v := 10) hx hb dX10_init_22 (by decide) ?_
  refine zc_newa (atype := .int) (t := 0) (ty := .int) (a1 := .inl (fun _ => 0)) (N' := 10) hx hb (hts _ zu_a_int) rfl hK rfl (fun _ h => h) hP hS (fun _ => rfl) (by decide) (by decide) (by decide) (Nat.le_of_ble_eq_true rfl) (Nat.le_of_ble_eq_true rfl) dX10_init_24 (fun H hP hS => ?_)
  have hP : zc_P D h [.inr (10, [.int 0, .int 181, .int 0, .null, .null, .null, .null, .null, .null, .null, .null, .int 0, .null]), .inl (cA 0, 10, .inl (fun _ => 0))] H := hP
  refine W.widen (k := 1) (n := 10) (Nat.le_of_ble_eq_true rfl) (Nat.le_of_ble_eq_true rfl) ?_
  refine zc_put0 (v := .ref (h + 1)) hx hb hts zy_co10 hown hK hP hS (Nat.le_refl _) 3 (by decide) (hts _ (zy_mem (zy_t1 (List.mem_of_getElem? (i := 91) (by decide +kernel))) rfl)) (Or.inl ⟨rfl, hin, rfl⟩) rfl rfl (Nat.le_of_ble_eq_true rfl) dX10_init_26 (fun H locs hP hS => ?_)
  have hP : zc_P D h [.inr (10, [.int 0, .int 181, .int 0, .ref (h + 1), .null, .null, .null, .null, .null, .null, .null, .int 0, .null]), .inl (cA 0, 10, .inl (fun _ => 0))] H := hP
  refine lv_aload_n hx hb dX10_init_29 rfl (lv_at hl 0 rfl) ?_
  refine lv_bipush (v := 10) hx hb dX10_init_30 (by decide) ?_
  refine zc_newa (atype := .int) (t := 0) (ty := .int) (a1 := .inl (fun _ => 0)) (N' := 10) hx hb (hts _ zu_a_int) rfl hK rfl (fun _ h => h) hP hS (fun _ => rfl) (by decide) (by decide) (by decide) (Nat.le_of_ble_eq_true rfl) (Nat.le_of_ble_eq_true rfl) dX10_init_32 (fun H hP hS => ?_)
  have hP : zc_P D h [.inr (10, [.int 0, .int 181, .int 0, .ref (h + 1), .null, .null, .null, .null, .null, .null, .null, .int 0, .null]), .inl (cA 0, 10, .inl (fun _ => 0)), .inl (cA 0, 10, .inl (fun _ => 0))] H := hP
  refine W.widen (k := 2) (n := 20) (Nat.le_of_ble_eq_true rfl) (Nat.le_of_ble_eq_true rfl) ?_
  refine zc_put0 (v := .ref (h + 2)) hx hb hts zy_co10 hown hK hP hS (Nat.le_refl _) 4 (by decide) (hts _ (zy_mem (zy_t1 (List.mem_of_getElem? (i := 94) (by decide +kernel))) rfl)) (Or.inl ⟨rfl, hin, rfl⟩) rfl rfl (Nat.le_of_ble_eq_true rfl) dX10_init_34 (fun H locs hP hS => ?_)
  have hP : zc_P D h [.inr (10, [.int 0, .int 181, .int 0, .ref (h + 1), .ref (h + 2), .null, .null, .null, .null, .null, .null, .int 0, .null]), .inl (cA 0, 10, .inl (fun _ => 0)), .inl (cA 0, 10, .inl (fun _ => 0))] H := hP
  refine lv_aload_n hx hb dX10_init_37 rfl (lv_at hl 0 rfl) ?_
  refine lv_bipush (v := 10) hx hb dX10_init_38 (by decide) ?_
  refine zc_newa (atype := .int) (t := 0) (ty := .int) (a1 := .inl (fun _ => 0)) (N' := 10) hx hb (hts _ zu_a_int) rfl hK rfl (fun _ h => h) hP hS (fun _ => rfl) (by decide) (by decide) (by decide) (Nat.le_of_ble_eq_true rfl) (Nat.le_of_ble_eq_true rfl) dX10_init_40 (fun H hP hS => ?_)
  have hP : zc_P D h [.inr (10, [.int 0, .int 181, .int 0, .ref (h + 1), .ref (h + 2), .null, .null, .null, .null, .null, .null, .int 0, .null]), .inl (cA 0, 10, .inl (fun _ => 0)), .inl (cA 0, 10, .inl (fun _ => 0)), .inl (cA 0, 10, .inl (fun _ => 0))] H := hP
  refine W.widen (k := 3) (n := 30) (Nat.le_of_ble_eq_true rfl) (Nat.le_of_ble_eq_true rfl) ?_
  refine zc_put0 (v := .ref (h + 3)) hx hb hts zy_co10 hown hK hP hS (Nat.le_refl _) 5 (by decide) (hts _ (zy_mem (zy_t1 (List.mem_of_getElem? (i := 97) (by decide +kernel))) rfl)) (Or.inl ⟨rfl, hin, rfl⟩) rfl rfl (Nat.le_of_ble_eq_true rfl) dX10_init_42 (fun H locs hP hS => ?_)
  have hP : zc_P D h [.inr (10, [.int 0, .int 181, .int 0, .ref (h + 1), .ref (h + 2), .ref (h + 3), .null, .null, .null, .null, .null, .int 0, .null]), .inl (cA 0, 10, .inl (fun _ => 0)), .inl (cA 0, 10, .inl (fun _ => 0)), .inl (cA 0, 10, .inl (fun _ => 0))] H := hP
  refine lv_aload_n hx hb dX10_init_45 rfl (lv_at hl 0 rfl) ?_
  refine lv_bipush (v := 10) hx hb dX10_init_46 (by decide) ?_
  refine zc_newa (atype := .int) (t := 0) (ty := .int) (a1 := .inl (fun _ => 0)) (N' := 10) hx hb (hts _ zu_a_int) rfl hK rfl (fun _ h => h) hP hS (fun _ => rfl) (by decide) (by decide) (by decide) (Nat.le_of_ble_eq_true rfl) (Nat.le_of_ble_eq_true rfl) dX10_init_48 (fun H hP hS => ?_)
  have hP : zc_P D h [.inr (10, [.int 0, .int 181, .int 0, .ref (h + 1), .ref (h + 2), .ref (h + 3), .null, .null, .null, .null, .null, .int 0, .null]), .inl (cA 0, 10, .inl (fun _ => 0)), .inl (cA 0, 10, .inl (fun _ => 0)), .inl (cA 0, 10, .inl (fun _ => 0)), .inl (cA 0, 10, .inl (fun _ => 0))] H := hP
  refine W.widen (k := 4) (n := 40) (Nat.le_of_ble_eq_true rfl) (Nat.le_of_ble_eq_true rfl) ?_
  refine zc_put0 (v := .ref (h + 4)) hx hb hts zy_co10 hown hK hP hS (Nat.le_refl _) 6 (by decide) (hts _ (zy_mem (zy_t1 (List.mem_of_getElem? (i := 100) (by decide +kernel))) rfl)) (Or.inl ⟨rfl, hin, rfl⟩) rfl rfl (Nat.le_of_ble_eq_true rfl) dX10_init_50 (fun H locs hP hS => ?_)
  have hP : zc_P D h [.inr (10, [.int 0, .int 181, .int 0, .ref (h + 1), .ref (h + 2), .ref (h + 3), .ref (h + 4), .null, .null, .null, .null, .int 0, .null]), .inl (cA 0, 10, .inl (fun _ => 0)), .inl (cA 0, 10, .inl (fun _ => 0)), .inl (cA 0, 10, .inl (fun _ => 0)), .inl (cA 0, 10, .inl (fun _ => 0))] H := hP
  refine lv_aload_n hx hb dX10_init_53 rfl (lv_at hl 0 rfl) ?_
  refine lv_bipush (v := 10) hx hb dX10_init_54 (by decide) ?_
  refine zc_newa (atype := .int) (t := 0) (ty := .int) (a1 := .inl (fun _ => 0)) (N' := 10) hx hb (hts _ zu_a_int) rfl hK rfl (fun _ h => h) hP hS (fun _ => rfl) (by decide) (by decide) (by decide) (Nat.le_of_ble_eq_true rfl) (Nat.le_of_ble_eq_true rfl) dX10_init_56 (fun H hP hS => ?_)
  have hP : zc_P D h [.inr (10, [.int 0, .int 181, .int 0, .ref (h + 1), .ref (h + 2), .ref (h + 3), .ref (h + 4), .null, .null, .null, .null, .int 0, .null]), .inl (cA 0, 10, .inl (fun _ => 0)), .inl (cA 0, 10, .inl (fun _ => 0)), .inl (cA 0, 10, .inl (fun _ => 0)), .inl (cA 0, 10, .inl (fun _ => 0)), .inl (cA 0, 10, .inl (fun _ => 0))] H := hP
  refine W.widen (k := 5) (n := 50) (Nat.le_of_ble_eq_true rfl) (Nat.le_of_ble_eq_true rfl) ?_
  refine zc_put0 (v := .ref (h + 5)) hx hb hts zy_co10 hown hK hP hS (Nat.le_refl _) 7 (by decide) (hts _ (zy_mem (zy_t1 (List.mem_of_getElem? (i := 103) (by decide +kernel))) rfl)) (Or.inl ⟨rfl, hin, rfl⟩) rfl rfl (Nat.le_of_ble_eq_true rfl) dX10_init_58 (fun H locs hP hS => ?_)
  have hP : zc_P D h [.inr (10, [.int 0, .int 181, .int 0, .ref (h + 1), .ref (h + 2), .ref (h + 3), .ref (h + 4), .ref (h + 5), .null, .null, .null, .int 0, .null]), .inl (cA 0, 10, .inl (fun _ => 0)), .inl (cA 0, 10, .inl (fun _ => 0)), .inl (cA 0, 10, .inl (fun _ => 0)), .inl (cA 0, 10, .inl (fun _ => 0)), .inl (cA 0, 10, .inl (fun _ => 0))] H := hP
  refine lv_aload_n hx hb dX10_init_61 rfl (lv_at hl 0 rfl) ?_
  refine lv_bipush (v := 10) hx hb dX10_init_62 (by decide) ?_
  refine zc_newa (atype := .int) (t := 0) (ty := .int) (a1 := .inl (fun _ => 0)) (N' := 10) hx hb (hts _ zu_a_int) rfl hK rfl (fun _ h => h) hP hS (fun _ => rfl) (by decide) (by decide) (by decide) (Nat.le_of_ble_eq_true rfl) (Nat.le_of_ble_eq_true rfl) dX10_init_64 (fun H hP hS => ?_)
  have hP : zc_P D h [.inr (10, [.int 0, .int 181, .int 0, .ref (h + 1), .ref (h + 2), .ref (h + 3), .ref (h + 4), .ref (h + 5), .null, .null, .null, .int 0, .null]), .inl (cA 0, 10, .inl (fun _ => 0)), .inl (cA 0, 10, .inl (fun _ => 0)), .inl (cA 0, 10, .inl (fun _ => 0)), .inl (cA 0, 10, .inl (fun _ => 0)), .inl (cA 0, 10, .inl (fun _ => 0)), .inl (cA 0, 10, .inl (fun _ => 0))] H := hP
  refine W.widen (k := 6) (n := 60) (Nat.le_of_ble_eq_true rfl) (Nat.le_of_ble_eq_true rfl) ?_
  refine zc_put0 (v := .ref (h + 6)) hx hb hts zy_co10 hown hK hP hS (Nat.le_refl _) 8 (by decide) (hts _ (zy_mem (zy_t1 (List.mem_of_getElem? (i := 106) (by decide +kernel))) rfl)) (Or.inl ⟨rfl, hin, rfl⟩) rfl rfl (Nat.le_of_ble_eq_true rfl) dX10_init_66 (fun H locs hP hS => ?_)
  have hP : zc_P D h [.inr (10, [.int 0, .int 181, .int 0, .ref (h + 1), .ref (h + 2), .ref (h + 3), .ref (h + 4), .ref (h + 5), .ref (h + 6), .null, .null, .int 0, .null]), .inl (cA 0, 10, .inl (fun _ => 0)), .inl (cA 0, 10, .inl (fun _ => 0)), .inl (cA 0, 10, .inl (fun _ => 0)), .inl (cA 0, 10, .inl (fun _ => 0)), .inl (cA 0, 10, .inl (fun _ => 0)), .inl (cA 0, 10, .inl (fun _ => 0))] H := hP
  refine lv_aload_n hx hb dX10_init_69 rfl (lv_at hl 0 rfl) ?_
  refine lv_bipush (v := 10) hx hb dX10_init_70 (by decide) ?_
  refine zc_newa (atype := .int) (t := 0) (ty := .int) (a1 := .inl (fun _ => 0)) (N' := 10) hx hb (hts _ zu_a_int) rfl hK rfl (fun _ h => h) hP hS (fun _ => rfl) (by decide) (by decide) (by decide) (Nat.le_of_ble_eq_true rfl) (Nat.le_of_ble_eq_true rfl) dX10_init_72 (fun H hP hS => ?_)
  have hP : zc_P D h [.inr (10, [.int 0, .int 181, .int 0, .ref (h + 1), .ref (h + 2), .ref (h + 3), .ref (h + 4), .ref (h + 5), .ref (h + 6), .null, .null, .int 0, .null]), .inl (cA 0, 10, .inl (fun _ => 0)), .inl (cA 0, 10, .inl (fun _ => 0)), .inl (cA 0, 10, .inl (fun _ => 0)), .inl (cA 0, 10, .inl (fun _ => 0)), .inl (cA 0, 10, .inl (fun _ => 0)), .inl (cA 0, 10, .inl (fun _ => 0)), .inl (cA 0, 10, .inl (fun _ => 0))] H := hP
  refine W.widen (k := 7) (n := 70) (Nat.le_of_ble_eq_true rfl) (Nat.le_of_ble_eq_true rfl) ?_
  refine zc_put0 (v := .ref (h + 7)) hx hb hts zy_co10 hown hK hP hS (Nat.le_refl _) 9 (by decide) (hts _ (zy_mem (zy_t1 (List.mem_of_getElem? (i := 109) (by decide +kernel))) rfl)) (Or.inl ⟨rfl, hin, rfl⟩) rfl rfl (Nat.le_of_ble_eq_true rfl) dX10_init_74 (fun H locs hP hS => ?_)
  have hP : zc_P D h [.inr (10, [.int 0, .int 181, .int 0, .ref (h + 1), .ref (h + 2), .ref (h + 3), .ref (h + 4), .ref (h + 5), .ref (h + 6), .ref (h + 7), .null, .int 0, .null]), .inl (cA 0, 10, .inl (fun _ => 0)), .inl (cA 0, 10, .inl (fun _ => 0)), .inl (cA 0, 10, .inl (fun _ => 0)), .inl (cA 0, 10, .inl (fun _ => 0)), .inl (cA 0, 10, .inl (fun _ => 0)), .inl (cA 0, 10, .inl (fun _ => 0)), .inl (cA 0, 10, .inl (fun _ => 0))] H := hP
  refine lv_aload_n hx hb dX10_init_77 rfl (lv_at hl 0 rfl) ?_
  refine lv_bipush (v := 10) hx hb dX10_init_78 (by decide) ?_
  refine zc_newa (atype := .int) (t := 0) (ty := .int) (a1 := .inl (fun _ => 0)) (N' := 10) hx hb (hts _ zu_a_int) rfl hK rfl (fun _ h => h) hP hS (fun _ => rfl) (by decide) (by decide) (by decide) (Nat.le_of_ble_eq_true rfl) (Nat.le_of_ble_eq_true rfl) dX10_init_80 (fun H hP hS => ?_)
  have hP : zc_P D h [.inr (10, [.int 0, .int 181, .int 0, .ref (h + 1), .ref (h + 2), .ref (h + 3), .ref (h + 4), .ref (h + 5), .ref (h + 6), .ref (h + 7), .null, .int 0, .null]), .inl (cA 0, 10, .inl (fun _ => 0)), .inl (cA 0, 10, .inl (fun _ => 0)), .inl (cA 0, 10, .inl (fun _ => 0)), .inl (cA 0, 10, .inl (fun _ => 0)), .inl (cA 0, 10, .inl (fun _ => 0)), .inl (cA 0, 10, .inl (fun _ => 0)), .inl (cA 0, 10, .inl (fun _ => 0)), .inl (cA 0, 10, .inl (fun _ => 0))] H := hP
  refine W.widen (k := 8) (n := 80) (Nat.le_of_ble_eq_true rfl) (Nat.le_of_ble_eq_true rfl) ?_
  refine zc_put0 (v := .ref (h + 8)) hx hb hts zy_co10 hown hK hP hS (Nat.le_refl _) 10 (by decide) (hts _ (zy_mem (zy_t1 (List.mem_of_getElem? (i := 111) (by decide +kernel))) rfl)) (Or.inl ⟨rfl, hin, rfl⟩) rfl rfl (Nat.le_of_ble_eq_true rfl) dX10_init_82 (fun H locs hP hS => ?_)
  have hP : zc_P D h [.inr (10, [.int 0, .int 181, .int 0, .ref (h + 1), .ref (h + 2), .ref (h + 3), .ref (h + 4), .ref (h + 5), .ref (h + 6), .ref (h + 7), .ref (h + 8), .int 0, .null]), .inl (cA 0, 10, .inl (fun _ => 0)), .inl (cA 0, 10, .inl (fun _ => 0)), .inl (cA 0, 10, .inl (fun _ => 0)), .inl (cA 0, 10, .inl (fun _ => 0)), .inl (cA 0, 10, .inl (fun _ => 0)), .inl (cA 0, 10, .inl (fun _ => 0)), .inl (cA 0, 10, .inl (fun _ => 0)), .inl (cA 0, 10, .inl (fun _ => 0))] H := hP
  refine lv_aload_n hx hb dX10_init_85 rfl (lv_at hl 0 rfl) ?_
  refine lv_iconst (v := 0) hx hb dX10_init_86 (by decide) ?_
  refine zc_put0 (v := .int 0) hx hb hts zy_co10 hown hK hP hS (Nat.le_refl _) 11 (by decide) (hts _ (zy_mem (zy_t1 (List.mem_of_getElem? (i := 113) (by decide +kernel))) rfl)) (Or.inr rfl) rfl rfl (Nat.le_of_ble_eq_true rfl) dX10_init_87 (fun H locs hP hS => ?_)
  have hP : zc_P D h [.inr (10, [.int 0, .int 181, .int 0, .ref (h + 1), .ref (h + 2), .ref (h + 3), .ref (h + 4), .ref (h + 5), .ref (h + 6), .ref (h + 7), .ref (h + 8), .int 0, .null]), .inl (cA 0, 10, .inl (fun _ => 0)), .inl (cA 0, 10, .inl (fun _ => 0)), .inl (cA 0, 10, .inl (fun _ => 0)), .inl (cA 0, 10, .inl (fun _ => 0)), .inl (cA 0, 10, .inl (fun _ => 0)), .inl (cA 0, 10, .inl (fun _ => 0)), .inl (cA 0, 10, .inl (fun _ => 0)), .inl (cA 0, 10, .inl (fun _ => 0))] H := hP
  refine lv_aload_n hx hb dX10_init_90 rfl (lv_at hl 0 rfl) ?_
  refine lv_bipush (v := 120) hx hb dX10_init_91 (by decide) ?_
  refine zc_newa (atype := .int) (t := 0) (ty := .int) (a1 := .inl (fun _ => 0)) (N' := 120) hx hb (hts _ zu_a_int) rfl hK rfl (fun _ h => h) hP hS (fun _ => rfl) (by decide) (by decide) (by decide) (Nat.le_of_ble_eq_true rfl) (Nat.le_of_ble_eq_true rfl) dX10_init_93 (fun H hP hS => ?_)
  have hP : zc_P D h [.inr (10, [.int 0, .int 181, .int 0, .ref (h + 1), .ref (h + 2), .ref (h + 3), .ref (h + 4), .ref (h + 5), .ref (h + 6), .ref (h + 7), .ref (h + 8), .int 0, .null]), .inl (cA 0, 10, .inl (fun _ => 0)), .inl (cA 0, 10, .inl (fun _ => 0)), .inl (cA 0, 10, .inl (fun _ => 0)), .inl (cA 0, 10, .inl (fun _ => 0)), .inl (cA 0, 10, .inl (fun _ => 0)), .inl (cA 0, 10, .inl (fun _ => 0)), .inl (cA 0, 10, .inl (fun _ => 0)), .inl (cA 0, 10, .inl (fun _ => 0)), .inl (cA 0, 120, .inl (fun _ => 0))] H := hP
  refine W.widen (k := 9) (n := 200) (Nat.le_of_ble_eq_true rfl) (Nat.le_of_ble_eq_true rfl) ?_
  refine zc_put0 (v := .ref (h + 9)) hx hb hts zy_co10 hown hK hP hS (Nat.le_refl _) 12 (by decide) (hts _ (zy_mem (zy_t1 (List.mem_of_getElem? (i := 115) (by decide +kernel))) rfl)) (Or.inl ⟨rfl, hin, rfl⟩) rfl rfl (Nat.le_of_ble_eq_true rfl) dX10_init_95 (fun H locs hP hS => ?_)
  have hP : zc_P D h [.inr (10, [.int 0, .int 181, .int 0, .ref (h + 1), .ref (h + 2), .ref (h + 3), .ref (h + 4), .ref (h + 5), .ref (h + 6), .ref (h + 7), .ref (h + 8), .int 0, .ref (h + 9)]), .inl (cA 0, 10, .inl (fun _ => 0)), .inl (cA 0, 10, .inl (fun _ => 0)), .inl (cA 0, 10, .inl (fun _ => 0)), .inl (cA 0, 10, .inl (fun _ => 0)), .inl (cA 0, 10, .inl (fun _ => 0)), .inl (cA 0, 10, .inl (fun _ => 0)), .inl (cA 0, 10, .inl (fun _ => 0)), .inl (cA 0, 10, .inl (fun _ => 0)), .inl (cA 0, 120, .inl (fun _ => 0))] H := hP
  exact W.vret hx hb hr (fun t ht hW => ⟨rfl, by rw [ht]; exact hP, hS.F ht⟩) hS.2.2 dX10_init_98 hlk
def zu_t1 (cA : Nat → ClassId) (h : Nat) : List va_E := [.inr (1, [.int 0, .ref (h + 1), .ref (h + 2), .ref (h + 3), .ref (h + 4), .ref (h + 5), .ref (h + 6), .int 0, .ref (h + 7), .ref (h + 8)]), .inl (cA 0, 24, .inl (fun _ => 0)), .inl (cA 0, 24, .inl (fun _ => 0)), .inl (cA 0, 24, .inl (fun _ => 0)), .inl (cA 0, 24, .inl (fun _ => 0)), .inl (cA 0, 3, .inl (fun _ => 0)), .inl (cA 0, 3, .inl (fun _ => 0)), .inl (cA 0, 300, .inl (fun _ => 0)), .inl (cA 0, 300, .inl (fun _ => 0))]
set_option maxRecDepth 20000 in
theorem zu_t1_ok (b0 sw : Nat) (l : Launch) (D : va_G) (cA : Nat → ClassId) (h : Nat) : zc_M b0 sw l D cA 1 8 702 yX1_init cX1_init 1 [] h (.inr (1, zu_d1)) (zu_t1 cA h) := by
  refine zc_met (by decide) (Nat.le_of_ble_eq_true rfl) ?_
  rintro p e s m below meth c ls ⟨hx, hb, hml, hown, hts, hr, hlk⟩ hin hP hK hb0 hN hl
  have hl : lv_has ls 1 [(0, .ref h)] := hl
  have hS : va_S (fun q => h ≤ q) s.heap s.heap [] := va_S.rf
  refine lv_aload_n hx hb dX1_init_0 rfl (lv_at hl 0 rfl) ?_
  refine W.objInit hx hb hown (hts _ zu_o1) (hts _ zu_oi) (hts _ zu_oc) rfl (by rw [hml]; exact hl.1) rfl dX1_init_1 (Nat.le_of_ble_eq_true rfl) (Nat.le_of_ble_eq_true rfl) ?_
  refine W.eq (g2 := F0 m 4 ls []) rfl ?_
  refine lv_aload_n hx hb dX1_init_4 rfl (lv_at hl 0 rfl) ?_
  refine lv_iconst (v := 0) hx hb dX1_init_5 (by decide) ?_
  refine zc_put0 (v := .int 0) hx hb hts zy_co1 hown hK hP hS (Nat.le_refl _) 0 (by decide) (hts _ (zy_mem (zy_t1 (List.mem_of_getElem? (i := 173) (by decide +kernel))) rfl)) (Or.inr rfl) rfl rfl (Nat.le_of_ble_eq_true rfl) dX1_init_6 (fun H locs hP hS => ?_)
  have hP : zc_P D h [.inr (1, [.int 0, .null, .null, .null, .null, .null, .null, .int 0, .null, .null])] H := hP
  refine lv_aload_n hx hb dX1_init_9 rfl (lv_at hl 0 rfl) ?_
  refine lv_bipush (v := 24) hx hb dX1_init_10 (by decide) ?_
  refine zc_newa (atype := .int) (t := 0) (ty := .int) (a1 := .inl (fun _ => 0)) (N' := 24) hx hb (hts _ zu_a_int) rfl hK rfl (fun _ h => h) hP hS (fun _ => rfl) (by decide) (by decide) (by decide) (Nat.le_of_ble_eq_true rfl) (Nat.le_of_ble_eq_true rfl) dX1_init_12 (fun H hP hS => ?_)
  have hP : zc_P D h [.inr (1, [.int 0, .null, .null, .null, .null, .null, .null, .int 0, .null, .null]), .inl (cA 0, 24, .inl (fun _ => 0))] H := hP
  refine W.widen (k := 1) (n := 24) (Nat.le_of_ble_eq_true rfl) (Nat.le_of_ble_eq_true rfl) ?_
  refine zc_put0 (v := .ref (h + 1)) hx hb hts zy_co1 hown hK hP hS (Nat.le_refl _) 1 (by decide) (hts _ (zy_mem (zy_t1 (List.mem_of_getElem? (i := 176) (by decide +kernel))) rfl)) (Or.inl ⟨rfl, hin, rfl⟩) rfl rfl (Nat.le_of_ble_eq_true rfl) dX1_init_14 (fun H locs hP hS => ?_)
  have hP : zc_P D h [.inr (1, [.int 0, .ref (h + 1), .null, .null, .null, .null, .null, .int 0, .null, .null]), .inl (cA 0, 24, .inl (fun _ => 0))] H := hP
  refine lv_aload_n hx hb dX1_init_17 rfl (lv_at hl 0 rfl) ?_
  refine lv_bipush (v := 24) hx hb dX1_init_18 (by decide) ?_
  refine zc_newa (atype := .int) (t := 0) (ty := .int) (a1 := .inl (fun _ => 0)) (N' := 24) hx hb (hts _ zu_a_int) rfl hK rfl (fun _ h => h) hP hS (fun _ => rfl) (by decide) (by decide) (by decide) (Nat.le_of_ble_eq_true rfl) (Nat.le_of_ble_eq_true rfl) dX1_init_20 (fun H hP hS => ?_)
  have hP : zc_P D h [.inr (1, [.int 0, .ref (h + 1), .null, .null, .null, .null, .null, .int 0, .null, .null]), .inl (cA 0, 24, .inl (fun _ => 0)), .inl (cA 0, 24, .inl (fun _ => 0))] H := hP
  refine W.widen (k := 2) (n := 48) (Nat.le_of_ble_eq_true rfl) (Nat.le_of_ble_eq_true rfl) ?_
  refine zc_put0 (v := .ref (h + 2)) hx hb hts zy_co1 hown hK hP hS (Nat.le_refl _) 2 (by decide) (hts _ (zy_mem (zy_t1 (List.mem_of_getElem? (i := 179) (by decide +kernel))) rfl)) (Or.inl ⟨rfl, hin, rfl⟩) rfl rfl (Nat.le_of_ble_eq_true rfl) dX1_init_22 (fun H locs hP hS => ?_)
  have hP : zc_P D h [.inr (1, [.int 0, .ref (h + 1), .ref (h + 2), .null, .null, .null, .null, .int 0, .null, .null]), .inl (cA 0, 24, .inl (fun _ => 0)), .inl (cA 0, 24, .inl (fun _ => 0))] H := hP
  refine lv_aload_n hx hb dX1_init_25 rfl (lv_at hl 0 rfl) ?_
  refine lv_bipush (v := 24) hx hb dX1_init_26 (by decide) ?_
  refine zc_newa (atype := .int) (t := 0) (ty := .int) (a1 := .inl (fun _ => 0)) (N' := 24) hx hb (hts _ zu_a_int) rfl hK rfl (fun _ h => h) hP hS (fun _ => rfl) (by decide) (by decide) (by decide) (Nat.le_of_ble_eq_true rfl) (Nat.le_of_ble_eq_true rfl) dX1_init_28 (fun H hP hS => ?_)
  have hP : zc_P D h [.inr (1, [.int 0, .ref (h + 1), .ref (h + 2), .null, .null, .null, .null, .int 0, .null, .null]), .inl (cA 0, 24, .inl (fun _ => 0)), .inl (cA 0, 24, .inl (fun _ => 0)), .inl (cA 0, 24, .inl (fun _ => 0))] H := hP
  refine W.widen (k := 3) (n := 72) (Nat.le_of_ble_eq_true rfl) (Nat.le_of_ble_eq_true rfl) ?_
  refine zc_put0 (v := .ref (h + 3)) hx hb hts zy_co1 hown hK hP hS (Nat.le_refl _) 3 (by decide) (hts _ (zy_mem (zy_t1 (List.mem_of_getElem? (i := 182) (by decide +kernel))) rfl)) (Or.inl ⟨rfl, hin, rfl⟩) rfl rfl (Nat.le_of_ble_eq_true rfl) dX1_init_30 (fun H locs hP hS => ?_)
  have hP : zc_P D h [.inr (1, [.int 0, .ref (h + 1), .ref (h + 2), .ref (h + 3), .null, .null, .null, .int 0, .null, .null]), .inl (cA 0, 24, .inl (fun _ => 0)), .inl (cA 0, 24, .inl (fun _ => 0)), .inl (cA 0, 24, .inl (fun _ => 0))] H := hP
  refine lv_aload_n hx hb dX1_init_33 rfl (lv_at hl 0 rfl) ?_
  refine lv_bipush (v := 24) hx hb dX1_init_34 (by decide) ?_
  refine zc_newa (atype := .int) (t := 0) (ty := .int) (a1 := .inl (fun _ => 0)) (N' := 24) hx hb (hts _ zu_a_int) rfl hK rfl (fun _ h => h) hP hS (fun _ => rfl) (by decide) (by decide) (by decide) (Nat.le_of_ble_eq_true rfl) (Nat.le_of_ble_eq_true rfl) dX1_init_36 (fun H hP hS => ?_)
  have hP : zc_P D h [.inr (1, [.int 0, .ref (h + 1), .ref (h + 2), .ref (h + 3), .null, .null, .null, .int 0, .null, .null]), .inl (cA 0, 24, .inl (fun _ => 0)), .inl (cA 0, 24, .inl (fun _ => 0)), .inl (cA 0, 24, .inl (fun _ => 0)), .inl (cA 0, 24, .inl (fun _ => 0))] H := hP
  refine W.widen (k := 4) (n := 96) (Nat.le_of_ble_eq_true rfl) (Nat.le_of_ble_eq_true rfl) ?_
  refine zc_put0 (v := .ref (h + 4)) hx hb hts zy_co1 hown hK hP hS (Nat.le_refl _) 4 (by decide) (hts _ (zy_mem (zy_t1 (List.mem_of_getElem? (i := 185) (by decide +kernel))) rfl)) (Or.inl ⟨rfl, hin, rfl⟩) rfl rfl (Nat.le_of_ble_eq_true rfl) dX1_init_38 (fun H locs hP hS => ?_)
  have hP : zc_P D h [.inr (1, [.int 0, .ref (h + 1), .ref (h + 2), .ref (h + 3), .ref (h + 4), .null, .null, .int 0, .null, .null]), .inl (cA 0, 24, .inl (fun _ => 0)), .inl (cA 0, 24, .inl (fun _ => 0)), .inl (cA 0, 24, .inl (fun _ => 0)), .inl (cA 0, 24, .inl (fun _ => 0))] H := hP
  refine lv_aload_n hx hb dX1_init_41 rfl (lv_at hl 0 rfl) ?_
  refine lv_iconst (v := 3) hx hb dX1_init_42 (by decide) ?_
  refine zc_newa (atype := .int) (t := 0) (ty := .int) (a1 := .inl (fun _ => 0)) (N' := 3) hx hb (hts _ zu_a_int) rfl hK rfl (fun _ h => h) hP hS (fun _ => rfl) (by decide) (by decide) (by decide) (Nat.le_of_ble_eq_true rfl) (Nat.le_of_ble_eq_true rfl) dX1_init_43 (fun H hP hS => ?_)
  have hP : zc_P D h [.inr (1, [.int 0, .ref (h + 1), .ref (h + 2), .ref (h + 3), .ref (h + 4), .null, .null, .int 0, .null, .null]), .inl (cA 0, 24, .inl (fun _ => 0)), .inl (cA 0, 24, .inl (fun _ => 0)), .inl (cA 0, 24, .inl (fun _ => 0)), .inl (cA 0, 24, .inl (fun _ => 0)), .inl (cA 0, 3, .inl (fun _ => 0))] H := hP
  refine W.widen (k := 5) (n := 99) (Nat.le_of_ble_eq_true rfl) (Nat.le_of_ble_eq_true rfl) ?_
  refine zc_put0 (v := .ref (h + 5)) hx hb hts zy_co1 hown hK hP hS (Nat.le_refl _) 5 (by decide) (hts _ (zy_mem (zy_t1 (List.mem_of_getElem? (i := 188) (by decide +kernel))) rfl)) (Or.inl ⟨rfl, hin, rfl⟩) rfl rfl (Nat.le_of_ble_eq_true rfl) dX1_init_45 (fun H locs hP hS => ?_)
  have hP : zc_P D h [.inr (1, [.int 0, .ref (h + 1), .ref (h + 2), .ref (h + 3), .ref (h + 4), .ref (h + 5), .null, .int 0, .null, .null]), .inl (cA 0, 24, .inl (fun _ => 0)), .inl (cA 0, 24, .inl (fun _ => 0)), .inl (cA 0, 24, .inl (fun _ => 0)), .inl (cA 0, 24, .inl (fun _ => 0)), .inl (cA 0, 3, .inl (fun _ => 0))] H := hP
  refine lv_aload_n hx hb dX1_init_48 rfl (lv_at hl 0 rfl) ?_
  refine lv_iconst (v := 3) hx hb dX1_init_49 (by decide) ?_
  refine zc_newa (atype := .int) (t := 0) (ty := .int) (a1 := .inl (fun _ => 0)) (N' := 3) hx hb (hts _ zu_a_int) rfl hK rfl (fun _ h => h) hP hS (fun _ => rfl) (by decide) (by decide) (by decide) (Nat.le_of_ble_eq_true rfl) (Nat.le_of_ble_eq_true rfl) dX1_init_50 (fun H hP hS => ?_)
  have hP : zc_P D h [.inr (1, [.int 0, .ref (h + 1), .ref (h + 2), .ref (h + 3), .ref (h + 4), .ref (h + 5), .null, .int 0, .null, .null]), .inl (cA 0, 24, .inl (fun _ => 0)), .inl (cA 0, 24, .inl (fun _ => 0)), .inl (cA 0, 24, .inl (fun _ => 0)), .inl (cA 0, 24, .inl (fun _ => 0)), .inl (cA 0, 3, .inl (fun _ => 0)), .inl (cA 0, 3, .inl (fun _ => 0))] H := hP
  refine W.widen (k := 6) (n := 102) (Nat.le_of_ble_eq_true rfl) (Nat.le_of_ble_eq_true rfl) ?_
  refine zc_put0 (v := .ref (h + 6)) hx hb hts zy_co1 hown hK hP hS (Nat.le_refl _) 6 (by decide) (hts _ (zy_mem (zy_t1 (List.mem_of_getElem? (i := 191) (by decide +kernel))) rfl)) (Or.inl ⟨rfl, hin, rfl⟩) rfl rfl (Nat.le_of_ble_eq_true rfl) dX1_init_52 (fun H locs hP hS => ?_)
  have hP : zc_P D h [.inr (1, [.int 0, .ref (h + 1), .ref (h + 2), .ref (h + 3), .ref (h + 4), .ref (h + 5), .ref (h + 6), .int 0, .null, .null]), .inl (cA 0, 24, .inl (fun _ => 0)), .inl (cA 0, 24, .inl (fun _ => 0)), .inl (cA 0, 24, .inl (fun _ => 0)), .inl (cA 0, 24, .inl (fun _ => 0)), .inl (cA 0, 3, .inl (fun _ => 0)), .inl (cA 0, 3, .inl (fun _ => 0))] H := hP
  refine lv_aload_n hx hb dX1_init_55 rfl (lv_at hl 0 rfl) ?_
  refine lv_iconst (v := 0) hx hb dX1_init_56 (by decide) ?_
  refine zc_put0 (v := .int 0) hx hb hts zy_co1 hown hK hP hS (Nat.le_refl _) 7 (by decide) (hts _ (zy_mem (zy_t1 (List.mem_of_getElem? (i := 194) (by decide +kernel))) rfl)) (Or.inr rfl) rfl rfl (Nat.le_of_ble_eq_true rfl) dX1_init_57 (fun H locs hP hS => ?_)
  have hP : zc_P D h [.inr (1, [.int 0, .ref (h + 1), .ref (h + 2), .ref (h + 3), .ref (h + 4), .ref (h + 5), .ref (h + 6), .int 0, .null, .null]), .inl (cA 0, 24, .inl (fun _ => 0)), .inl (cA 0, 24, .inl (fun _ => 0)), .inl (cA 0, 24, .inl (fun _ => 0)), .inl (cA 0, 24, .inl (fun _ => 0)), .inl (cA 0, 3, .inl (fun _ => 0)), .inl (cA 0, 3, .inl (fun _ => 0))] H := hP
  refine lv_aload_n hx hb dX1_init_60 rfl (lv_at hl 0 rfl) ?_
  refine lv_sipush (v := 300) hx hb dX1_init_61 (by decide) ?_
  refine zc_newa (atype := .int) (t := 0) (ty := .int) (a1 := .inl (fun _ => 0)) (N' := 300) hx hb (hts _ zu_a_int) rfl hK rfl (fun _ h => h) hP hS (fun _ => rfl) (by decide) (by decide) (by decide) (Nat.le_of_ble_eq_true rfl) (Nat.le_of_ble_eq_true rfl) dX1_init_64 (fun H hP hS => ?_)
  have hP : zc_P D h [.inr (1, [.int 0, .ref (h + 1), .ref (h + 2), .ref (h + 3), .ref (h + 4), .ref (h + 5), .ref (h + 6), .int 0, .null, .null]), .inl (cA 0, 24, .inl (fun _ => 0)), .inl (cA 0, 24, .inl (fun _ => 0)), .inl (cA 0, 24, .inl (fun _ => 0)), .inl (cA 0, 24, .inl (fun _ => 0)), .inl (cA 0, 3, .inl (fun _ => 0)), .inl (cA 0, 3, .inl (fun _ => 0)), .inl (cA 0, 300, .inl (fun _ => 0))] H := hP
  refine W.widen (k := 7) (n := 402) (Nat.le_of_ble_eq_true rfl) (Nat.le_of_ble_eq_true rfl) ?_
  refine zc_put0 (v := .ref (h + 7)) hx hb hts zy_co1 hown hK hP hS (Nat.le_refl _) 8 (by decide) (hts _ (zy_mem (zy_t1 (List.mem_of_getElem? (i := 196) (by decide +kernel))) rfl)) (Or.inl ⟨rfl, hin, rfl⟩) rfl rfl (Nat.le_of_ble_eq_true rfl) dX1_init_66 (fun H locs hP hS => ?_)
  have hP : zc_P D h [.inr (1, [.int 0, .ref (h + 1), .ref (h + 2), .ref (h + 3), .ref (h + 4), .ref (h + 5), .ref (h + 6), .int 0, .ref (h + 7), .null]), .inl (cA 0, 24, .inl (fun _ => 0)), .inl (cA 0, 24, .inl (fun _ => 0)), .inl (cA 0, 24, .inl (fun _ => 0)), .inl (cA 0, 24, .inl (fun _ => 0)), .inl (cA 0, 3, .inl (fun _ => 0)), .inl (cA 0, 3, .inl (fun _ => 0)), .inl (cA 0, 300, .inl (fun _ => 0))] H := hP
  refine lv_aload_n hx hb dX1_init_69 rfl (lv_at hl 0 rfl) ?_
  refine lv_sipush (v := 300) hx hb dX1_init_70 (by decide) ?_
  refine zc_newa (atype := .int) (t := 0) (ty := .int) (a1 := .inl (fun _ => 0)) (N' := 300) hx hb (hts _ zu_a_int) rfl hK rfl (fun _ h => h) hP hS (fun _ => rfl) (by decide) (by decide) (by decide) (Nat.le_of_ble_eq_true rfl) (Nat.le_of_ble_eq_true rfl) dX1_init_73 (fun H hP hS => ?_)
  have hP : zc_P D h [.inr (1, [.int 0, .ref (h + 1), .ref (h + 2), .ref (h + 3), .ref (h + 4), .ref (h + 5), .ref (h + 6), .int 0, .ref (h + 7), .null]), .inl (cA 0, 24, .inl (fun _ => 0)), .inl (cA 0, 24, .inl (fun _ => 0)), .inl (cA 0, 24, .inl (fun _ => 0)), .inl (cA 0, 24, .inl (fun _ => 0)), .inl (cA 0, 3, .inl (fun _ => 0)), .inl (cA 0, 3, .inl (fun _ => 0)), .inl (cA 0, 300, .inl (fun _ => 0)), .inl (cA 0, 300, .inl (fun _ => 0))] H := hP
  refine W.widen (k := 8) (n := 702) (Nat.le_of_ble_eq_true rfl) (Nat.le_of_ble_eq_true rfl) ?_
  refine zc_put0 (v := .ref (h + 8)) hx hb hts zy_co1 hown hK hP hS (Nat.le_refl _) 9 (by decide) (hts _ (zy_mem (zy_t1 (List.mem_of_getElem? (i := 198) (by decide +kernel))) rfl)) (Or.inl ⟨rfl, hin, rfl⟩) rfl rfl (Nat.le_of_ble_eq_true rfl) dX1_init_75 (fun H locs hP hS => ?_)
  have hP : zc_P D h [.inr (1, [.int 0, .ref (h + 1), .ref (h + 2), .ref (h + 3), .ref (h + 4), .ref (h + 5), .ref (h + 6), .int 0, .ref (h + 7), .ref (h + 8)]), .inl (cA 0, 24, .inl (fun _ => 0)), .inl (cA 0, 24, .inl (fun _ => 0)), .inl (cA 0, 24, .inl (fun _ => 0)), .inl (cA 0, 24, .inl (fun _ => 0)), .inl (cA 0, 3, .inl (fun _ => 0)), .inl (cA 0, 3, .inl (fun _ => 0)), .inl (cA 0, 300, .inl (fun _ => 0)), .inl (cA 0, 300, .inl (fun _ => 0))] H := hP
  exact W.vret hx hb hr (fun t ht hW => ⟨rfl, by rw [ht]; exact hP, hS.F ht⟩) hS.2.2 dX1_init_78 hlk
def zu_t4 (cA : Nat → ClassId) (h : Nat) : List va_E := [.inr (4, [.int 0, .int 0, .ref (h + 1), .ref (h + 2)]), .inl (cA 0, 8, .inl (fun _ => 0)), .inl (cA 0, 8, .inl (fun _ => 0))]
set_option maxRecDepth 20000 in
theorem zu_t4_ok (b0 sw : Nat) (l : Launch) (D : va_G) (cA : Nat → ClassId) (h : Nat) : zc_M b0 sw l D cA 1 2 16 yX4_init cX4_init 1 [] h (.inr (4, zu_d4)) (zu_t4 cA h) := by
  refine zc_met (by decide) (Nat.le_of_ble_eq_true rfl) ?_
  rintro p e s m below meth c ls ⟨hx, hb, hml, hown, hts, hr, hlk⟩ hin hP hK hb0 hN hl
  have hl : lv_has ls 1 [(0, .ref h)] := hl
  have hS : va_S (fun q => h ≤ q) s.heap s.heap [] := va_S.rf
  refine lv_aload_n hx hb dX4_init_0 rfl (lv_at hl 0 rfl) ?_
  refine W.objInit hx hb hown (hts _ zu_o4) (hts _ zu_oi) (hts _ zu_oc) rfl (by rw [hml]; exact hl.1) rfl dX4_init_1 (Nat.le_of_ble_eq_true rfl) (Nat.le_of_ble_eq_true rfl) ?_
  refine W.eq (g2 := F0 m 4 ls []) rfl ?_
  refine lv_aload_n hx hb dX4_init_4 rfl (lv_at hl 0 rfl) ?_
  refine lv_iconst (v := 0) hx hb dX4_init_5 (by decide) ?_
  refine zc_put0 (v := .int 0) hx hb hts zy_co4 hown hK hP hS (Nat.le_refl _) 0 (by decide) (hts _ (zy_mem (zy_t1 (List.mem_of_getElem? (i := 153) (by decide +kernel))) rfl)) (Or.inr rfl) rfl rfl (Nat.le_of_ble_eq_true rfl) dX4_init_6 (fun H locs hP hS => ?_)
  have hP : zc_P D h [.inr (4, [.int 0, .int 0, .null, .null])] H := hP
  refine lv_aload_n hx hb dX4_init_9 rfl (lv_at hl 0 rfl) ?_
  refine lv_iconst (v := 0) hx hb dX4_init_10 (by decide) ?_
  refine zc_put0 (v := .int 0) hx hb hts zy_co4 hown hK hP hS (Nat.le_refl _) 1 (by decide) (hts _ (zy_mem (zy_t1 (List.mem_of_getElem? (i := 155) (by decide +kernel))) rfl)) (Or.inr rfl) rfl rfl (Nat.le_of_ble_eq_true rfl) dX4_init_11 (fun H locs hP hS => ?_)
  have hP : zc_P D h [.inr (4, [.int 0, .int 0, .null, .null])] H := hP
  refine lv_aload_n hx hb dX4_init_14 rfl (lv_at hl 0 rfl) ?_
  refine lv_bipush (v := 8) hx hb dX4_init_15 (by decide) ?_
  refine zc_newa (atype := .int) (t := 0) (ty := .int) (a1 := .inl (fun _ => 0)) (N' := 8) hx hb (hts _ zu_a_int) rfl hK rfl (fun _ h => h) hP hS (fun _ => rfl) (by decide) (by decide) (by decide) (Nat.le_of_ble_eq_true rfl) (Nat.le_of_ble_eq_true rfl) dX4_init_17 (fun H hP hS => ?_)
  have hP : zc_P D h [.inr (4, [.int 0, .int 0, .null, .null]), .inl (cA 0, 8, .inl (fun _ => 0))] H := hP
  refine W.widen (k := 1) (n := 8) (Nat.le_of_ble_eq_true rfl) (Nat.le_of_ble_eq_true rfl) ?_
  refine zc_put0 (v := .ref (h + 1)) hx hb hts zy_co4 hown hK hP hS (Nat.le_refl _) 2 (by decide) (hts _ (zy_mem (zy_t1 (List.mem_of_getElem? (i := 157) (by decide +kernel))) rfl)) (Or.inl ⟨rfl, hin, rfl⟩) rfl rfl (Nat.le_of_ble_eq_true rfl) dX4_init_19 (fun H locs hP hS => ?_)
  have hP : zc_P D h [.inr (4, [.int 0, .int 0, .ref (h + 1), .null]), .inl (cA 0, 8, .inl (fun _ => 0))] H := hP
  refine lv_aload_n hx hb dX4_init_22 rfl (lv_at hl 0 rfl) ?_
  refine lv_bipush (v := 8) hx hb dX4_init_23 (by decide) ?_
  refine zc_newa (atype := .int) (t := 0) (ty := .int) (a1 := .inl (fun _ => 0)) (N' := 8) hx hb (hts _ zu_a_int) rfl hK rfl (fun _ h => h) hP hS (fun _ => rfl) (by decide) (by decide) (by decide) (Nat.le_of_ble_eq_true rfl) (Nat.le_of_ble_eq_true rfl) dX4_init_25 (fun H hP hS => ?_)
  have hP : zc_P D h [.inr (4, [.int 0, .int 0, .ref (h + 1), .null]), .inl (cA 0, 8, .inl (fun _ => 0)), .inl (cA 0, 8, .inl (fun _ => 0))] H := hP
  refine W.widen (k := 2) (n := 16) (Nat.le_of_ble_eq_true rfl) (Nat.le_of_ble_eq_true rfl) ?_
  refine zc_put0 (v := .ref (h + 2)) hx hb hts zy_co4 hown hK hP hS (Nat.le_refl _) 3 (by decide) (hts _ (zy_mem (zy_t1 (List.mem_of_getElem? (i := 158) (by decide +kernel))) rfl)) (Or.inl ⟨rfl, hin, rfl⟩) rfl rfl (Nat.le_of_ble_eq_true rfl) dX4_init_27 (fun H locs hP hS => ?_)
  have hP : zc_P D h [.inr (4, [.int 0, .int 0, .ref (h + 1), .ref (h + 2)]), .inl (cA 0, 8, .inl (fun _ => 0)), .inl (cA 0, 8, .inl (fun _ => 0))] H := hP
  exact W.vret hx hb hr (fun t ht hW => ⟨rfl, by rw [ht]; exact hP, hS.F ht⟩) hS.2.2 dX4_init_30 hlk
def zu_t2 (cA : Nat → ClassId) (qs : Nat) (h : Nat) : List va_E := [.inr (2, [.ref qs, .ref (h + 1), .ref (h + 2), .int 0]), .inl (cA 0, 9, .inl (fun _ => 0)), .inl (cA 0, 300, .inl (fun _ => 0))]
set_option maxRecDepth 20000 in
theorem zu_t2_ok (b0 sw : Nat) (l : Launch) (D : va_G) (cA : Nat → ClassId) (qs : Nat) (h : Nat) : zc_M b0 sw l D cA 1 2 309 yX2_init cX2_init 2 [.ref qs] h (.inr (2, zu_d2)) (zu_t2 cA qs h) := by
  refine zc_met (by decide) (Nat.le_of_ble_eq_true rfl) ?_
  rintro p e s m below meth c ls ⟨hx, hb, hml, hown, hts, hr, hlk⟩ hin hP hK hb0 hN hl
  have hl : lv_has ls 2 [(0, .ref h), (1, .ref qs)] := hl
  have hS : va_S (fun q => h ≤ q) s.heap s.heap [] := va_S.rf
  refine lv_aload_n hx hb dX2_init_0 rfl (lv_at hl 0 rfl) ?_
  refine W.objInit hx hb hown (hts _ zu_o2) (hts _ zu_oi) (hts _ zu_oc) rfl (by rw [hml]; exact hl.1) rfl dX2_init_1 (Nat.le_of_ble_eq_true rfl) (Nat.le_of_ble_eq_true rfl) ?_
  refine W.eq (g2 := F0 m 4 ls []) rfl ?_
  refine lv_aload_n hx hb dX2_init_4 rfl (lv_at hl 0 rfl) ?_
  refine lv_bipush (v := 9) hx hb dX2_init_5 (by decide) ?_
  refine zc_newa (atype := .int) (t := 0) (ty := .int) (a1 := .inl (fun _ => 0)) (N' := 9) hx hb (hts _ zu_a_int) rfl hK rfl (fun _ h => h) hP hS (fun _ => rfl) (by decide) (by decide) (by decide) (Nat.le_of_ble_eq_true rfl) (Nat.le_of_ble_eq_true rfl) dX2_init_7 (fun H hP hS => ?_)
  have hP : zc_P D h [.inr (2, [.null, .null, .null, .int 0]), .inl (cA 0, 9, .inl (fun _ => 0))] H := hP
  refine W.widen (k := 1) (n := 9) (Nat.le_of_ble_eq_true rfl) (Nat.le_of_ble_eq_true rfl) ?_
  refine zc_put0 (v := .ref (h + 1)) hx hb hts zy_co2 hown hK hP hS (Nat.le_refl _) 1 (by decide) (hts _ (zy_mem (zy_t2 (List.mem_of_getElem? (i := 41) (by decide +kernel))) rfl)) (Or.inl ⟨rfl, hin, rfl⟩) rfl rfl (Nat.le_of_ble_eq_true rfl) dX2_init_9 (fun H locs hP hS => ?_)
  have hP : zc_P D h [.inr (2, [.null, .ref (h + 1), .null, .int 0]), .inl (cA 0, 9, .inl (fun _ => 0))] H := hP
  refine lv_aload_n hx hb dX2_init_12 rfl (lv_at hl 0 rfl) ?_
  refine lv_sipush (v := 300) hx hb dX2_init_13 (by decide) ?_
  refine zc_newa (atype := .int) (t := 0) (ty := .int) (a1 := .inl (fun _ => 0)) (N' := 300) hx hb (hts _ zu_a_int) rfl hK rfl (fun _ h => h) hP hS (fun _ => rfl) (by decide) (by decide) (by decide) (Nat.le_of_ble_eq_true rfl) (Nat.le_of_ble_eq_true rfl) dX2_init_16 (fun H hP hS => ?_)
  have hP : zc_P D h [.inr (2, [.null, .ref (h + 1), .null, .int 0]), .inl (cA 0, 9, .inl (fun _ => 0)), .inl (cA 0, 300, .inl (fun _ => 0))] H := hP
  refine W.widen (k := 2) (n := 309) (Nat.le_of_ble_eq_true rfl) (Nat.le_of_ble_eq_true rfl) ?_
  refine zc_put0 (v := .ref (h + 2)) hx hb hts zy_co2 hown hK hP hS (Nat.le_refl _) 2 (by decide) (hts _ (zy_mem (zy_t2 (List.mem_of_getElem? (i := 45) (by decide +kernel))) rfl)) (Or.inl ⟨rfl, hin, rfl⟩) rfl rfl (Nat.le_of_ble_eq_true rfl) dX2_init_18 (fun H locs hP hS => ?_)
  have hP : zc_P D h [.inr (2, [.null, .ref (h + 1), .ref (h + 2), .int 0]), .inl (cA 0, 9, .inl (fun _ => 0)), .inl (cA 0, 300, .inl (fun _ => 0))] H := hP
  refine lv_aload_n hx hb dX2_init_21 rfl (lv_at hl 0 rfl) ?_
  refine lv_iconst (v := 0) hx hb dX2_init_22 (by decide) ?_
  refine zc_put0 (v := .int 0) hx hb hts zy_co2 hown hK hP hS (Nat.le_refl _) 3 (by decide) (hts _ (zy_mem (zy_t2 (List.mem_of_getElem? (i := 46) (by decide +kernel))) rfl)) (Or.inr rfl) rfl rfl (Nat.le_of_ble_eq_true rfl) dX2_init_23 (fun H locs hP hS => ?_)
  have hP : zc_P D h [.inr (2, [.null, .ref (h + 1), .ref (h + 2), .int 0]), .inl (cA 0, 9, .inl (fun _ => 0)), .inl (cA 0, 300, .inl (fun _ => 0))] H := hP
  refine lv_aload_n hx hb dX2_init_26 rfl (lv_at hl 0 rfl) ?_
  refine lv_aload_n hx hb dX2_init_27 rfl (lv_at hl 1 rfl) ?_
  refine zc_put0 (v := .ref qs) hx hb hts zy_co2 hown hK hP hS (Nat.le_refl _) 0 (by decide) (hts _ (zy_mem (zy_t2 (List.mem_of_getElem? (i := 40) (by decide +kernel))) rfl)) (Or.inl ⟨rfl, hin, rfl⟩) rfl rfl (Nat.le_of_ble_eq_true rfl) dX2_init_28 (fun H locs hP hS => ?_)
  have hP : zc_P D h [.inr (2, [.ref qs, .ref (h + 1), .ref (h + 2), .int 0]), .inl (cA 0, 9, .inl (fun _ => 0)), .inl (cA 0, 300, .inl (fun _ => 0))] H := hP
  exact W.vret hx hb hr (fun t ht hW => ⟨rfl, by rw [ht]; exact hP, hS.F ht⟩) hS.2.2 dX2_init_31 hlk
def zu_t0 (cA : Nat → ClassId) (qs : Nat) (qm : Nat) (h : Nat) : List va_E := [.inr (0, [.ref qs, .ref qm])]
set_option maxRecDepth 20000 in
theorem zu_t0_ok (b0 sw : Nat) (l : Launch) (D : va_G) (cA : Nat → ClassId) (qs : Nat) (qm : Nat) (h : Nat) : zc_M b0 sw l D cA 1 0 0 yX0_init cX0_init 3 [.ref qs, .ref qm] h (.inr (0, zu_d0)) (zu_t0 cA qs qm h) := by
  refine zc_met (by decide) (Nat.le_of_ble_eq_true rfl) ?_
  rintro p e s m below meth c ls ⟨hx, hb, hml, hown, hts, hr, hlk⟩ hin hP hK hb0 hN hl
  have hl : lv_has ls 3 [(0, .ref h), (1, .ref qs), (2, .ref qm)] := hl
  have hS : va_S (fun q => h ≤ q) s.heap s.heap [] := va_S.rf
  refine lv_aload_n hx hb dX0_init_0 rfl (lv_at hl 0 rfl) ?_
  refine W.objInit hx hb hown (hts _ zu_o0) (hts _ zu_oi) (hts _ zu_oc) rfl (by rw [hml]; exact hl.1) rfl dX0_init_1 (Nat.le_of_ble_eq_true rfl) (Nat.le_of_ble_eq_true rfl) ?_
  refine W.eq (g2 := F0 m 4 ls []) rfl ?_
  refine lv_aload_n hx hb dX0_init_4 rfl (lv_at hl 0 rfl) ?_
  refine lv_aload_n hx hb dX0_init_5 rfl (lv_at hl 1 rfl) ?_
  refine zc_put0 (v := .ref qs) hx hb hts zy_co0 hown hK hP hS (Nat.le_refl _) 0 (by decide) (hts _ (zy_mem (zy_t2 (List.mem_of_getElem? (i := 62) (by decide +kernel))) rfl)) (Or.inl ⟨rfl, hin, rfl⟩) rfl rfl (Nat.le_of_ble_eq_true rfl) dX0_init_6 (fun H locs hP hS => ?_)
  have hP : zc_P D h [.inr (0, [.ref qs, .null])] H := hP
  refine lv_aload_n hx hb dX0_init_9 rfl (lv_at hl 0 rfl) ?_
  refine lv_aload_n hx hb dX0_init_10 rfl (lv_at hl 2 rfl) ?_
  refine zc_put0 (v := .ref qm) hx hb hts zy_co0 hown hK hP hS (Nat.le_refl _) 1 (by decide) (hts _ (zy_mem (zy_t2 (List.mem_of_getElem? (i := 63) (by decide +kernel))) rfl)) (Or.inl ⟨rfl, hin, rfl⟩) rfl rfl (Nat.le_of_ble_eq_true rfl) dX0_init_11 (fun H locs hP hS => ?_)
  have hP : zc_P D h [.inr (0, [.ref qs, .ref qm])] H := hP
  exact W.vret hx hb hr (fun t ht hW => ⟨rfl, by rw [ht]; exact hP, hS.F ht⟩) hS.2.2 dX0_init_14 hlk
def zu_t8 (cA : Nat → ClassId) (qs : Nat) (h : Nat) : List va_E := [.inr (8, [.ref qs, .ref (h + 1), .ref (h + 2), .ref (h + 3), .ref (h + 4)]), .inl (cA 0, 10, .inl (fun _ => 0)), .inl (cA 0, 10, .inl (fun _ => 0)), .inl (cA 0, 10, .inl (fun _ => 0)), .inl (cA 0, 10, .inl (fun _ => 0))]
set_option maxRecDepth 20000 in
theorem zu_t8_ok (b0 sw : Nat) (l : Launch) (D : va_G) (cA : Nat → ClassId) (qs : Nat) (h : Nat) : zc_M b0 sw l D cA 1 4 40 yX8_init cX8_init 2 [.ref qs] h (.inr (8, zu_d8)) (zu_t8 cA qs h) := by
  refine zc_met (by decide) (Nat.le_of_ble_eq_true rfl) ?_
  rintro p e s m below meth c ls ⟨hx, hb, hml, hown, hts, hr, hlk⟩ hin hP hK hb0 hN hl
  have hl : lv_has ls 2 [(0, .ref h), (1, .ref qs)] := hl
  have hS : va_S (fun q => h ≤ q) s.heap s.heap [] := va_S.rf
  refine lv_aload_n hx hb dX8_init_0 rfl (lv_at hl 0 rfl) ?_
  refine W.objInit hx hb hown (hts _ zu_o8) (hts _ zu_oi) (hts _ zu_oc) rfl (by rw [hml]; exact hl.1) rfl dX8_init_1 (Nat.le_of_ble_eq_true rfl) (Nat.le_of_ble_eq_true rfl) ?_
  refine W.eq (g2 := F0 m 4 ls []) rfl ?_
  refine lv_aload_n hx hb dX8_init_4 rfl (lv_at hl 0 rfl) ?_
  refine lv_bipush (v := 10) hx hb dX8_init_5 (by decide) ?_
  refine zc_newa (atype := .int) (t := 0) (ty := .int) (a1 := .inl (fun _ => 0)) (N' := 10) hx hb (hts _ zu_a_int) rfl hK rfl (fun _ h => h) hP hS (fun _ => rfl) (by decide) (by decide) (by decide) (Nat.le_of_ble_eq_true rfl) (Nat.le_of_ble_eq_true rfl) dX8_init_7 (fun H hP hS => ?_)
  have hP : zc_P D h [.inr (8, [.null, .null, .null, .null, .null]), .inl (cA 0, 10, .inl (fun _ => 0))] H := hP
  refine W.widen (k := 1) (n := 10) (Nat.le_of_ble_eq_true rfl) (Nat.le_of_ble_eq_true rfl) ?_
  refine zc_put0 (v := .ref (h + 1)) hx hb hts zy_co8 hown hK hP hS (Nat.le_refl _) 1 (by decide) (hts _ (zy_mem (zy_t2 (List.mem_of_getElem? (i := 76) (by decide +kernel))) rfl)) (Or.inl ⟨rfl, hin, rfl⟩) rfl rfl (Nat.le_of_ble_eq_true rfl) dX8_init_9 (fun H locs hP hS => ?_)
  have hP : zc_P D h [.inr (8, [.null, .ref (h + 1), .null, .null, .null]), .inl (cA 0, 10, .inl (fun _ => 0))] H := hP
  refine lv_aload_n hx hb dX8_init_12 rfl (lv_at hl 0 rfl) ?_
  refine lv_bipush (v := 10) hx hb dX8_init_13 (by decide) ?_
  refine zc_newa (atype := .int) (t := 0) (ty := .int) (a1 := .inl (fun _ => 0)) (N' := 10) hx hb (hts _ zu_a_int) rfl hK rfl (fun _ h => h) hP hS (fun _ => rfl) (by decide) (by decide) (by decide) (Nat.le_of_ble_eq_true rfl) (Nat.le_of_ble_eq_true rfl) dX8_init_15 (fun H hP hS => ?_)
  have hP : zc_P D h [.inr (8, [.null, .ref (h + 1), .null, .null, .null]), .inl (cA 0, 10, .inl (fun _ => 0)), .inl (cA 0, 10, .inl (fun _ => 0))] H := hP
  refine W.widen (k := 2) (n := 20) (Nat.le_of_ble_eq_true rfl) (Nat.le_of_ble_eq_true rfl) ?_
  refine zc_put0 (v := .ref (h + 2)) hx hb hts zy_co8 hown hK hP hS (Nat.le_refl _) 2 (by decide) (hts _ (zy_mem (zy_t2 (List.mem_of_getElem? (i := 77) (by decide +kernel))) rfl)) (Or.inl ⟨rfl, hin, rfl⟩) rfl rfl (Nat.le_of_ble_eq_true rfl) dX8_init_17 (fun H locs hP hS => ?_)
  have hP : zc_P D h [.inr (8, [.null, .ref (h + 1), .ref (h + 2), .null, .null]), .inl (cA 0, 10, .inl (fun _ => 0)), .inl (cA 0, 10, .inl (fun _ => 0))] H := hP
  refine lv_aload_n hx hb dX8_init_20 rfl (lv_at hl 0 rfl) ?_
  refine lv_bipush (v := 10) hx hb dX8_init_21 (by decide) ?_
  refine zc_newa (atype := .int) (t := 0) (ty := .int) (a1 := .inl (fun _ => 0)) (N' := 10) hx hb (hts _ zu_a_int) rfl hK rfl (fun _ h => h) hP hS (fun _ => rfl) (by decide) (by decide) (by decide) (Nat.le_of_ble_eq_true rfl) (Nat.le_of_ble_eq_true rfl) dX8_init_23 (fun H hP hS => ?_)
  have hP : zc_P D h [.inr (8, [.null, .ref (h + 1), .ref (h + 2), .null, .null]), .inl (cA 0, 10, .inl (fun _ => 0)), .inl (cA 0, 10, .inl (fun _ => 0)), .inl (cA 0, 10, .inl (fun _ => 0))] H := hP
  refine W.widen (k := 3) (n := 30) (Nat.le_of_ble_eq_true rfl) (Nat.le_of_ble_eq_true rfl) ?_
  refine zc_put0 (v := .ref (h + 3)) hx hb hts zy_co8 hown hK hP hS (Nat.le_refl _) 3 (by decide) (hts _ (zy_mem (zy_t2 (List.mem_of_getElem? (i := 78) (by decide +kernel))) rfl)) (Or.inl ⟨rfl, hin, rfl⟩) rfl rfl (Nat.le_of_ble_eq_true rfl) dX8_init_25 (fun H locs hP hS => ?_)
  have hP : zc_P D h [.inr (8, [.null, .ref (h + 1), .ref (h + 2), .ref (h + 3), .null]), .inl (cA 0, 10, .inl (fun _ => 0)), .inl (cA 0, 10, .inl (fun _ => 0)), .inl (cA 0, 10, .inl (fun _ => 0))] H := hP
  refine lv_aload_n hx hb dX8_init_28 rfl (lv_at hl 0 rfl) ?_
  refine lv_bipush (v := 10) hx hb dX8_init_29 (by decide) ?_
  refine zc_newa (atype := .int) (t := 0) (ty := .int) (a1 := .inl (fun _ => 0)) (N' := 10) hx hb (hts _ zu_a_int) rfl hK rfl (fun _ h => h) hP hS (fun _ => rfl) (by decide) (by decide) (by decide) (Nat.le_of_ble_eq_true rfl) (Nat.le_of_ble_eq_true rfl) dX8_init_31 (fun H hP hS => ?_)
  have hP : zc_P D h [.inr (8, [.null, .ref (h + 1), .ref (h + 2), .ref (h + 3), .null]), .inl (cA 0, 10, .inl (fun _ => 0)), .inl (cA 0, 10, .inl (fun _ => 0)), .inl (cA 0, 10, .inl (fun _ => 0)), .inl (cA 0, 10, .inl (fun _ => 0))] H := hP
  refine W.widen (k := 4) (n := 40) (Nat.le_of_ble_eq_true rfl) (Nat.le_of_ble_eq_true rfl) ?_
  refine zc_put0 (v := .ref (h + 4)) hx hb hts zy_co8 hown hK hP hS (Nat.le_refl _) 4 (by decide) (hts _ (zy_mem (zy_t2 (List.mem_of_getElem? (i := 79) (by decide +kernel))) rfl)) (Or.inl ⟨rfl, hin, rfl⟩) rfl rfl (Nat.le_of_ble_eq_true rfl) dX8_init_33 (fun H locs hP hS => ?_)
  have hP : zc_P D h [.inr (8, [.null, .ref (h + 1), .ref (h + 2), .ref (h + 3), .ref (h + 4)]), .inl (cA 0, 10, .inl (fun _ => 0)), .inl (cA 0, 10, .inl (fun _ => 0)), .inl (cA 0, 10, .inl (fun _ => 0)), .inl (cA 0, 10, .inl (fun _ => 0))] H := hP
  refine lv_aload_n hx hb dX8_init_36 rfl (lv_at hl 0 rfl) ?_
  refine lv_aload_n hx hb dX8_init_37 rfl (lv_at hl 1 rfl) ?_
  refine zc_put0 (v := .ref qs) hx hb hts zy_co8 hown hK hP hS (Nat.le_refl _) 0 (by decide) (hts _ (zy_mem (zy_t2 (List.mem_of_getElem? (i := 75) (by decide +kernel))) rfl)) (Or.inl ⟨rfl, hin, rfl⟩) rfl rfl (Nat.le_of_ble_eq_true rfl) dX8_init_38 (fun H locs hP hS => ?_)
  have hP : zc_P D h [.inr (8, [.ref qs, .ref (h + 1), .ref (h + 2), .ref (h + 3), .ref (h + 4)]), .inl (cA 0, 10, .inl (fun _ => 0)), .inl (cA 0, 10, .inl (fun _ => 0)), .inl (cA 0, 10, .inl (fun _ => 0)), .inl (cA 0, 10, .inl (fun _ => 0))] H := hP
  exact W.vret hx hb hr (fun t ht hW => ⟨rfl, by rw [ht]; exact hP, hS.F ht⟩) hS.2.2 dX8_init_41 hlk
def zu_t3 (cA : Nat → ClassId) (qs : Nat) (qm : Nat) (h : Nat) : List va_E := [.inr (3, [.ref (h + 1), .ref (h + 2), .int 0, .int 0, .ref qs, .ref qm, .ref (h + 3), .null, .int 0, .int 0, .int 0]), .inl (cA 0, 10, .inl (fun _ => 0)), .inl (cA 0, 10, .inl (fun _ => 0)), .inl (cA 0, 10, .inl (fun _ => 0))]
set_option maxRecDepth 20000 in
theorem zu_t3_ok (b0 sw : Nat) (l : Launch) (D : va_G) (cA : Nat → ClassId) (qs : Nat) (qm : Nat) (h : Nat) : zc_M b0 sw l D cA 1 3 30 yX3_init cX3_init 3 [.ref qs, .ref qm] h (.inr (3, zu_d3)) (zu_t3 cA qs qm h) := by
  refine zc_met (by decide) (Nat.le_of_ble_eq_true rfl) ?_
  rintro p e s m below meth c ls ⟨hx, hb, hml, hown, hts, hr, hlk⟩ hin hP hK hb0 hN hl
  have hl : lv_has ls 3 [(0, .ref h), (1, .ref qs), (2, .ref qm)] := hl
  have hS : va_S (fun q => h ≤ q) s.heap s.heap [] := va_S.rf
  refine lv_aload_n hx hb dX3_init_0 rfl (lv_at hl 0 rfl) ?_
  refine W.objInit hx hb hown (hts _ zu_o3) (hts _ zu_oi) (hts _ zu_oc) rfl (by rw [hml]; exact hl.1) rfl dX3_init_1 (Nat.le_of_ble_eq_true rfl) (Nat.le_of_ble_eq_true rfl) ?_
  refine W.eq (g2 := F0 m 4 ls []) rfl ?_
  refine lv_aload_n hx hb dX3_init_4 rfl (lv_at hl 0 rfl) ?_
  refine lv_bipush (v := 10) hx hb dX3_init_5 (by decide) ?_
  refine zc_newa (atype := .int) (t := 0) (ty := .int) (a1 := .inl (fun _ => 0)) (N' := 10) hx hb (hts _ zu_a_int) rfl hK rfl (fun _ h => h) hP hS (fun _ => rfl) (by decide) (by decide) (by decide) (Nat.le_of_ble_eq_true rfl) (Nat.le_of_ble_eq_true rfl) dX3_init_7 (fun H hP hS => ?_)
  have hP : zc_P D h [.inr (3, [.null, .null, .int 0, .int 0, .null, .null, .null, .null, .int 0, .int 0, .int 0]), .inl (cA 0, 10, .inl (fun _ => 0))] H := hP
  refine W.widen (k := 1) (n := 10) (Nat.le_of_ble_eq_true rfl) (Nat.le_of_ble_eq_true rfl) ?_
  refine zc_put0 (v := .ref (h + 1)) hx hb hts zy_co3 hown hK hP hS (Nat.le_refl _) 0 (by decide) (hts _ (zy_mem (zy_t2 (List.mem_of_getElem? (i := 97) (by decide +kernel))) rfl)) (Or.inl ⟨rfl, hin, rfl⟩) rfl rfl (Nat.le_of_ble_eq_true rfl) dX3_init_9 (fun H locs hP hS => ?_)
  have hP : zc_P D h [.inr (3, [.ref (h + 1), .null, .int 0, .int 0, .null, .null, .null, .null, .int 0, .int 0, .int 0]), .inl (cA 0, 10, .inl (fun _ => 0))] H := hP
  refine lv_aload_n hx hb dX3_init_12 rfl (lv_at hl 0 rfl) ?_
  refine lv_bipush (v := 10) hx hb dX3_init_13 (by decide) ?_
  refine zc_newa (atype := .int) (t := 0) (ty := .int) (a1 := .inl (fun _ => 0)) (N' := 10) hx hb (hts _ zu_a_int) rfl hK rfl (fun _ h => h) hP hS (fun _ => rfl) (by decide) (by decide) (by decide) (Nat.le_of_ble_eq_true rfl) (Nat.le_of_ble_eq_true rfl) dX3_init_15 (fun H hP hS => ?_)
  have hP : zc_P D h [.inr (3, [.ref (h + 1), .null, .int 0, .int 0, .null, .null, .null, .null, .int 0, .int 0, .int 0]), .inl (cA 0, 10, .inl (fun _ => 0)), .inl (cA 0, 10, .inl (fun _ => 0))] H := hP
  refine W.widen (k := 2) (n := 20) (Nat.le_of_ble_eq_true rfl) (Nat.le_of_ble_eq_true rfl) ?_
  refine zc_put0 (v := .ref (h + 2)) hx hb hts zy_co3 hown hK hP hS (Nat.le_refl _) 1 (by decide) (hts _ (zy_mem (zy_t2 (List.mem_of_getElem? (i := 99) (by decide +kernel))) rfl)) (Or.inl ⟨rfl, hin, rfl⟩) rfl rfl (Nat.le_of_ble_eq_true rfl) dX3_init_17 (fun H locs hP hS => ?_)
  have hP : zc_P D h [.inr (3, [.ref (h + 1), .ref (h + 2), .int 0, .int 0, .null, .null, .null, .null, .int 0, .int 0, .int 0]), .inl (cA 0, 10, .inl (fun _ => 0)), .inl (cA 0, 10, .inl (fun _ => 0))] H := hP
  refine lv_aload_n hx hb dX3_init_20 rfl (lv_at hl 0 rfl) ?_
  refine lv_iconst (v := 0) hx hb dX3_init_21 (by decide) ?_
  refine zc_put0 (v := .int 0) hx hb hts zy_co3 hown hK hP hS (Nat.le_refl _) 2 (by decide) (hts _ (zy_mem (zy_t2 (List.mem_of_getElem? (i := 101) (by decide +kernel))) rfl)) (Or.inr rfl) rfl rfl (Nat.le_of_ble_eq_true rfl) dX3_init_22 (fun H locs hP hS => ?_)
  have hP : zc_P D h [.inr (3, [.ref (h + 1), .ref (h + 2), .int 0, .int 0, .null, .null, .null, .null, .int 0, .int 0, .int 0]), .inl (cA 0, 10, .inl (fun _ => 0)), .inl (cA 0, 10, .inl (fun _ => 0))] H := hP
  refine lv_aload_n hx hb dX3_init_25 rfl (lv_at hl 0 rfl) ?_
  refine lv_iconst (v := 0) hx hb dX3_init_26 (by decide) ?_
  refine zc_put0 (v := .int 0) hx hb hts zy_co3 hown hK hP hS (Nat.le_refl _) 3 (by decide) (hts _ (zy_mem (zy_t2 (List.mem_of_getElem? (i := 103) (by decide +kernel))) rfl)) (Or.inr rfl) rfl rfl (Nat.le_of_ble_eq_true rfl) dX3_init_27 (fun H locs hP hS => ?_)
  have hP : zc_P D h [.inr (3, [.ref (h + 1), .ref (h + 2), .int 0, .int 0, .null, .null, .null, .null, .int 0, .int 0, .int 0]), .inl (cA 0, 10, .inl (fun _ => 0)), .inl (cA 0, 10, .inl (fun _ => 0))] H := hP
  refine lv_aload_n hx hb dX3_init_30 rfl (lv_at hl 0 rfl) ?_
  refine lv_bipush (v := 10) hx hb dX3_init_31 (by decide) ?_
  refine zc_newa (atype := .int) (t := 0) (ty := .int) (a1 := .inl (fun _ => 0)) (N' := 10) hx hb (hts _ zu_a_int) rfl hK rfl (fun _ h => h) hP hS (fun _ => rfl) (by decide) (by decide) (by decide) (Nat.le_of_ble_eq_true rfl) (Nat.le_of_ble_eq_true rfl) dX3_init_33 (fun H hP hS => ?_)
  have hP : zc_P D h [.inr (3, [.ref (h + 1), .ref (h + 2), .int 0, .int 0, .null, .null, .null, .null, .int 0, .int 0, .int 0]), .inl (cA 0, 10, .inl (fun _ => 0)), .inl (cA 0, 10, .inl (fun _ => 0)), .inl (cA 0, 10, .inl (fun _ => 0))] H := hP
  refine W.widen (k := 3) (n := 30) (Nat.le_of_ble_eq_true rfl) (Nat.le_of_ble_eq_true rfl) ?_
  refine zc_put0 (v := .ref (h + 3)) hx hb hts zy_co3 hown hK hP hS (Nat.le_refl _) 6 (by decide) (hts _ (zy_mem (zy_t2 (List.mem_of_getElem? (i := 107) (by decide +kernel))) rfl)) (Or.inl ⟨rfl, hin, rfl⟩) rfl rfl (Nat.le_of_ble_eq_true rfl) dX3_init_35 (fun H locs hP hS => ?_)
  have hP : zc_P D h [.inr (3, [.ref (h + 1), .ref (h + 2), .int 0, .int 0, .null, .null, .ref (h + 3), .null, .int 0, .int 0, .int 0]), .inl (cA 0, 10, .inl (fun _ => 0)), .inl (cA 0, 10, .inl (fun _ => 0)), .inl (cA 0, 10, .inl (fun _ => 0))] H := hP
  refine lv_aload_n hx hb dX3_init_38 rfl (lv_at hl 0 rfl) ?_
  refine lv_null hx hb dX3_init_39 ?_
  refine zc_put0 (v := .null) hx hb hts zy_co3 hown hK hP hS (Nat.le_refl _) 7 (by decide) (hts _ (zy_mem (zy_t2 (List.mem_of_getElem? (i := 108) (by decide +kernel))) rfl)) (Or.inr rfl) rfl rfl (Nat.le_of_ble_eq_true rfl) dX3_init_40 (fun H locs hP hS => ?_)
  have hP : zc_P D h [.inr (3, [.ref (h + 1), .ref (h + 2), .int 0, .int 0, .null, .null, .ref (h + 3), .null, .int 0, .int 0, .int 0]), .inl (cA 0, 10, .inl (fun _ => 0)), .inl (cA 0, 10, .inl (fun _ => 0)), .inl (cA 0, 10, .inl (fun _ => 0))] H := hP
  refine lv_aload_n hx hb dX3_init_43 rfl (lv_at hl 0 rfl) ?_
  refine lv_iconst (v := 0) hx hb dX3_init_44 (by decide) ?_
  refine zc_put0 (v := .int 0) hx hb hts zy_co3 hown hK hP hS (Nat.le_refl _) 8 (by decide) (hts _ (zy_mem (zy_t2 (List.mem_of_getElem? (i := 109) (by decide +kernel))) rfl)) (Or.inr rfl) rfl rfl (Nat.le_of_ble_eq_true rfl) dX3_init_45 (fun H locs hP hS => ?_)
  have hP : zc_P D h [.inr (3, [.ref (h + 1), .ref (h + 2), .int 0, .int 0, .null, .null, .ref (h + 3), .null, .int 0, .int 0, .int 0]), .inl (cA 0, 10, .inl (fun _ => 0)), .inl (cA 0, 10, .inl (fun _ => 0)), .inl (cA 0, 10, .inl (fun _ => 0))] H := hP
  refine lv_aload_n hx hb dX3_init_48 rfl (lv_at hl 0 rfl) ?_
  refine lv_iconst (v := 0) hx hb dX3_init_49 (by decide) ?_
  refine zc_put0 (v := .int 0) hx hb hts zy_co3 hown hK hP hS (Nat.le_refl _) 9 (by decide) (hts _ (zy_mem (zy_t2 (List.mem_of_getElem? (i := 110) (by decide +kernel))) rfl)) (Or.inr rfl) rfl rfl (Nat.le_of_ble_eq_true rfl) dX3_init_50 (fun H locs hP hS => ?_)
  have hP : zc_P D h [.inr (3, [.ref (h + 1), .ref (h + 2), .int 0, .int 0, .null, .null, .ref (h + 3), .null, .int 0, .int 0, .int 0]), .inl (cA 0, 10, .inl (fun _ => 0)), .inl (cA 0, 10, .inl (fun _ => 0)), .inl (cA 0, 10, .inl (fun _ => 0))] H := hP
  refine lv_aload_n hx hb dX3_init_53 rfl (lv_at hl 0 rfl) ?_
  refine lv_iconst (v := 0) hx hb dX3_init_54 (by decide) ?_
  refine zc_put0 (v := .int 0) hx hb hts zy_co3 hown hK hP hS (Nat.le_refl _) 10 (by decide) (hts _ (zy_mem (zy_t2 (List.mem_of_getElem? (i := 111) (by decide +kernel))) rfl)) (Or.inr rfl) rfl rfl (Nat.le_of_ble_eq_true rfl) dX3_init_55 (fun H locs hP hS => ?_)
  have hP : zc_P D h [.inr (3, [.ref (h + 1), .ref (h + 2), .int 0, .int 0, .null, .null, .ref (h + 3), .null, .int 0, .int 0, .int 0]), .inl (cA 0, 10, .inl (fun _ => 0)), .inl (cA 0, 10, .inl (fun _ => 0)), .inl (cA 0, 10, .inl (fun _ => 0))] H := hP
  refine lv_aload_n hx hb dX3_init_58 rfl (lv_at hl 0 rfl) ?_
  refine lv_aload_n hx hb dX3_init_59 rfl (lv_at hl 1 rfl) ?_
  refine zc_put0 (v := .ref qs) hx hb hts zy_co3 hown hK hP hS (Nat.le_refl _) 4 (by decide) (hts _ (zy_mem (zy_t2 (List.mem_of_getElem? (i := 105) (by decide +kernel))) rfl)) (Or.inl ⟨rfl, hin, rfl⟩) rfl rfl (Nat.le_of_ble_eq_true rfl) dX3_init_60 (fun H locs hP hS => ?_)
  have hP : zc_P D h [.inr (3, [.ref (h + 1), .ref (h + 2), .int 0, .int 0, .ref qs, .null, .ref (h + 3), .null, .int 0, .int 0, .int 0]), .inl (cA 0, 10, .inl (fun _ => 0)), .inl (cA 0, 10, .inl (fun _ => 0)), .inl (cA 0, 10, .inl (fun _ => 0))] H := hP
  refine lv_aload_n hx hb dX3_init_63 rfl (lv_at hl 0 rfl) ?_
  refine lv_aload_n hx hb dX3_init_64 rfl (lv_at hl 2 rfl) ?_
  refine zc_put0 (v := .ref qm) hx hb hts zy_co3 hown hK hP hS (Nat.le_refl _) 5 (by decide) (hts _ (zy_mem (zy_t2 (List.mem_of_getElem? (i := 106) (by decide +kernel))) rfl)) (Or.inl ⟨rfl, hin, rfl⟩) rfl rfl (Nat.le_of_ble_eq_true rfl) dX3_init_65 (fun H locs hP hS => ?_)
  have hP : zc_P D h [.inr (3, [.ref (h + 1), .ref (h + 2), .int 0, .int 0, .ref qs, .ref qm, .ref (h + 3), .null, .int 0, .int 0, .int 0]), .inl (cA 0, 10, .inl (fun _ => 0)), .inl (cA 0, 10, .inl (fun _ => 0)), .inl (cA 0, 10, .inl (fun _ => 0))] H := hP
  exact W.vret hx hb hr (fun t ht hW => ⟨rfl, by rw [ht]; exact hP, hS.F ht⟩) hS.2.2 dX3_init_68 hlk
def zu_t5 (cA : Nat → ClassId) (sw : Nat) (h : Nat) : List va_E := [.inr (5, [.int 0, .int 0, .int (-1), .ref (h + 1), .ref (h + 2), .ref (h + 3), .int 0, .int 0, .ref sw, .int (-1), .null]), .inl (cA 6, 301, .inr (.inr (.inr (.inr (fun _ => none))))), .inl (cA 0, 301, .inl (fun _ => 0)), .inl (cA 0, 301, .inl (fun _ => 0))]
set_option maxRecDepth 20000 in
theorem zu_t5_ok (b0 sw : Nat) (l : Launch) (D : va_G) (cA : Nat → ClassId) (h : Nat) : zc_M b0 sw l D cA 1 3 903 yX5_init cX5_init 1 [] h (.inr (5, zu_d5)) (zu_t5 cA sw h) := by
  refine zc_met (by decide) (Nat.le_of_ble_eq_true rfl) ?_
  rintro p e s m below meth c ls ⟨hx, hb, hml, hown, hts, hr, hlk⟩ hin hP hK hb0 hN hl
  have hl : lv_has ls 1 [(0, .ref h)] := hl
  have hS : va_S (fun q => h ≤ q) s.heap s.heap [] := va_S.rf
  refine lv_aload_n hx hb dX5_init_0 rfl (lv_at hl 0 rfl) ?_
  refine W.objInit hx hb hown (hts _ zu_o5) (hts _ zu_oi) (hts _ zu_oc) rfl (by rw [hml]; exact hl.1) rfl dX5_init_1 (Nat.le_of_ble_eq_true rfl) (Nat.le_of_ble_eq_true rfl) ?_
  refine W.eq (g2 := F0 m 4 ls []) rfl ?_
  refine lv_aload_n hx hb dX5_init_4 rfl (lv_at hl 0 rfl) ?_
  refine lv_iconst (v := 0) hx hb dX5_init_5 (by decide) ?_
  refine zc_put0 (v := .int 0) hx hb hts zy_co5 hown hK hP hS (Nat.le_refl _) 0 (by decide) (hts _ (zy_mem (zy_t2 (List.mem_of_getElem? (i := 145) (by decide +kernel))) rfl)) (Or.inr rfl) rfl rfl (Nat.le_of_ble_eq_true rfl) dX5_init_6 (fun H locs hP hS => ?_)
  have hP : zc_P D h [.inr (5, [.int 0, .int 0, .int 0, .null, .null, .null, .int 0, .int 0, .null, .int 0, .null])] H := hP
  refine lv_aload_n hx hb dX5_init_9 rfl (lv_at hl 0 rfl) ?_
  refine lv_iconst (v := 0) hx hb dX5_init_10 (by decide) ?_
  refine zc_put0 (v := .int 0) hx hb hts zy_co5 hown hK hP hS (Nat.le_refl _) 1 (by decide) (hts _ (zy_mem (zy_t2 (List.mem_of_getElem? (i := 147) (by decide +kernel))) rfl)) (Or.inr rfl) rfl rfl (Nat.le_of_ble_eq_true rfl) dX5_init_11 (fun H locs hP hS => ?_)
  have hP : zc_P D h [.inr (5, [.int 0, .int 0, .int 0, .null, .null, .null, .int 0, .int 0, .null, .int 0, .null])] H := hP
  refine lv_aload_n hx hb dX5_init_14 rfl (lv_at hl 0 rfl) ?_
  refine lv_iconst (v := (-1)) hx hb dX5_init_15 (by decide) ?_
  refine zc_put0 (v := .int (-1)) hx hb hts zy_co5 hown hK hP hS (Nat.le_refl _) 2 (by decide) (hts _ (zy_mem (zy_t2 (List.mem_of_getElem? (i := 149) (by decide +kernel))) rfl)) (Or.inr rfl) rfl rfl (Nat.le_of_ble_eq_true rfl) dX5_init_16 (fun H locs hP hS => ?_)
  have hP : zc_P D h [.inr (5, [.int 0, .int 0, .int (-1), .null, .null, .null, .int 0, .int 0, .null, .int 0, .null])] H := hP
  refine lv_aload_n hx hb dX5_init_19 rfl (lv_at hl 0 rfl) ?_
  refine lv_sipush (v := 301) hx hb dX5_init_20 (by decide) ?_
  refine zc_newq (t := 6) (N' := 301) hx hb hown (hts _ zu_k_RX5_22) hN.2.2.2.2.2.2.2.2.1 hK rfl hP hS (by decide) (by decide) (by decide) (Nat.le_of_ble_eq_true rfl) (Nat.le_of_ble_eq_true rfl) dX5_init_23 (fun H hP hS => ?_)
  have hP : zc_P D h [.inr (5, [.int 0, .int 0, .int (-1), .null, .null, .null, .int 0, .int 0, .null, .int 0, .null]), .inl (cA 6, 301, .inr (.inr (.inr (.inr (fun _ => none)))))] H := hP
  refine W.widen (k := 1) (n := 301) (Nat.le_of_ble_eq_true rfl) (Nat.le_of_ble_eq_true rfl) ?_
  refine zc_put0 (v := .ref (h + 1)) hx hb hts zy_co5 hown hK hP hS (Nat.le_refl _) 3 (by decide) (hts _ (zy_mem (zy_t2 (List.mem_of_getElem? (i := 151) (by decide +kernel))) rfl)) (Or.inl ⟨rfl, hin, rfl⟩) rfl rfl (Nat.le_of_ble_eq_true rfl) dX5_init_26 (fun H locs hP hS => ?_)
  have hP : zc_P D h [.inr (5, [.int 0, .int 0, .int (-1), .ref (h + 1), .null, .null, .int 0, .int 0, .null, .int 0, .null]), .inl (cA 6, 301, .inr (.inr (.inr (.inr (fun _ => none)))))] H := hP
  refine lv_aload_n hx hb dX5_init_29 rfl (lv_at hl 0 rfl) ?_
  refine lv_sipush (v := 301) hx hb dX5_init_30 (by decide) ?_
  refine zc_newa (atype := .int) (t := 0) (ty := .int) (a1 := .inl (fun _ => 0)) (N' := 301) hx hb (hts _ zu_a_int) rfl hK rfl (fun _ h => h) hP hS (fun _ => rfl) (by decide) (by decide) (by decide) (Nat.le_of_ble_eq_true rfl) (Nat.le_of_ble_eq_true rfl) dX5_init_33 (fun H hP hS => ?_)
  have hP : zc_P D h [.inr (5, [.int 0, .int 0, .int (-1), .ref (h + 1), .null, .null, .int 0, .int 0, .null, .int 0, .null]), .inl (cA 6, 301, .inr (.inr (.inr (.inr (fun _ => none))))), .inl (cA 0, 301, .inl (fun _ => 0))] H := hP
  refine W.widen (k := 2) (n := 602) (Nat.le_of_ble_eq_true rfl) (Nat.le_of_ble_eq_true rfl) ?_
  refine zc_put0 (v := .ref (h + 2)) hx hb hts zy_co5 hown hK hP hS (Nat.le_refl _) 4 (by decide) (hts _ (zy_mem (zy_t2 (List.mem_of_getElem? (i := 152) (by decide +kernel))) rfl)) (Or.inl ⟨rfl, hin, rfl⟩) rfl rfl (Nat.le_of_ble_eq_true rfl) dX5_init_35 (fun H locs hP hS => ?_)
  have hP : zc_P D h [.inr (5, [.int 0, .int 0, .int (-1), .ref (h + 1), .ref (h + 2), .null, .int 0, .int 0, .null, .int 0, .null]), .inl (cA 6, 301, .inr (.inr (.inr (.inr (fun _ => none))))), .inl (cA 0, 301, .inl (fun _ => 0))] H := hP
  refine lv_aload_n hx hb dX5_init_38 rfl (lv_at hl 0 rfl) ?_
  refine lv_sipush (v := 301) hx hb dX5_init_39 (by decide) ?_
  refine zc_newa (atype := .int) (t := 0) (ty := .int) (a1 := .inl (fun _ => 0)) (N' := 301) hx hb (hts _ zu_a_int) rfl hK rfl (fun _ h => h) hP hS (fun _ => rfl) (by decide) (by decide) (by decide) (Nat.le_of_ble_eq_true rfl) (Nat.le_of_ble_eq_true rfl) dX5_init_42 (fun H hP hS => ?_)
  have hP : zc_P D h [.inr (5, [.int 0, .int 0, .int (-1), .ref (h + 1), .ref (h + 2), .null, .int 0, .int 0, .null, .int 0, .null]), .inl (cA 6, 301, .inr (.inr (.inr (.inr (fun _ => none))))), .inl (cA 0, 301, .inl (fun _ => 0)), .inl (cA 0, 301, .inl (fun _ => 0))] H := hP
  refine W.widen (k := 3) (n := 903) (Nat.le_of_ble_eq_true rfl) (Nat.le_of_ble_eq_true rfl) ?_
  refine zc_put0 (v := .ref (h + 3)) hx hb hts zy_co5 hown hK hP hS (Nat.le_refl _) 5 (by decide) (hts _ (zy_mem (zy_t2 (List.mem_of_getElem? (i := 153) (by decide +kernel))) rfl)) (Or.inl ⟨rfl, hin, rfl⟩) rfl rfl (Nat.le_of_ble_eq_true rfl) dX5_init_44 (fun H locs hP hS => ?_)
  have hP : zc_P D h [.inr (5, [.int 0, .int 0, .int (-1), .ref (h + 1), .ref (h + 2), .ref (h + 3), .int 0, .int 0, .null, .int 0, .null]), .inl (cA 6, 301, .inr (.inr (.inr (.inr (fun _ => none))))), .inl (cA 0, 301, .inl (fun _ => 0)), .inl (cA 0, 301, .inl (fun _ => 0))] H := hP
  refine lv_aload_n hx hb dX5_init_47 rfl (lv_at hl 0 rfl) ?_
  refine lv_iconst (v := 0) hx hb dX5_init_48 (by decide) ?_
  refine zc_put0 (v := .int 0) hx hb hts zy_co5 hown hK hP hS (Nat.le_refl _) 6 (by decide) (hts _ (zy_mem (zy_t2 (List.mem_of_getElem? (i := 154) (by decide +kernel))) rfl)) (Or.inr rfl) rfl rfl (Nat.le_of_ble_eq_true rfl) dX5_init_49 (fun H locs hP hS => ?_)
  have hP : zc_P D h [.inr (5, [.int 0, .int 0, .int (-1), .ref (h + 1), .ref (h + 2), .ref (h + 3), .int 0, .int 0, .null, .int 0, .null]), .inl (cA 6, 301, .inr (.inr (.inr (.inr (fun _ => none))))), .inl (cA 0, 301, .inl (fun _ => 0)), .inl (cA 0, 301, .inl (fun _ => 0))] H := hP
  refine lv_aload_n hx hb dX5_init_52 rfl (lv_at hl 0 rfl) ?_
  refine lv_iconst (v := 0) hx hb dX5_init_53 (by decide) ?_
  refine zc_put0 (v := .int 0) hx hb hts zy_co5 hown hK hP hS (Nat.le_refl _) 7 (by decide) (hts _ (zy_mem (zy_t2 (List.mem_of_getElem? (i := 155) (by decide +kernel))) rfl)) (Or.inr rfl) rfl rfl (Nat.le_of_ble_eq_true rfl) dX5_init_54 (fun H locs hP hS => ?_)
  have hP : zc_P D h [.inr (5, [.int 0, .int 0, .int (-1), .ref (h + 1), .ref (h + 2), .ref (h + 3), .int 0, .int 0, .null, .int 0, .null]), .inl (cA 6, 301, .inr (.inr (.inr (.inr (fun _ => none))))), .inl (cA 0, 301, .inl (fun _ => 0)), .inl (cA 0, 301, .inl (fun _ => 0))] H := hP
  refine lv_aload_n hx hb dX5_init_57 rfl (lv_at hl 0 rfl) ?_
  refine va_gets hx hb hN.2.2.2.2.2.2.2.2.2 (zc_S hb0 hS) hown (hts _ (zy_mem (zy_t2 (List.mem_of_getElem? (i := 143) (by decide +kernel))) rfl)) (fun _ h => h) dX5_init_58 ?_
  refine zc_put0 (v := .ref sw) hx hb hts zy_co5 hown hK hP hS (Nat.le_refl _) 8 (by decide) (hts _ (zy_mem (zy_t2 (List.mem_of_getElem? (i := 156) (by decide +kernel))) rfl)) (Or.inr rfl) rfl rfl (Nat.le_of_ble_eq_true rfl) dX5_init_61 (fun H locs hP hS => ?_)
  have hP : zc_P D h [.inr (5, [.int 0, .int 0, .int (-1), .ref (h + 1), .ref (h + 2), .ref (h + 3), .int 0, .int 0, .ref sw, .int 0, .null]), .inl (cA 6, 301, .inr (.inr (.inr (.inr (fun _ => none))))), .inl (cA 0, 301, .inl (fun _ => 0)), .inl (cA 0, 301, .inl (fun _ => 0))] H := hP
  refine lv_aload_n hx hb dX5_init_64 rfl (lv_at hl 0 rfl) ?_
  refine lv_iconst (v := (-1)) hx hb dX5_init_65 (by decide) ?_
  refine zc_put0 (v := .int (-1)) hx hb hts zy_co5 hown hK hP hS (Nat.le_refl _) 9 (by decide) (hts _ (zy_mem (zy_t2 (List.mem_of_getElem? (i := 157) (by decide +kernel))) rfl)) (Or.inr rfl) rfl rfl (Nat.le_of_ble_eq_true rfl) dX5_init_66 (fun H locs hP hS => ?_)
  have hP : zc_P D h [.inr (5, [.int 0, .int 0, .int (-1), .ref (h + 1), .ref (h + 2), .ref (h + 3), .int 0, .int 0, .ref sw, .int (-1), .null]), .inl (cA 6, 301, .inr (.inr (.inr (.inr (fun _ => none))))), .inl (cA 0, 301, .inl (fun _ => 0)), .inl (cA 0, 301, .inl (fun _ => 0))] H := hP
  refine lv_aload_n hx hb dX5_init_69 rfl (lv_at hl 0 rfl) ?_
  refine lv_null hx hb dX5_init_70 ?_
  refine zc_put0 (v := .null) hx hb hts zy_co5 hown hK hP hS (Nat.le_refl _) 10 (by decide) (hts _ (zy_mem (zy_t2 (List.mem_of_getElem? (i := 158) (by decide +kernel))) rfl)) (Or.inr rfl) rfl rfl (Nat.le_of_ble_eq_true rfl) dX5_init_71 (fun H locs hP hS => ?_)
  have hP : zc_P D h [.inr (5, [.int 0, .int 0, .int (-1), .ref (h + 1), .ref (h + 2), .ref (h + 3), .int 0, .int 0, .ref sw, .int (-1), .null]), .inl (cA 6, 301, .inr (.inr (.inr (.inr (fun _ => none))))), .inl (cA 0, 301, .inl (fun _ => 0)), .inl (cA 0, 301, .inl (fun _ => 0))] H := hP
  exact W.vret hx hb hr (fun t ht hW => ⟨rfl, by rw [ht]; exact hP, hS.F ht⟩) hS.2.2 dX5_init_74 hlk
