/-! ===== printed: ApologyUp() ===== -/
theorem zu_t7_len (cA : Nat → ClassId) (h : Nat) : (zu_t7 cA h).length = 6 := rfl
theorem zu_t10_len (cA : Nat → ClassId) (h : Nat) : (zu_t10 cA h).length = 10 := rfl
theorem zu_t1_len (cA : Nat → ClassId) (h : Nat) : (zu_t1 cA h).length = 9 := rfl
theorem zu_t4_len (cA : Nat → ClassId) (h : Nat) : (zu_t4 cA h).length = 3 := rfl
theorem zu_t2_len (cA : Nat → ClassId) (qs : Nat) (h : Nat) : (zu_t2 cA qs h).length = 3 := rfl
theorem zu_t0_len (cA : Nat → ClassId) (qs : Nat) (qm : Nat) (h : Nat) : (zu_t0 cA qs qm h).length = 1 := rfl
theorem zu_t8_len (cA : Nat → ClassId) (qs : Nat) (h : Nat) : (zu_t8 cA qs h).length = 5 := rfl
theorem zu_t3_len (cA : Nat → ClassId) (qs : Nat) (qm : Nat) (h : Nat) : (zu_t3 cA qs qm h).length = 4 := rfl
theorem zu_t5_len (cA : Nat → ClassId) (sw : Nat) (h : Nat) : (zu_t5 cA sw h).length = 4 := rfl
def zu_x1 (cA : Nat → ClassId) (sw h : Nat) : List va_E := zu_t6 cA (h + 1)
theorem zu_x1_len (cA : Nat → ClassId) (sw h : Nat) : (zu_x1 cA sw h).length = 361 := by
  simp only [zu_x1, zu_t6_len]
def zu_x2 (cA : Nat → ClassId) (sw h : Nat) : List va_E := zu_x1 cA sw h ++ zu_t6 cA (h + 362)
theorem zu_x2_len (cA : Nat → ClassId) (sw h : Nat) : (zu_x2 cA sw h).length = 722 := by
  simp only [zu_x2, List.length_append, zu_x1_len, zu_t6_len]
def zu_x3 (cA : Nat → ClassId) (sw h : Nat) : List va_E := zu_x2 cA sw h ++ zu_t10 cA (h + 723)
theorem zu_x3_len (cA : Nat → ClassId) (sw h : Nat) : (zu_x3 cA sw h).length = 732 := by
  simp only [zu_x3, List.length_append, zu_x2_len, zu_t10_len]
def zu_x4 (cA : Nat → ClassId) (sw h : Nat) : List va_E := zu_x3 cA sw h ++ zu_t2 cA (h + 2) (h + 733)
theorem zu_x4_len (cA : Nat → ClassId) (sw h : Nat) : (zu_x4 cA sw h).length = 735 := by
  simp only [zu_x4, List.length_append, zu_x3_len, zu_t2_len]
def zu_x5 (cA : Nat → ClassId) (sw h : Nat) : List va_E := zu_x4 cA sw h ++ zu_t0 cA (h + 2) (h + 733) (h + 736)
theorem zu_x5_len (cA : Nat → ClassId) (sw h : Nat) : (zu_x5 cA sw h).length = 736 := by
  simp only [zu_x5, List.length_append, zu_x4_len, zu_t0_len]
def zu_x6 (cA : Nat → ClassId) (sw h : Nat) : List va_E := zu_x5 cA sw h ++ zu_t8 cA (h + 2) (h + 737)
theorem zu_x6_len (cA : Nat → ClassId) (sw h : Nat) : (zu_x6 cA sw h).length = 741 := by
  simp only [zu_x6, List.length_append, zu_x5_len, zu_t8_len]
def zu_x7 (cA : Nat → ClassId) (sw h : Nat) : List va_E := zu_x6 cA sw h ++ zu_t3 cA (h + 2) (h + 733) (h + 742)
theorem zu_x7_len (cA : Nat → ClassId) (sw h : Nat) : (zu_x7 cA sw h).length = 745 := by
  simp only [zu_x7, List.length_append, zu_x6_len, zu_t3_len]
def zu_x8 (cA : Nat → ClassId) (sw h : Nat) : List va_E := zu_x7 cA sw h ++ zu_t5 cA sw (h + 746)
theorem zu_x8_len (cA : Nat → ClassId) (sw h : Nat) : (zu_x8 cA sw h).length = 749 := by
  simp only [zu_x8, List.length_append, zu_x7_len, zu_t5_len]
def zu_x9 (cA : Nat → ClassId) (sw h : Nat) : List va_E := zu_x8 cA sw h ++ [.inl (cA 1, 300, .inl (fun _ => 0))]
theorem zu_x9_len (cA : Nat → ClassId) (sw h : Nat) : (zu_x9 cA sw h).length = 750 := by
  simp only [zu_x9, List.length_append, zu_x8_len, List.length_cons, List.length_nil]
def zu_t11 (cA : Nat → ClassId) (sw h : Nat) : List va_E := .inr (11, [.ref (h + 1), .ref (h + 362), .ref (h + 723), .ref (h + 733), .ref (h + 736), .ref (h + 737), .ref (h + 742), .ref (h + 746), .ref (h + 750), .int 0]) :: zu_x9 cA sw h
theorem zu_t11_len (cA : Nat → ClassId) (sw h : Nat) : (zu_t11 cA sw h).length = 751 := by rw [zu_t11, List.length_cons, zu_x9_len]
set_option maxRecDepth 20000 in
theorem zu_t11_ok (b0 sw : Nat) (l : Launch) (D : va_G) (cA : Nat → ClassId) (h : Nat) : zc_M b0 sw l D cA 3 750 21028 yX11_init cX11_init 1 [] h (.inr (11, zu_d11)) (zu_t11 cA sw h) := by
  refine zc_met (by decide) (Nat.le_of_ble_eq_true rfl) ?_
  rintro p e s m below meth c ls ⟨hx, hb, hml, hown, hts, hr, hlk⟩ hin hP hK hb0 hN hl
  have hl : lv_has ls 1 [(0, .ref h)] := hl
  have hS : va_S (fun q => h ≤ q) s.heap s.heap [] := va_S.rf
  refine lv_aload_n hx hb dX11_init_0 rfl (lv_at hl 0 rfl) ?_
  refine W.objInit hx hb hown (hts _ zu_o11) (hts _ zu_oi) (hts _ zu_oc) rfl (by rw [hml]; exact hl.1) rfl dX11_init_1 (Nat.le_of_ble_eq_true rfl) (Nat.le_of_ble_eq_true rfl) ?_
  refine W.eq (g2 := F0 m 4 ls []) rfl ?_
  refine lv_aload_n hx hb dX11_init_4 rfl (lv_at hl 0 rfl) ?_
  refine zc_new (fs := zu_d6) hx hb hts zy_co6 hown (hts _ zu_k_RX11_7) (hts _ zu_n6) (hts _ zu_c6.2.1) hK hP hS zu_d6_ok (Nat.le_of_ble_eq_true rfl) (Nat.le_of_ble_eq_true rfl) dX11_init_5 (fun H hP hS => ?_)
  have len : ([.inr (11, [.null, .null, .null, .null, .null, .null, .null, .null, .null, .int 0])] : List va_E).length = 1 := rfl
  refine W.eq (g2 := F0 m 8 ls (.ref (h + 1) :: [.ref h])) (by rw [len]) ?_
  refine lv_dup hx hb dX11_init_8 rfl ?_
  refine W.eq (g2 := F0 m 9 ls (([] : List Value).reverse ++ .ref (h + ((.inr (11, [.null, .null, .null, .null, .null, .null, .null, .null, .null, .int 0]) :: []) : List va_E).length) :: [.ref (h + 1), .ref h])) (by rw [len]; rfl) ?_
  refine zc_callI (as := []) hx hb hml hown hts (zu_t6_ok b0 sw l D cA _) zu_c6 rfl (zu_m_RX11_9) zu_i6 rfl hl.1 (Nat.le_of_ble_eq_true rfl) dX11_init_9 ⟨Nat.le_of_ble_eq_true rfl, Nat.le_of_ble_eq_true rfl⟩ ⟨Nat.le_of_ble_eq_true rfl, Nat.le_of_ble_eq_true rfl⟩ hP hS (Nat.le_refl _) hb0 hK hN (fun H locs hP hS => ?_)
  rw [len] at hP
  have hP : zc_P D h (.inr (11, [.null, .null, .null, .null, .null, .null, .null, .null, .null, .int 0]) :: zu_x1 cA sw h) H := hP
  clear len
  refine W.widen (k := 361) (n := 9600) (Nat.le_of_ble_eq_true rfl) (Nat.le_of_ble_eq_true rfl) ?_
  refine zc_put0 (v := .ref (h + 1)) hx hb hts zy_co11 hown hK hP hS (Nat.le_refl _) 0 (by decide) (hts _ (zy_mem (zy_t2 (List.mem_of_getElem? (i := 182) (by decide +kernel))) rfl)) (Or.inl ⟨rfl, hin, rfl⟩) rfl rfl (Nat.le_of_ble_eq_true rfl) dX11_init_12 (fun H locs hP hS => ?_)
  have hP : zc_P D h (.inr (11, [.ref (h + 1), .null, .null, .null, .null, .null, .null, .null, .null, .int 0]) :: zu_x1 cA sw h) H := hP
  refine lv_aload_n hx hb dX11_init_15 rfl (lv_at hl 0 rfl) ?_
  refine zc_new (fs := zu_d6) hx hb hts zy_co6 hown (hts _ zu_k_RX11_7) (hts _ zu_n6) (hts _ zu_c6.2.1) hK hP hS zu_d6_ok (Nat.le_of_ble_eq_true rfl) (Nat.le_of_ble_eq_true rfl) dX11_init_16 (fun H hP hS => ?_)
  have len : ((.inr (11, [.ref (h + 1), .null, .null, .null, .null, .null, .null, .null, .null, .int 0]) :: zu_x1 cA sw h) : List va_E).length = 362 := by rw [List.length_cons, zu_x1_len]
  refine W.eq (g2 := F0 m 19 ls (.ref (h + 362) :: [.ref h])) (by rw [len]) ?_
  refine lv_dup hx hb dX11_init_19 rfl ?_
  refine W.eq (g2 := F0 m 20 ls (([] : List Value).reverse ++ .ref (h + ((.inr (11, [.ref (h + 1), .null, .null, .null, .null, .null, .null, .null, .null, .int 0]) :: zu_x1 cA sw h) : List va_E).length) :: [.ref (h + 362), .ref h])) (by rw [len]; rfl) ?_
  refine zc_callI (as := []) hx hb hml hown hts (zu_t6_ok b0 sw l D cA _) zu_c6 rfl (zu_m_RX11_9) zu_i6 rfl hl.1 (Nat.le_of_ble_eq_true rfl) dX11_init_20 ⟨Nat.le_of_ble_eq_true rfl, Nat.le_of_ble_eq_true rfl⟩ ⟨Nat.le_of_ble_eq_true rfl, Nat.le_of_ble_eq_true rfl⟩ hP hS (Nat.le_refl _) hb0 hK hN (fun H locs hP hS => ?_)
  rw [len] at hP
  have hP : zc_P D h (.inr (11, [.ref (h + 1), .null, .null, .null, .null, .null, .null, .null, .null, .int 0]) :: zu_x2 cA sw h) H := hP
  clear len
  refine W.widen (k := 722) (n := 19200) (Nat.le_of_ble_eq_true rfl) (Nat.le_of_ble_eq_true rfl) ?_
  refine zc_put0 (v := .ref (h + 362)) hx hb hts zy_co11 hown hK hP hS (Nat.le_refl _) 1 (by decide) (hts _ (zy_mem (zy_t2 (List.mem_of_getElem? (i := 183) (by decide +kernel))) rfl)) (Or.inl ⟨rfl, hin, rfl⟩) rfl rfl (Nat.le_of_ble_eq_true rfl) dX11_init_23 (fun H locs hP hS => ?_)
  have hP : zc_P D h (.inr (11, [.ref (h + 1), .ref (h + 362), .null, .null, .null, .null, .null, .null, .null, .int 0]) :: zu_x2 cA sw h) H := hP
  refine lv_aload_n hx hb dX11_init_26 rfl (lv_at hl 0 rfl) ?_
  refine zc_new (fs := zu_d10) hx hb hts zy_co10 hown (hts _ zu_k_RX11_19) (hts _ zu_n10) (hts _ zu_c10.2.1) hK hP hS zu_d10_ok (Nat.le_of_ble_eq_true rfl) (Nat.le_of_ble_eq_true rfl) dX11_init_27 (fun H hP hS => ?_)
  have len : ((.inr (11, [.ref (h + 1), .ref (h + 362), .null, .null, .null, .null, .null, .null, .null, .int 0]) :: zu_x2 cA sw h) : List va_E).length = 723 := by rw [List.length_cons, zu_x2_len]
  refine W.eq (g2 := F0 m 30 ls (.ref (h + 723) :: [.ref h])) (by rw [len]) ?_
  refine lv_dup hx hb dX11_init_30 rfl ?_
  refine W.eq (g2 := F0 m 31 ls (([] : List Value).reverse ++ .ref (h + ((.inr (11, [.ref (h + 1), .ref (h + 362), .null, .null, .null, .null, .null, .null, .null, .int 0]) :: zu_x2 cA sw h) : List va_E).length) :: [.ref (h + 723), .ref h])) (by rw [len]; rfl) ?_
  refine zc_callN (as := []) hx hb hml hown hts (zu_t10_ok b0 sw l D cA _) zu_c10 rfl hN.2.2.2.2.1 zu_i10 rfl hl.1 (Nat.le_of_ble_eq_true rfl) dX11_init_31 ⟨Nat.le_of_ble_eq_true rfl, Nat.le_of_ble_eq_true rfl⟩ ⟨Nat.le_of_ble_eq_true rfl, Nat.le_of_ble_eq_true rfl⟩ hP hS (Nat.le_refl _) hb0 hK hN (fun H locs hP hS => ?_)
  rw [len] at hP
  have hP : zc_P D h (.inr (11, [.ref (h + 1), .ref (h + 362), .null, .null, .null, .null, .null, .null, .null, .int 0]) :: zu_x3 cA sw h) H := hP
  clear len
  refine W.widen (k := 732) (n := 19413) (Nat.le_of_ble_eq_true rfl) (Nat.le_of_ble_eq_true rfl) ?_
  refine zc_put0 (v := .ref (h + 723)) hx hb hts zy_co11 hown hK hP hS (Nat.le_refl _) 2 (by decide) (hts _ (zy_mem (zy_t2 (List.mem_of_getElem? (i := 184) (by decide +kernel))) rfl)) (Or.inl ⟨rfl, hin, rfl⟩) rfl rfl (Nat.le_of_ble_eq_true rfl) dX11_init_34 (fun H locs hP hS => ?_)
  have hP : zc_P D h (.inr (11, [.ref (h + 1), .ref (h + 362), .ref (h + 723), .null, .null, .null, .null, .null, .null, .int 0]) :: zu_x3 cA sw h) H := hP
  refine lv_aload_n hx hb dX11_init_37 rfl (lv_at hl 0 rfl) ?_
  refine zc_new (fs := zu_d2) hx hb hts zy_co2 hown (hts _ zu_k_RX11_26) (hts _ zu_n2) (hts _ zu_c2.2.1) hK hP hS zu_d2_ok (Nat.le_of_ble_eq_true rfl) (Nat.le_of_ble_eq_true rfl) dX11_init_38 (fun H hP hS => ?_)
  have len : ((.inr (11, [.ref (h + 1), .ref (h + 362), .ref (h + 723), .null, .null, .null, .null, .null, .null, .int 0]) :: zu_x3 cA sw h) : List va_E).length = 733 := by rw [List.length_cons, zu_x3_len]
  refine W.eq (g2 := F0 m 41 ls (.ref (h + 733) :: [.ref h])) (by rw [len]) ?_
  refine lv_dup hx hb dX11_init_41 rfl ?_
  refine lv_aload_n hx hb dX11_init_42 rfl (lv_at hl 0 rfl) ?_
  refine va_get (D := D) (ci := 11) (v := .ref (h + 1)) (C := RX11) (T := TX11) (N := 10) hx hb hts zy_in11 hown hK hP.2 0 rfl rfl 0 (by decide) (hts _ (zy_mem (zy_t2 (List.mem_of_getElem? (i := 182) (by decide +kernel))) rfl)) (fun _ h9 => h9) rfl dX11_init_43 ?_
  refine va_get (D := D) (ci := 6) (v := .ref (h + 2)) (C := RX6) (T := TX6) (N := 13) hx hb hts zy_in6 hown hK hP.2 1 rfl rfl 0 (by decide) (hts _ (zy_mem (zy_t1 (List.mem_of_getElem? (i := 222) (by decide +kernel))) rfl)) (fun _ h9 => h9) rfl dX11_init_46 ?_
  refine W.eq (g2 := F0 m 49 ls (([.ref (h + 2)] : List Value).reverse ++ .ref (h + ((.inr (11, [.ref (h + 1), .ref (h + 362), .ref (h + 723), .null, .null, .null, .null, .null, .null, .int 0]) :: zu_x3 cA sw h) : List va_E).length) :: [.ref (h + 733), .ref h])) (by rw [len]; rfl) ?_
  refine zc_callI (as := [.ref (h + 2)]) hx hb hml hown hts (zu_t2_ok b0 sw l D cA (h + 2) _) zu_c2 rfl (zu_m_RX11_32) zu_i2 rfl hl.1 (Nat.le_of_ble_eq_true rfl) dX11_init_49 ⟨Nat.le_of_ble_eq_true rfl, Nat.le_of_ble_eq_true rfl⟩ ⟨Nat.le_of_ble_eq_true rfl, Nat.le_of_ble_eq_true rfl⟩ hP hS (Nat.le_refl _) hb0 hK hN (fun H locs hP hS => ?_)
  rw [len] at hP
  have hP : zc_P D h (.inr (11, [.ref (h + 1), .ref (h + 362), .ref (h + 723), .null, .null, .null, .null, .null, .null, .int 0]) :: zu_x4 cA sw h) H := hP
  clear len
  refine W.widen (k := 735) (n := 19726) (Nat.le_of_ble_eq_true rfl) (Nat.le_of_ble_eq_true rfl) ?_
  refine zc_put0 (v := .ref (h + 733)) hx hb hts zy_co11 hown hK hP hS (Nat.le_refl _) 3 (by decide) (hts _ (zy_mem (zy_t2 (List.mem_of_getElem? (i := 185) (by decide +kernel))) rfl)) (Or.inl ⟨rfl, hin, rfl⟩) rfl rfl (Nat.le_of_ble_eq_true rfl) dX11_init_52 (fun H locs hP hS => ?_)
  have hP : zc_P D h (.inr (11, [.ref (h + 1), .ref (h + 362), .ref (h + 723), .ref (h + 733), .null, .null, .null, .null, .null, .int 0]) :: zu_x4 cA sw h) H := hP
  refine lv_aload_n hx hb dX11_init_55 rfl (lv_at hl 0 rfl) ?_
  refine zc_new (fs := zu_d0) hx hb hts zy_co0 hown (hts _ zu_k_RX11_39) (hts _ zu_n0) (hts _ zu_c0.2.1) hK hP hS zu_d0_ok (Nat.le_of_ble_eq_true rfl) (Nat.le_of_ble_eq_true rfl) dX11_init_56 (fun H hP hS => ?_)
  have len : ((.inr (11, [.ref (h + 1), .ref (h + 362), .ref (h + 723), .ref (h + 733), .null, .null, .null, .null, .null, .int 0]) :: zu_x4 cA sw h) : List va_E).length = 736 := by rw [List.length_cons, zu_x4_len]
  refine W.eq (g2 := F0 m 59 ls (.ref (h + 736) :: [.ref h])) (by rw [len]) ?_
  refine lv_dup hx hb dX11_init_59 rfl ?_
  refine lv_aload_n hx hb dX11_init_60 rfl (lv_at hl 0 rfl) ?_
  refine va_get (D := D) (ci := 11) (v := .ref (h + 1)) (C := RX11) (T := TX11) (N := 10) hx hb hts zy_in11 hown hK hP.2 0 rfl rfl 0 (by decide) (hts _ (zy_mem (zy_t2 (List.mem_of_getElem? (i := 182) (by decide +kernel))) rfl)) (fun _ h9 => h9) rfl dX11_init_61 ?_
  refine va_get (D := D) (ci := 6) (v := .ref (h + 2)) (C := RX6) (T := TX6) (N := 13) hx hb hts zy_in6 hown hK hP.2 1 rfl rfl 0 (by decide) (hts _ (zy_mem (zy_t1 (List.mem_of_getElem? (i := 222) (by decide +kernel))) rfl)) (fun _ h9 => h9) rfl dX11_init_64 ?_
  refine lv_aload_n hx hb dX11_init_67 rfl (lv_at hl 0 rfl) ?_
  refine va_get (D := D) (ci := 11) (v := .ref (h + 733)) (C := RX11) (T := TX11) (N := 10) hx hb hts zy_in11 hown hK hP.2 0 rfl rfl 3 (by decide) (hts _ (zy_mem (zy_t2 (List.mem_of_getElem? (i := 185) (by decide +kernel))) rfl)) (fun _ h9 => h9) rfl dX11_init_68 ?_
  refine W.eq (g2 := F0 m 71 ls (([.ref (h + 2), .ref (h + 733)] : List Value).reverse ++ .ref (h + ((.inr (11, [.ref (h + 1), .ref (h + 362), .ref (h + 723), .ref (h + 733), .null, .null, .null, .null, .null, .int 0]) :: zu_x4 cA sw h) : List va_E).length) :: [.ref (h + 736), .ref h])) (by rw [len]; rfl) ?_
  refine zc_callI (as := [.ref (h + 2), .ref (h + 733)]) hx hb hml hown hts (zu_t0_ok b0 sw l D cA (h + 2) (h + 733) _) zu_c0 rfl (zu_m_RX11_41) zu_i0 rfl hl.1 (Nat.le_of_ble_eq_true rfl) dX11_init_71 ⟨Nat.le_of_ble_eq_true rfl, Nat.le_of_ble_eq_true rfl⟩ ⟨Nat.le_of_ble_eq_true rfl, Nat.le_of_ble_eq_true rfl⟩ hP hS (Nat.le_refl _) hb0 hK hN (fun H locs hP hS => ?_)
  rw [len] at hP
  have hP : zc_P D h (.inr (11, [.ref (h + 1), .ref (h + 362), .ref (h + 723), .ref (h + 733), .null, .null, .null, .null, .null, .int 0]) :: zu_x5 cA sw h) H := hP
  clear len
  refine W.widen (k := 736) (n := 19728) (Nat.le_of_ble_eq_true rfl) (Nat.le_of_ble_eq_true rfl) ?_
  refine zc_put0 (v := .ref (h + 736)) hx hb hts zy_co11 hown hK hP hS (Nat.le_refl _) 4 (by decide) (hts _ (zy_mem (zy_t2 (List.mem_of_getElem? (i := 186) (by decide +kernel))) rfl)) (Or.inl ⟨rfl, hin, rfl⟩) rfl rfl (Nat.le_of_ble_eq_true rfl) dX11_init_74 (fun H locs hP hS => ?_)
  have hP : zc_P D h (.inr (11, [.ref (h + 1), .ref (h + 362), .ref (h + 723), .ref (h + 733), .ref (h + 736), .null, .null, .null, .null, .int 0]) :: zu_x5 cA sw h) H := hP
  refine lv_aload_n hx hb dX11_init_77 rfl (lv_at hl 0 rfl) ?_
  refine zc_new (fs := zu_d8) hx hb hts zy_co8 hown (hts _ zu_k_RX11_48) (hts _ zu_n8) (hts _ zu_c8.2.1) hK hP hS zu_d8_ok (Nat.le_of_ble_eq_true rfl) (Nat.le_of_ble_eq_true rfl) dX11_init_78 (fun H hP hS => ?_)
  have len : ((.inr (11, [.ref (h + 1), .ref (h + 362), .ref (h + 723), .ref (h + 733), .ref (h + 736), .null, .null, .null, .null, .int 0]) :: zu_x5 cA sw h) : List va_E).length = 737 := by rw [List.length_cons, zu_x5_len]
  refine W.eq (g2 := F0 m 81 ls (.ref (h + 737) :: [.ref h])) (by rw [len]) ?_
  refine lv_dup hx hb dX11_init_81 rfl ?_
  refine lv_aload_n hx hb dX11_init_82 rfl (lv_at hl 0 rfl) ?_
  refine va_get (D := D) (ci := 11) (v := .ref (h + 1)) (C := RX11) (T := TX11) (N := 10) hx hb hts zy_in11 hown hK hP.2 0 rfl rfl 0 (by decide) (hts _ (zy_mem (zy_t2 (List.mem_of_getElem? (i := 182) (by decide +kernel))) rfl)) (fun _ h9 => h9) rfl dX11_init_83 ?_
  refine va_get (D := D) (ci := 6) (v := .ref (h + 2)) (C := RX6) (T := TX6) (N := 13) hx hb hts zy_in6 hown hK hP.2 1 rfl rfl 0 (by decide) (hts _ (zy_mem (zy_t1 (List.mem_of_getElem? (i := 222) (by decide +kernel))) rfl)) (fun _ h9 => h9) rfl dX11_init_86 ?_
  refine W.eq (g2 := F0 m 89 ls (([.ref (h + 2)] : List Value).reverse ++ .ref (h + ((.inr (11, [.ref (h + 1), .ref (h + 362), .ref (h + 723), .ref (h + 733), .ref (h + 736), .null, .null, .null, .null, .int 0]) :: zu_x5 cA sw h) : List va_E).length) :: [.ref (h + 737), .ref h])) (by rw [len]; rfl) ?_
  refine zc_callI (as := [.ref (h + 2)]) hx hb hml hown hts (zu_t8_ok b0 sw l D cA (h + 2) _) zu_c8 rfl (zu_m_RX11_50) zu_i8 rfl hl.1 (Nat.le_of_ble_eq_true rfl) dX11_init_89 ⟨Nat.le_of_ble_eq_true rfl, Nat.le_of_ble_eq_true rfl⟩ ⟨Nat.le_of_ble_eq_true rfl, Nat.le_of_ble_eq_true rfl⟩ hP hS (Nat.le_refl _) hb0 hK hN (fun H locs hP hS => ?_)
  rw [len] at hP
  have hP : zc_P D h (.inr (11, [.ref (h + 1), .ref (h + 362), .ref (h + 723), .ref (h + 733), .ref (h + 736), .null, .null, .null, .null, .int 0]) :: zu_x6 cA sw h) H := hP
  clear len
  refine W.widen (k := 741) (n := 19773) (Nat.le_of_ble_eq_true rfl) (Nat.le_of_ble_eq_true rfl) ?_
  refine zc_put0 (v := .ref (h + 737)) hx hb hts zy_co11 hown hK hP hS (Nat.le_refl _) 5 (by decide) (hts _ (zy_mem (zy_t2 (List.mem_of_getElem? (i := 187) (by decide +kernel))) rfl)) (Or.inl ⟨rfl, hin, rfl⟩) rfl rfl (Nat.le_of_ble_eq_true rfl) dX11_init_92 (fun H locs hP hS => ?_)
  have hP : zc_P D h (.inr (11, [.ref (h + 1), .ref (h + 362), .ref (h + 723), .ref (h + 733), .ref (h + 736), .ref (h + 737), .null, .null, .null, .int 0]) :: zu_x6 cA sw h) H := hP
  refine lv_aload_n hx hb dX11_init_95 rfl (lv_at hl 0 rfl) ?_
  refine zc_new (fs := zu_d3) hx hb hts zy_co3 hown (hts _ zu_k_RX11_55) (hts _ zu_n3) (hts _ zu_c3.2.1) hK hP hS zu_d3_ok (Nat.le_of_ble_eq_true rfl) (Nat.le_of_ble_eq_true rfl) dX11_init_96 (fun H hP hS => ?_)
  have len : ((.inr (11, [.ref (h + 1), .ref (h + 362), .ref (h + 723), .ref (h + 733), .ref (h + 736), .ref (h + 737), .null, .null, .null, .int 0]) :: zu_x6 cA sw h) : List va_E).length = 742 := by rw [List.length_cons, zu_x6_len]
  refine W.eq (g2 := F0 m 99 ls (.ref (h + 742) :: [.ref h])) (by rw [len]) ?_
  refine lv_dup hx hb dX11_init_99 rfl ?_
  refine lv_aload_n hx hb dX11_init_100 rfl (lv_at hl 0 rfl) ?_
  refine va_get (D := D) (ci := 11) (v := .ref (h + 1)) (C := RX11) (T := TX11) (N := 10) hx hb hts zy_in11 hown hK hP.2 0 rfl rfl 0 (by decide) (hts _ (zy_mem (zy_t2 (List.mem_of_getElem? (i := 182) (by decide +kernel))) rfl)) (fun _ h9 => h9) rfl dX11_init_101 ?_
  refine va_get (D := D) (ci := 6) (v := .ref (h + 2)) (C := RX6) (T := TX6) (N := 13) hx hb hts zy_in6 hown hK hP.2 1 rfl rfl 0 (by decide) (hts _ (zy_mem (zy_t1 (List.mem_of_getElem? (i := 222) (by decide +kernel))) rfl)) (fun _ h9 => h9) rfl dX11_init_104 ?_
  refine lv_aload_n hx hb dX11_init_107 rfl (lv_at hl 0 rfl) ?_
  refine va_get (D := D) (ci := 11) (v := .ref (h + 733)) (C := RX11) (T := TX11) (N := 10) hx hb hts zy_in11 hown hK hP.2 0 rfl rfl 3 (by decide) (hts _ (zy_mem (zy_t2 (List.mem_of_getElem? (i := 185) (by decide +kernel))) rfl)) (fun _ h9 => h9) rfl dX11_init_108 ?_
  refine W.eq (g2 := F0 m 111 ls (([.ref (h + 2), .ref (h + 733)] : List Value).reverse ++ .ref (h + ((.inr (11, [.ref (h + 1), .ref (h + 362), .ref (h + 723), .ref (h + 733), .ref (h + 736), .ref (h + 737), .null, .null, .null, .int 0]) :: zu_x6 cA sw h) : List va_E).length) :: [.ref (h + 742), .ref h])) (by rw [len]; rfl) ?_
  refine zc_callI (as := [.ref (h + 2), .ref (h + 733)]) hx hb hml hown hts (zu_t3_ok b0 sw l D cA (h + 2) (h + 733) _) zu_c3 rfl (zu_m_RX11_57) zu_i3 rfl hl.1 (Nat.le_of_ble_eq_true rfl) dX11_init_111 ⟨Nat.le_of_ble_eq_true rfl, Nat.le_of_ble_eq_true rfl⟩ ⟨Nat.le_of_ble_eq_true rfl, Nat.le_of_ble_eq_true rfl⟩ hP hS (Nat.le_refl _) hb0 hK hN (fun H locs hP hS => ?_)
  rw [len] at hP
  have hP : zc_P D h (.inr (11, [.ref (h + 1), .ref (h + 362), .ref (h + 723), .ref (h + 733), .ref (h + 736), .ref (h + 737), .null, .null, .null, .int 0]) :: zu_x7 cA sw h) H := hP
  clear len
  refine W.widen (k := 745) (n := 19814) (Nat.le_of_ble_eq_true rfl) (Nat.le_of_ble_eq_true rfl) ?_
  refine zc_put0 (v := .ref (h + 742)) hx hb hts zy_co11 hown hK hP hS (Nat.le_refl _) 6 (by decide) (hts _ (zy_mem (zy_t2 (List.mem_of_getElem? (i := 188) (by decide +kernel))) rfl)) (Or.inl ⟨rfl, hin, rfl⟩) rfl rfl (Nat.le_of_ble_eq_true rfl) dX11_init_114 (fun H locs hP hS => ?_)
  have hP : zc_P D h (.inr (11, [.ref (h + 1), .ref (h + 362), .ref (h + 723), .ref (h + 733), .ref (h + 736), .ref (h + 737), .ref (h + 742), .null, .null, .int 0]) :: zu_x7 cA sw h) H := hP
  refine lv_aload_n hx hb dX11_init_117 rfl (lv_at hl 0 rfl) ?_
  refine zc_new (fs := zu_d5) hx hb hts zy_co5 hown (hts _ zu_k_RX11_62) (hts _ zu_n5) (hts _ zu_c5.2.1) hK hP hS zu_d5_ok (Nat.le_of_ble_eq_true rfl) (Nat.le_of_ble_eq_true rfl) dX11_init_118 (fun H hP hS => ?_)
  have len : ((.inr (11, [.ref (h + 1), .ref (h + 362), .ref (h + 723), .ref (h + 733), .ref (h + 736), .ref (h + 737), .ref (h + 742), .null, .null, .int 0]) :: zu_x7 cA sw h) : List va_E).length = 746 := by rw [List.length_cons, zu_x7_len]
  refine W.eq (g2 := F0 m 121 ls (.ref (h + 746) :: [.ref h])) (by rw [len]) ?_
  refine lv_dup hx hb dX11_init_121 rfl ?_
  refine W.eq (g2 := F0 m 122 ls (([] : List Value).reverse ++ .ref (h + ((.inr (11, [.ref (h + 1), .ref (h + 362), .ref (h + 723), .ref (h + 733), .ref (h + 736), .ref (h + 737), .ref (h + 742), .null, .null, .int 0]) :: zu_x7 cA sw h) : List va_E).length) :: [.ref (h + 746), .ref h])) (by rw [len]; rfl) ?_
  refine zc_callN (as := []) hx hb hml hown hts (zu_t5_ok b0 sw l D cA _) zu_c5 rfl hN.2.2.2.2.2.1 zu_i5 rfl hl.1 (Nat.le_of_ble_eq_true rfl) dX11_init_122 ⟨Nat.le_of_ble_eq_true rfl, Nat.le_of_ble_eq_true rfl⟩ ⟨Nat.le_of_ble_eq_true rfl, Nat.le_of_ble_eq_true rfl⟩ hP hS (Nat.le_refl _) hb0 hK hN (fun H locs hP hS => ?_)
  rw [len] at hP
  have hP : zc_P D h (.inr (11, [.ref (h + 1), .ref (h + 362), .ref (h + 723), .ref (h + 733), .ref (h + 736), .ref (h + 737), .ref (h + 742), .null, .null, .int 0]) :: zu_x8 cA sw h) H := hP
  clear len
  refine W.widen (k := 749) (n := 20728) (Nat.le_of_ble_eq_true rfl) (Nat.le_of_ble_eq_true rfl) ?_
  refine zc_put0 (v := .ref (h + 746)) hx hb hts zy_co11 hown hK hP hS (Nat.le_refl _) 7 (by decide) (hts _ (zy_mem (zy_t2 (List.mem_of_getElem? (i := 189) (by decide +kernel))) rfl)) (Or.inl ⟨rfl, hin, rfl⟩) rfl rfl (Nat.le_of_ble_eq_true rfl) dX11_init_125 (fun H locs hP hS => ?_)
  have hP : zc_P D h (.inr (11, [.ref (h + 1), .ref (h + 362), .ref (h + 723), .ref (h + 733), .ref (h + 736), .ref (h + 737), .ref (h + 742), .ref (h + 746), .null, .int 0]) :: zu_x8 cA sw h) H := hP
  refine lv_aload_n hx hb dX11_init_128 rfl (lv_at hl 0 rfl) ?_
  refine lv_sipush (v := 300) hx hb dX11_init_129 (by decide) ?_
  refine zc_newa (atype := .char) (t := 1) (ty := .char) (a1 := .inl (fun _ => 0)) (N' := 300) hx hb (hts _ zu_a_char) rfl hK rfl (fun _ h => h) hP hS (fun _ => rfl) (by decide) (by decide) (by decide) (Nat.le_of_ble_eq_true rfl) (Nat.le_of_ble_eq_true rfl) dX11_init_132 (fun H hP hS => ?_)
  have len : ((.inr (11, [.ref (h + 1), .ref (h + 362), .ref (h + 723), .ref (h + 733), .ref (h + 736), .ref (h + 737), .ref (h + 742), .ref (h + 746), .null, .int 0]) :: zu_x8 cA sw h) : List va_E).length = 750 := by rw [List.length_cons, zu_x8_len]
  refine W.eq (g2 := F0 m 134 ls (.ref (h + 750) :: [.ref h])) (by rw [len]) ?_
  have hP : zc_P D h (.inr (11, [.ref (h + 1), .ref (h + 362), .ref (h + 723), .ref (h + 733), .ref (h + 736), .ref (h + 737), .ref (h + 742), .ref (h + 746), .null, .int 0]) :: zu_x9 cA sw h) H := hP
  clear len
  refine W.widen (k := 750) (n := 21028) (Nat.le_of_ble_eq_true rfl) (Nat.le_of_ble_eq_true rfl) ?_
  refine zc_put0 (v := .ref (h + 750)) hx hb hts zy_co11 hown hK hP hS (Nat.le_refl _) 8 (by decide) (hts _ (zy_mem (zy_t2 (List.mem_of_getElem? (i := 190) (by decide +kernel))) rfl)) (Or.inl ⟨rfl, hin, rfl⟩) rfl rfl (Nat.le_of_ble_eq_true rfl) dX11_init_134 (fun H locs hP hS => ?_)
  have hP : zc_P D h (.inr (11, [.ref (h + 1), .ref (h + 362), .ref (h + 723), .ref (h + 733), .ref (h + 736), .ref (h + 737), .ref (h + 742), .ref (h + 746), .ref (h + 750), .int 0]) :: zu_x9 cA sw h) H := hP
  refine lv_aload_n hx hb dX11_init_137 rfl (lv_at hl 0 rfl) ?_
  refine lv_iconst (v := 0) hx hb dX11_init_138 (by decide) ?_
  refine zc_put0 (v := .int 0) hx hb hts zy_co11 hown hK hP hS (Nat.le_refl _) 9 (by decide) (hts _ (zy_mem (zy_t2 (List.mem_of_getElem? (i := 191) (by decide +kernel))) rfl)) (Or.inr rfl) rfl rfl (Nat.le_of_ble_eq_true rfl) dX11_init_139 (fun H locs hP hS => ?_)
  have hP : zc_P D h (.inr (11, [.ref (h + 1), .ref (h + 362), .ref (h + 723), .ref (h + 733), .ref (h + 736), .ref (h + 737), .ref (h + 742), .ref (h + 746), .ref (h + 750), .int 0]) :: zu_x9 cA sw h) H := hP
  exact W.vret hx hb hr (fun t ht hW => ⟨rfl, by rw [ht]; exact hP, hS.F ht⟩) hS.2.2 dX11_init_142 hlk
