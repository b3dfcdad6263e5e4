/-! ===== the law: its loop; the start ===== -/
theorem zq_out {L i : Nat} (hL : L ≤ 3072) (hi : i ≤ 4000) : nI L - 6 < nI i ↔ L < i + 6 := by
  rw [Int32.lt_iff_toInt_lt, show (6 : Int32) = nI 6 from rfl, pk_sub_toInt (by omega) (by decide), nI_toInt (by omega)]
  omega
theorem zq_loop {p : Program} {e : Env} {s : State} {m : MethodId} {below : List Frame} {meth : Method} {c : Code} {E : zm_E} {sb L : Nat} {xs : Nat → Int32} (C : zq_C p s m c E sb L xs) (hL : L ≤ 3072) (hr : meth.sig.returnType = ret) (hlocks : meth.locks = false) (hA : ∀ q, E.2.2.2.2 q → s.heap.size ≤ q) : ∀ (f i : Nat) (ls : Array Slot) (M : zm_M) (H : Heap) (locs : List Loc), L ≤ i + f → i ≤ 4000 → lv_has ls 4 [(3, .int (nI i)), (2, .ref (E.2.2.1 0)), (1, .ref (E.2.2.1 15)), (0, .ref sb)] → zGG M → va_P E.2.1 zy_cl (zm_ws E.2.2.1 E.2.2.2.1 M) H → va_S E.2.2.2.2 s.heap H locs → W p E.1 e room_1 s m #[Value.ref sb] below meth c H locs 600000 7302250 (lw_Z below #[Value.ref sb] s) (F0 m 18 ls []) := by
  obtain ⟨hx, hb, hml, hown, hts, hK, hE, hSF, hX, hbl, hbA⟩ := id C
  have out : ∀ (ls : Array Slot) (H : Heap) (locs : List Loc), va_S E.2.2.2.2 s.heap H locs → W p E.1 e room_1 s m #[Value.ref sb] below meth c H locs 600000 7302250 (lw_Z below #[Value.ref sb] s) (F0 m 1531 ls []) := by
    intro ls H locs hS
    refine lv_iconst (v := 1) hx hb dL_law_1531 (by decide) ?_
    exact va_forget (fun q hq => hA _ (hS.2.2 q hq)) (lw_ret hx hb hr hlocks dL_law_1532)
  intro f
  induction f with
  | zero =>
    intro i ls M H locs hf hi hl hG hP hS
    refine lv_iload_n hx hb dL_law_18 rfl (lv_at hl 0 rfl) ?_
    refine lv_aload_n hx hb dL_law_19 rfl (lv_at hl 3 rfl) ?_
    refine va_slen hx hb hX hbl hbA hS dL_law_20 ?_
    refine lv_bipush (v := 6) hx hb dL_law_21 (by decide) ?_
    refine lv_isub hx hb dL_law_23 ?_
    refine lv_icmp_gt (tgt := 1531) hx hb dL_law_24 (by decide) (fun _ => out ls H locs hS) (fun h => ?_)
    exact absurd ((zq_out hL hi).mpr (by omega)) h
  | succ f ih =>
    intro i ls M H locs hf hi hl hG hP hS
    refine lv_iload_n hx hb dL_law_18 rfl (lv_at hl 0 rfl) ?_
    refine lv_aload_n hx hb dL_law_19 rfl (lv_at hl 3 rfl) ?_
    refine va_slen hx hb hX hbl hbA hS dL_law_20 ?_
    refine lv_bipush (v := 6) hx hb dL_law_21 (by decide) ?_
    refine lv_isub hx hb dL_law_23 ?_
    refine lv_icmp_gt (tgt := 1531) hx hb dL_law_24 (by decide) (fun _ => out ls H locs hS) (fun h => ?_)
    have h6 : i + 6 ≤ L := by
      have h7 : ¬ L < i + 6 := fun z => h ((zq_out hL hi).mpr z)
      omega
    refine lv_aload_n hx hb dL_law_27 rfl (lv_at hl 3 rfl) ?_
    refine lv_iload_n hx hb dL_law_28 rfl (lv_at hl 0 rfl) ?_
    refine va_sld hx hb hX hbl hbA hS (vp_in_nI (show i < L by omega) (by omega)) dL_law_29 ?_
    rw [nI_clamp (by omega)]
    refine lv_bipush (v := 63) hx hb dL_law_30 (by decide) ?_
    refine lv_iand hx hb dL_law_32 ?_
    obtain ⟨k, hk, ek⟩ := zq_and63 (xs i)
    rw [ek]
    refine zq_switch C hl h6 hL hG hP hS (fun M H locs hG hP hS => ?_) hk
    refine lv_iinc (k := 0) hx hb dL_law_1525 hl rfl (show nI i + Int32.ofInt 6 = nI (i + 6) from nI_add i 6) (by decide) rfl (fun ls2 hl2 => ?_)
    refine lv_goto (tgt := 18) hx hb dL_law_1528 (by decide) ?_
    exact ih (i + 6) ls2 M H locs (by omega) (by omega) hl2 hG hP hS
theorem whole_start {p : Program} {e : Env} {s : State} {m : MethodId} {below : List Frame} {meth : Method} {c : Code} (l : Launch) (hflags : l.flags = flags0) {b L : Nat} {xs : Nat → Int32} (hL : L ≤ 3072) (C0 : lw_At p s m meth c b L xs) : W p l e room_1 s m #[Value.ref b] below meth c s.heap [] 0 0 (lw_Z below #[Value.ref b] s) (entryFrame m ([Value.ref b] : List Value).toArray 4) := by
  obtain ⟨hx, hb, hr, hml, hown, hts, hX, hbl, hlocks, hgv⟩ := id C0
  obtain ⟨D, cA, w, wa, hok, hSF, hK, hN⟩ := zx_start hgv hts
  have ht : ∀ w ∈ zy_T, w.before #[Value.ref b] s = true := fun w hw => hts w (List.mem_filter.mp hw).1
  have hown : s.vm.findClass RL = some m.cls := hown
  have hl := lv_entry ([.ref b]) (n := 4) (Nat.le_of_ble_eq_true rfl)
  rw [lg_entry_eq]
  generalize (lg_sl ([.ref b]) ++ List.replicate (4 - (lg_sl ([.ref b])).length) Slot.unset).toArray = ls at hl ⊢
  have hl : lv_has ls 4 [(0, .ref b)] := hl
  have hS : va_S (fun q => s.heap.size ≤ q) s.heap s.heap [] := va_S.rf
  have hP : zc_P D s.heap.size [] s.heap := zc_P_of rfl (fun k e he => by cases he)
  refine zc_new (fs := zu_d11) hx hb ht zy_co11 hown (ht _ zu_k_RL_7) (ht _ zu_n11) (ht _ zu_c11.2.1) hK hP hS zu_d11_ok (Nat.le_of_ble_eq_true rfl) (Nat.le_of_ble_eq_true rfl) dL_law_0 (fun H hP hS => ?_)
  refine lv_dup hx hb dL_law_3 rfl ?_
  refine zc_callI (as := []) hx hb hml hown ht (zu_t11_ok s.heap.size (w 43) l D cA _) zu_c11 rfl zu_m_RL_9 zu_i11 rfl hl.1 (Nat.le_of_ble_eq_true rfl) dL_law_4 ⟨Nat.le_of_ble_eq_true rfl, Nat.le_of_ble_eq_true rfl⟩ ⟨Nat.le_of_ble_eq_true rfl, Nat.le_of_ble_eq_true rfl⟩ hP hS (Nat.le_refl _) (Nat.le_refl _) hK hN (fun H locs hP hS => ?_)
  have hP : zc_P D s.heap.size (zu_t11 cA (w 43) s.heap.size) H := hP
  refine W.widen (k := 751) (n := 21038) (Nat.le_of_ble_eq_true rfl) (Nat.le_of_ble_eq_true rfl) ?_
  refine lv_astore_n hx hb dL_law_7 rfl hl (by decide) rfl (fun ls hl => ?_)
  refine zc_new (fs := zu_d12) hx hb ht zy_co12 hown (ht _ zu_k_RL_10) (ht _ zu_n12) (ht _ zu_c12.2.1) hK hP hS zu_d12_ok (Nat.le_of_ble_eq_true rfl) (Nat.le_of_ble_eq_true rfl) dL_law_8 (fun H hP hS => ?_)
  refine lv_dup hx hb dL_law_11 rfl ?_
  refine zc_callI (as := []) hx hb hml hown ht (zu_t12_ok s.heap.size (w 43) l D cA _) zu_c12 rfl zu_m_RL_12 zu_i12 rfl hl.1 (Nat.le_of_ble_eq_true rfl) dL_law_12 ⟨Nat.le_of_ble_eq_true rfl, Nat.le_of_ble_eq_true rfl⟩ ⟨Nat.le_of_ble_eq_true rfl, Nat.le_of_ble_eq_true rfl⟩ hP hS (Nat.le_refl _) (Nat.le_refl _) hK hN (fun H locs hP hS => ?_)
  have len : (zu_t11 cA (w 43) s.heap.size).length = 751 := zu_t11_len cA (w 43) s.heap.size
  rw [len] at hP
  refine W.eq (g2 := F0 m 15 ls [.ref (s.heap.size + 751)]) (by rw [len]) ?_
  refine W.widen (k := 600000) (n := 7302250) (Nat.le_of_ble_eq_true rfl) (Nat.le_of_ble_eq_true rfl) ?_
  refine lv_astore_n hx hb dL_law_15 rfl hl (by decide) rfl (fun ls hl => ?_)
  refine lv_iconst (v := 0) hx hb dL_law_16 (by decide) ?_
  refine lv_istore_n hx hb dL_law_17 rfl hl (by decide) rfl (fun ls hl => ?_)
  have hl : lv_has ls 4 [(3, .int (nI 0)), (2, .ref (zu_ad s.heap.size w wa 0)), (1, .ref (zu_ad s.heap.size w wa 15)), (0, .ref b)] := by
    rw [zu_ad_m (by decide), zu_ad_c (by decide) (by decide)]
    exact hl
  exact zq_loop (E := (l, D, zu_ad s.heap.size w wa, cA, fun q => s.heap.size ≤ q)) ⟨hx, hb, hml, hown, ht, hK, hok, hSF, hX, hbl, Nat.not_le.mpr hbl⟩ hL hr hlocks (fun q h => h) L 0 ls zu_M H locs (by omega) (by omega) hl zu_GG (zv_all hP) hS
