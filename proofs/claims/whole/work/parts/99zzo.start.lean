/-! ===== the start: what the premises say ===== -/
theorem zx_words {args : Array Value} {s : State} (hg : (Jvm.Cond.and given_1 narrow_1).before args s = true) : ∃ w : Nat → Nat, ∀ i, i < 44 → (Term.static "ApologyUp$Word" (zz_nm.getD i "") "LApologyUp$Word;").eval args s none [] s = some (.ref (w i)) ∧ va_O "ApologyUp$Word" (w i) (fun q => s.heap.size ≤ q) s s.heap := by
  have h0 : ∀ i : Nat, ∃ t : Nat, i < 44 → (Term.static "ApologyUp$Word" (zz_nm.getD i "") "LApologyUp$Word;").eval args s none [] s = some (.ref t) ∧ va_O "ApologyUp$Word" t (fun q => s.heap.size ≤ q) s s.heap := by
    intro i
    by_cases hi : i < 44
    · obtain ⟨a, c, cell, k, q1, q2, q3, q4, q5, q6, -⟩ := Cond.exactly_spec (zx_at hg (zx_E i hi))
      exact ⟨a, fun _ => ⟨q1, cell, q3, q5, by rw [q6]; exact q2, Nat.not_le.mpr (Array.getElem?_eq_some_iff.mp q3).1⟩⟩
    · exact ⟨0, fun h => absurd h hi⟩
  obtain ⟨w, hw⟩ := Classical.axiomOfChoice h0
  exact ⟨w, hw⟩
theorem zx_strs {args : Array Value} {s : State} (hg : (Jvm.Cond.and given_1 narrow_1).before args s = true) : ∃ adK adV : Nat → Nat, ∀ i, i < 44 → (Term.string "ApologyUp$Word" (zx_sn.getD i 0)).eval args s none [] s = some (.ref (adK i)) ∧ va_O "java/lang/String" (adK i) (fun q => s.heap.size ≤ q) s s.heap ∧ va_OF "java/lang/String" "coder" "B" (.int 0) (adK i) (fun q => s.heap.size ≤ q) s s.heap ∧ va_OF "java/lang/String" "value" "[B" (.ref (adV i)) (adK i) (fun q => s.heap.size ≤ q) s s.heap ∧ va_T .byte (adV i) (zz_ln.getD i 0) (fun j => .int ((zz_sp.getD i []).getD j 0)) (fun q => s.heap.size ≤ q) s s.heap := by
  have hA : ∀ a : Nat, a < s.heap.size → ¬ (fun q => s.heap.size ≤ q) a := fun a h => Nat.not_le.mpr h
  have h0 : ∀ i : Nat, ∃ q : Nat × Nat, i < 44 → (Term.string "ApologyUp$Word" (zx_sn.getD i 0)).eval args s none [] s = some (.ref q.1) ∧ va_O "java/lang/String" q.1 (fun q => s.heap.size ≤ q) s s.heap ∧ va_OF "java/lang/String" "coder" "B" (.int 0) q.1 (fun q => s.heap.size ≤ q) s s.heap ∧ va_OF "java/lang/String" "value" "[B" (.ref q.2) q.1 (fun q => s.heap.size ≤ q) s s.heap ∧ va_T .byte q.2 (zz_ln.getD i 0) (fun j => .int ((zz_sp.getD i []).getD j 0)) (fun q => s.heap.size ≤ q) s s.heap := by
    intro i
    by_cases hi : i < 44
    · have l7 := (zz_sd_ok i hi).2.1
      obtain ⟨a, c, cB, kA, q1, q2, q3, q4, q5, q6, -⟩ := Cond.exactly_spec (zx_at hg (zx_SE i hi))
      obtain ⟨t, ht, hT⟩ := va_Tof (f := fun j => .int ((zz_sp.getD i []).getD j 0)) (A := fun q => s.heap.size ≤ q) (N := zz_ln.getD i 0) (by omega) (zx_at hg (zx_SA i hi)) (va_eqt (zx_at hg (zx_SL i hi))) (fun j hj => va_eqt (zx_at hg (zx_SB i hi j (by omega) hj))) hA
      exact ⟨(a, t), fun _ => ⟨q1, ⟨cB, q3, q5, by rw [q6]; exact q2, hA a (Array.getElem?_eq_some_iff.mp q3).1⟩, vk_OFof q1 (va_eqt (zx_at hg (zx_SC i hi))) hA, vk_OFof q1 ht hA, hT⟩⟩
    · exact ⟨(0, 0), fun h => absurd h hi⟩
  obtain ⟨ad, had⟩ := Classical.axiomOfChoice h0
  exact ⟨fun i => (ad i).1, fun i => (ad i).2, had⟩
theorem zx_KA {s : State} {args : Array Value} {ty : FieldType} (h : (Cond.arrayClass ty).before args s = true) (hra : ∀ X, s.vm.findClass ("[" ++ ty.toString) = some X → va_RA s X ty) : ∃ X : ClassId, ArrOfT s X ty ∧ va_RA s X ty := by
  obtain ⟨c, k, comp, f1, f2, f3⟩ := Cond.arrayClass_spec h
  exact ⟨c, fun n z => ⟨fun k h => (by cases h), k, f2, comp, f3⟩, hra c f1⟩
theorem zx_KO {s : State} {args : Array Value} {C : String} (h : (Cond.arrayOver (.object C)).before args s = true) : ∃ X : ClassId, ArrOfT s X (.object C) ∧ va_RA s X (.object C) := by
  obtain ⟨comp, c, k, h1, h2, h3, h4, h5⟩ := Cond.arrayOver_spec h
  exact ⟨c, fun n z => ⟨fun k h => (by cases h), k, h3, comp, h4⟩, k, comp, h3, h4, h1, h5⟩
theorem zx_K {s : State} {args : Array Value} (hts : ∀ w ∈ lw_tbl, w.before args s = true) : ∃ (D : va_G) (cA : Nat → ClassId), va_K D zy_cl (zm_tys cA) s := by
  have ht : ∀ w ∈ zy_T, w.before args s = true := fun w hw => hts w (List.mem_filter.mp hw).1
  obtain ⟨c0, i0, k0⟩ := u_known (C := RX0) (T := TX0) (N := 2) (n := 2) ht zy_in0 (ht _ zu_n0)
  obtain ⟨c1, i1, k1⟩ := u_known (C := RX1) (T := TX1) (N := 10) (n := 10) ht zy_in1 (ht _ zu_n1)
  obtain ⟨c2, i2, k2⟩ := u_known (C := RX2) (T := TX2) (N := 4) (n := 4) ht zy_in2 (ht _ zu_n2)
  obtain ⟨c3, i3, k3⟩ := u_known (C := RX3) (T := TX3) (N := 11) (n := 11) ht zy_in3 (ht _ zu_n3)
  obtain ⟨c4, i4, k4⟩ := u_known (C := RX4) (T := TX4) (N := 4) (n := 4) ht zy_in4 (ht _ zu_n4)
  obtain ⟨c5, i5, k5⟩ := u_known (C := RX5) (T := TX5) (N := 11) (n := 11) ht zy_in5 (ht _ zu_n5)
  obtain ⟨c6, i6, k6⟩ := u_known (C := RX6) (T := TX6) (N := 13) (n := 13) ht zy_in6 (ht _ zu_n6)
  obtain ⟨c7, i7, k7⟩ := u_known (C := RX7) (T := TX7) (N := 6) (n := 6) ht zy_in7 (ht _ zu_n7)
  obtain ⟨c8, i8, k8⟩ := u_known (C := RX8) (T := TX8) (N := 5) (n := 5) ht zy_in8 (ht _ zu_n8)
  obtain ⟨c10, i10, k10⟩ := u_known (C := RX10) (T := TX10) (N := 13) (n := 13) ht zy_in10 (ht _ zu_n10)
  obtain ⟨c11, i11, k11⟩ := u_known (C := RX11) (T := TX11) (N := 10) (n := 10) ht zy_in11 (ht _ zu_n11)
  obtain ⟨c12, i12, k12⟩ := u_known (C := RX12) (T := TX12) (N := 35) (n := 35) ht zy_in12 (ht _ zu_n12)
  obtain ⟨a0, b0⟩ := zx_KA (ht _ zu_a_int) (fun _ h => h)
  obtain ⟨a1, b1⟩ := zx_KA (ht _ zu_a_char) (fun _ h => h)
  obtain ⟨a2, b2⟩ := zx_KA (ht _ zu_a_boolean) (fun _ h => h)
  obtain ⟨a3, b3⟩ := zx_KA (ht _ zu_a_long) (fun _ h => h)
  obtain ⟨a4, b4⟩ := zx_KO (hts _ zx_o_World)
  obtain ⟨a5, b5⟩ := zx_KO (hts _ zx_o_Law)
  obtain ⟨a6, b6⟩ := zx_KO (hts _ zx_o_Word)
  refine ⟨(fun k => [c0, c1, c2, c3, c4, c5, c6, c7, c8, c0, c10, c11, c12].getD k c0, fun k => [i0, i1, i2, i3, i4, i5, i6, i7, i8, i0, i10, i11, i12].getD k i0), fun k => [a0, a1, a2, a3, a4, a5, a6].getD k a0, ?_, ?_⟩
  · intro k q hq
    match k, hq with
    | 0, hq => cases hq; exact k0
    | 1, hq => cases hq; exact k1
    | 2, hq => cases hq; exact k2
    | 3, hq => cases hq; exact k3
    | 4, hq => cases hq; exact k4
    | 5, hq => cases hq; exact k5
    | 6, hq => cases hq; exact k6
    | 7, hq => cases hq; exact k7
    | 8, hq => cases hq; exact k8
    | 9, hq => cases hq; exact k0
    | 10, hq => cases hq; exact k10
    | 11, hq => cases hq; exact k11
    | 12, hq => cases hq; exact k12
    | k + 13, hq => simp [zy_cl] at hq
  · intro k q hq
    match k, hq with
    | 0, hq => cases hq; exact b0
    | 1, hq => cases hq; exact b1
    | 2, hq => cases hq; exact b2
    | 3, hq => cases hq; exact b3
    | 4, hq => cases hq; exact b4
    | 5, hq => cases hq; exact b5
    | 6, hq => cases hq; exact b6
    | k + 7, hq => simp [zm_tys] at hq
theorem zx_start {args : Array Value} {s : State} (hg : (Jvm.Cond.and given_1 narrow_1).before args s = true) (hts : ∀ w ∈ lw_tbl, w.before args s = true) : ∃ (D : va_G) (cA : Nat → ClassId) (w : Nat → Nat) (wa : Nat), zm_ok (zu_ad s.heap.size w wa) (fun q => s.heap.size ≤ q) ∧ zm_SF (zu_ad s.heap.size w wa) (fun q => s.heap.size ≤ q) s s.heap ∧ va_K D zy_cl (zm_tys cA) s ∧ zc_N s.heap.size (w 43) s s.heap := by
  have hA : ∀ a : Nat, a < s.heap.size → ¬ (fun q => s.heap.size ≤ q) a := fun a h => Nat.not_le.mpr h
  obtain ⟨D, cA, hK⟩ := zx_K hts
  obtain ⟨w, hw⟩ := zx_words hg
  obtain ⟨adK, adV, hs⟩ := zx_strs hg
  obtain ⟨wa, ev, hT⟩ := va_Tof (tm := .static "ApologyUp$Reader" "WORDS" "[LApologyUp$Word;") (ty := .object "ApologyUp$Word") (N := 44) (f := fun j => .ref (w j)) (A := fun q => s.heap.size ≤ q) (by decide) (zx_at hg zx_wa) (va_eqt (zx_at hg zx_wl)) (fun j hj => va_eqv (zx_at hg (zx_WE j hj)) (hw j hj).1) hA
  have hlt : ∀ i, i < 44 → w i < s.heap.size := fun i hi => by
    obtain ⟨cell, h1, -⟩ := (hw i hi).2
    exact (Array.getElem?_eq_some_iff.mp h1).1
  have hor : ∀ i, i < 44 → s.fieldOf? (w i) "java/lang/Enum" "ordinal" "I" = some (.int (Int32.ofNat i)) := fun i hi => by
    have h1 := va_eqt (zx_at hg (zx_O i hi))
    rw [va_fe (hw i hi).1] at h1
    exact h1
  have hinj : ∀ i j, i < 44 → j < 44 → w i = w j → i = j := fun i j hi hj e => by
    have h1 := hor i hi
    rw [e, hor j hj] at h1
    have h2 : nI j = nI i := Value.int.inj (Option.some.inj h1)
    exact ((nI_eq (by omega) (by omega)).mp h2).symm
  have hwa : wa < s.heap.size := by
    obtain ⟨cell, h1, -⟩ := hT
    exact (Array.getElem?_eq_some_iff.mp h1).1
  have hne : ∀ i, i < 44 → w i ≠ wa := fun i hi e => by
    obtain ⟨a, c, cell, k, q1, q2, q3, q4, q5, q6, -⟩ := Cond.exactly_spec (zx_at hg zx_wx)
    have ea : a = wa := by
      have := q1.symm.trans ev
      exact Value.ref.inj (Option.some.inj this)
    obtain ⟨cell2, h1, -, h3, -⟩ := (hw i hi).2
    rw [e, ← ea, q3] at h1
    cases h1
    rw [q6] at h3
    obtain ⟨k1, g1, g2⟩ := Vm.findClass_spec h3
    obtain ⟨k2, g3, g4⟩ := Vm.findClass_spec q2
    rw [g1] at g3
    cases g3
    exact absurd (g2.symm.trans g4) (by decide)
  have hEn : va_En "ApologyUp$Word" "LApologyUp$Word;" zz_nm zz_F (fun i => zu_ad s.heap.size w wa (1000 + i)) (fun q => s.heap.size ≤ q) s s.heap := by
    refine ⟨fun i hi => ?_, fun i j hi hj e => ?_⟩
    · have hi : i < 44 := hi
      dsimp only
      rw [zu_ad_w hi]
      refine ⟨va_Zref (hts _ (zx_ls i hi)) (hts _ zx_iw) (hw i hi).1 hA, (hw i hi).2, fun q hq => ?_⟩
      simp only [zz_F, List.mem_cons, List.not_mem_nil, or_false] at hq
      rcases hq with rfl | rfl | rfl
      · exact vk_OFof (hw i hi).1 (va_eqt (zx_at hg (zx_CK i hi))) hA
      · exact vk_OFof (hw i hi).1 (va_eqt (zx_at hg (zx_NC i hi))) hA
      · exact vk_OFof (hw i hi).1 (va_eqt (zx_at hg (zx_OC i hi))) hA
    · have hi : i < 44 := hi
      have hj : j < 44 := hj
      dsimp only at e
      rw [zu_ad_w hi, zu_ad_w hj] at e
      exact hinj i j hi hj e
  refine ⟨D, cA, w, wa, zu_ad_ok hlt hinj hwa hne, ⟨va_Nw.of rfl (hts _ zx_n_6_79), va_Nw.of rfl (hts _ zx_n_5_128), hEn, ⟨adK, adV, fun i hi => ?_⟩, ?_, ?_, ?_, ?_⟩, hK, va_Nw.of rfl (hts _ zx_n_6_11), va_Nw.of rfl (hts _ zx_n_6_20), va_Nw.of rfl (hts _ zx_n_6_50), va_Nw.of rfl (hts _ zx_n_6_68), va_Nw.of rfl (hts _ zx_n_11_21), va_Nw.of rfl (hts _ zx_n_11_64), va_AO.of (hts _ zx_o_World), va_AO.of (hts _ zx_o_Law), va_AO.of (hts _ zx_o_Word), ?_⟩
  · rw [zu_ad_w hi]
    obtain ⟨h1, h2, h3, h4, h5⟩ := hs i hi
    exact ⟨vk_OFof (hw i hi).1 (va_eqv (zx_at hg (zx_SP i hi)) h1) hA, h2, h3, h4, h5⟩
  · rw [zu_ad_a]
    exact va_Zref (hts _ zx_lr) (hts _ zx_ir) ev hA
  · rw [zu_ad_a]
    obtain ⟨cell, t1, t2, t3, t4, t5, t6, t7⟩ := hT
    exact ⟨cell, t1, t2, t3, t4, t5, fun j hj => by dsimp only; rw [zu_ad_w hj]; exact t6 j hj, t7⟩
  · exact va_Zof (hts _ zx_lc) (hts _ zx_is) (va_eqt (zx_at hg zx_cs)) hA
  · exact va_Zqof (hts _ zx_lp) (hts _ zx_ip) (zx_at hg zx_sf) hA
  · have h9 := (hEn.1 43 (by decide)).1
    have e9 : zu_ad s.heap.size w wa (1000 + 43) = w 43 := zu_ad_w (by decide)
    dsimp only at h9
    rw [e9] at h9
    exact h9
