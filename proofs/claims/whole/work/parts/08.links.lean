theorem zy_t1 {w : Cond} (h : w ∈ tables_1_1) : w ∈ lw_tbl := List.mem_append_right _ (show w ∈ tables_1 from List.mem_append_left _ h)
theorem zy_t2 {w : Cond} (h : w ∈ tables_1_2) : w ∈ lw_tbl := List.mem_append_right _ (show w ∈ tables_1 from List.mem_append_right _ (List.mem_append_left _ h))
theorem zy_t3 {w : Cond} (h : w ∈ tables_1_3) : w ∈ lw_tbl := List.mem_append_right _ (show w ∈ tables_1 from List.mem_append_right _ (List.mem_append_right _ (List.mem_append_left _ h)))
theorem zy_t4 {w : Cond} (h : w ∈ tables_1_4) : w ∈ lw_tbl := List.mem_append_right _ (show w ∈ tables_1 from List.mem_append_right _ (List.mem_append_right _ (List.mem_append_right _ (List.mem_append_left _ h))))
theorem zy_t5 {w : Cond} (h : w ∈ tables_1_5) : w ∈ lw_tbl := List.mem_append_right _ (show w ∈ tables_1 from List.mem_append_right _ (List.mem_append_right _ (List.mem_append_right _ (List.mem_append_right _ (List.mem_append_left _ h)))))
theorem zy_t6 {w : Cond} (h : w ∈ tables_1_6) : w ∈ lw_tbl := List.mem_append_right _ (show w ∈ tables_1 from List.mem_append_right _ (List.mem_append_right _ (List.mem_append_right _ (List.mem_append_right _ (List.mem_append_right _ (List.mem_append_left _ h))))))
theorem zy_t7 {w : Cond} (h : w ∈ tables_1_7) : w ∈ lw_tbl := List.mem_append_right _ (show w ∈ tables_1 from List.mem_append_right _ (List.mem_append_right _ (List.mem_append_right _ (List.mem_append_right _ (List.mem_append_right _ (List.mem_append_right _ (List.mem_append_left _ h)))))))
theorem zy_t8 {w : Cond} (h : w ∈ tables_1_8) : w ∈ lw_tbl := List.mem_append_right _ (show w ∈ tables_1 from List.mem_append_right _ (List.mem_append_right _ (List.mem_append_right _ (List.mem_append_right _ (List.mem_append_right _ (List.mem_append_right _ (List.mem_append_right _ (List.mem_append_left _ h))))))))
theorem zy_t9 {w : Cond} (h : w ∈ tables_1_9) : w ∈ lw_tbl := List.mem_append_right _ (show w ∈ tables_1 from List.mem_append_right _ (List.mem_append_right _ (List.mem_append_right _ (List.mem_append_right _ (List.mem_append_right _ (List.mem_append_right _ (List.mem_append_right _ (List.mem_append_right _ (h)))))))))
theorem zy_co0_t : ∀ k, k < 2 → zy_ty (zy_fk 0 k) (tyX0 k) (TX0 k).2.2.2 := fun k hk => match k, hk with
  | 0, _ => trivial
  | 1, _ => trivial
  | n + 2, h => absurd h (by omega)
theorem zy_co0 : zy_co 0 RX0 TX0 2 tyX0 := ⟨rfl, zy_in0, tyX0_ok, nmX0, by decide +kernel, zy_co0_t⟩
theorem zy_co1_t : ∀ k, k < 10 → zy_ty (zy_fk 1 k) (tyX1 k) (TX1 k).2.2.2 := fun k hk => match k, hk with
  | 0, _ => ⟨rfl, rfl⟩
  | 1, _ => trivial
  | 2, _ => trivial
  | 3, _ => trivial
  | 4, _ => trivial
  | 5, _ => trivial
  | 6, _ => trivial
  | 7, _ => ⟨rfl, rfl⟩
  | 8, _ => trivial
  | 9, _ => trivial
  | n + 10, h => absurd h (by omega)
theorem zy_co1 : zy_co 1 RX1 TX1 10 tyX1 := ⟨rfl, zy_in1, tyX1_ok, nmX1, by decide +kernel, zy_co1_t⟩
theorem zy_co2_t : ∀ k, k < 4 → zy_ty (zy_fk 2 k) (tyX2 k) (TX2 k).2.2.2 := fun k hk => match k, hk with
  | 0, _ => trivial
  | 1, _ => trivial
  | 2, _ => trivial
  | 3, _ => ⟨rfl, rfl⟩
  | n + 4, h => absurd h (by omega)
theorem zy_co2 : zy_co 2 RX2 TX2 4 tyX2 := ⟨rfl, zy_in2, tyX2_ok, nmX2, by decide +kernel, zy_co2_t⟩
theorem zy_co3_t : ∀ k, k < 11 → zy_ty (zy_fk 3 k) (tyX3 k) (TX3 k).2.2.2 := fun k hk => match k, hk with
  | 0, _ => trivial
  | 1, _ => trivial
  | 2, _ => ⟨rfl, rfl⟩
  | 3, _ => ⟨rfl, rfl⟩
  | 4, _ => trivial
  | 5, _ => trivial
  | 6, _ => trivial
  | 7, _ => ⟨⟨_, rfl⟩, rfl⟩
  | 8, _ => ⟨rfl, rfl⟩
  | 9, _ => ⟨rfl, rfl⟩
  | 10, _ => ⟨rfl, rfl⟩
  | n + 11, h => absurd h (by omega)
theorem zy_co3 : zy_co 3 RX3 TX3 11 tyX3 := ⟨rfl, zy_in3, tyX3_ok, nmX3, by decide +kernel, zy_co3_t⟩
theorem zy_co4_t : ∀ k, k < 4 → zy_ty (zy_fk 4 k) (tyX4 k) (TX4 k).2.2.2 := fun k hk => match k, hk with
  | 0, _ => ⟨rfl, rfl⟩
  | 1, _ => ⟨rfl, rfl⟩
  | 2, _ => trivial
  | 3, _ => trivial
  | n + 4, h => absurd h (by omega)
theorem zy_co4 : zy_co 4 RX4 TX4 4 tyX4 := ⟨rfl, zy_in4, tyX4_ok, nmX4, by decide +kernel, zy_co4_t⟩
theorem zy_co5_t : ∀ k, k < 11 → zy_ty (zy_fk 5 k) (tyX5 k) (TX5 k).2.2.2 := fun k hk => match k, hk with
  | 0, _ => ⟨rfl, rfl⟩
  | 1, _ => ⟨rfl, rfl⟩
  | 2, _ => ⟨rfl, rfl⟩
  | 3, _ => trivial
  | 4, _ => trivial
  | 5, _ => trivial
  | 6, _ => ⟨rfl, rfl⟩
  | 7, _ => ⟨rfl, rfl⟩
  | 8, _ => ⟨⟨_, rfl⟩, rfl⟩
  | 9, _ => ⟨rfl, rfl⟩
  | 10, _ => ⟨⟨_, rfl⟩, rfl⟩
  | n + 11, h => absurd h (by omega)
theorem zy_co5 : zy_co 5 RX5 TX5 11 tyX5 := ⟨rfl, zy_in5, tyX5_ok, nmX5, by decide +kernel, zy_co5_t⟩
theorem zy_co6_t : ∀ k, k < 13 → zy_ty (zy_fk 6 k) (tyX6 k) (TX6 k).2.2.2 := fun k hk => match k, hk with
  | 0, _ => trivial
  | 1, _ => trivial
  | 2, _ => trivial
  | 3, _ => ⟨rfl, rfl⟩
  | 4, _ => ⟨rfl, rfl⟩
  | 5, _ => trivial
  | 6, _ => ⟨rfl, rfl⟩
  | 7, _ => ⟨rfl, rfl⟩
  | 8, _ => trivial
  | 9, _ => trivial
  | 10, _ => ⟨rfl, rfl⟩
  | 11, _ => trivial
  | 12, _ => trivial
  | n + 13, h => absurd h (by omega)
theorem zy_co6 : zy_co 6 RX6 TX6 13 tyX6 := ⟨rfl, zy_in6, tyX6_ok, nmX6, by decide +kernel, zy_co6_t⟩
theorem zy_co7_t : ∀ k, k < 6 → zy_ty (zy_fk 7 k) (tyX7 k) (TX7 k).2.2.2 := fun k hk => match k, hk with
  | 0, _ => ⟨rfl, rfl⟩
  | 1, _ => trivial
  | 2, _ => trivial
  | 3, _ => trivial
  | 4, _ => trivial
  | 5, _ => trivial
  | n + 6, h => absurd h (by omega)
theorem zy_co7 : zy_co 7 RX7 TX7 6 tyX7 := ⟨rfl, zy_in7, tyX7_ok, nmX7, by decide +kernel, zy_co7_t⟩
theorem zy_co8_t : ∀ k, k < 5 → zy_ty (zy_fk 8 k) (tyX8 k) (TX8 k).2.2.2 := fun k hk => match k, hk with
  | 0, _ => trivial
  | 1, _ => trivial
  | 2, _ => trivial
  | 3, _ => trivial
  | 4, _ => trivial
  | n + 5, h => absurd h (by omega)
theorem zy_co8 : zy_co 8 RX8 TX8 5 tyX8 := ⟨rfl, zy_in8, tyX8_ok, nmX8, by decide +kernel, zy_co8_t⟩
theorem zy_co10_t : ∀ k, k < 13 → zy_ty (zy_fk 10 k) (tyX10 k) (TX10 k).2.2.2 := fun k hk => match k, hk with
  | 0, _ => ⟨rfl, rfl⟩
  | 1, _ => ⟨rfl, rfl⟩
  | 2, _ => ⟨rfl, rfl⟩
  | 3, _ => trivial
  | 4, _ => trivial
  | 5, _ => trivial
  | 6, _ => trivial
  | 7, _ => trivial
  | 8, _ => trivial
  | 9, _ => trivial
  | 10, _ => trivial
  | 11, _ => ⟨rfl, rfl⟩
  | 12, _ => trivial
  | n + 13, h => absurd h (by omega)
theorem zy_co10 : zy_co 10 RX10 TX10 13 tyX10 := ⟨rfl, zy_in10, tyX10_ok, nmX10, by decide +kernel, zy_co10_t⟩
theorem zy_co11_t : ∀ k, k < 10 → zy_ty (zy_fk 11 k) (tyX11 k) (TX11 k).2.2.2 := fun k hk => match k, hk with
  | 0, _ => trivial
  | 1, _ => trivial
  | 2, _ => trivial
  | 3, _ => trivial
  | 4, _ => trivial
  | 5, _ => trivial
  | 6, _ => trivial
  | 7, _ => trivial
  | 8, _ => trivial
  | 9, _ => ⟨rfl, rfl⟩
  | n + 10, h => absurd h (by omega)
theorem zy_co11 : zy_co 11 RX11 TX11 10 tyX11 := ⟨rfl, zy_in11, tyX11_ok, nmX11, by decide +kernel, zy_co11_t⟩
theorem zy_co12_t : ∀ k, k < 35 → zy_ty (zy_fk 12 k) (tyX12 k) (TX12 k).2.2.2 := fun k hk => match k, hk with
  | 0, _ => trivial
  | 1, _ => trivial
  | 2, _ => trivial
  | 3, _ => trivial
  | 4, _ => ⟨rfl, rfl⟩
  | 5, _ => ⟨rfl, rfl⟩
  | 6, _ => ⟨rfl, rfl⟩
  | 7, _ => ⟨rfl, rfl⟩
  | 8, _ => ⟨rfl, rfl⟩
  | 9, _ => ⟨rfl, rfl⟩
  | 10, _ => ⟨rfl, rfl⟩
  | 11, _ => ⟨rfl, rfl⟩
  | 12, _ => ⟨rfl, rfl⟩
  | 13, _ => ⟨rfl, rfl⟩
  | 14, _ => ⟨rfl, rfl⟩
  | 15, _ => trivial
  | 16, _ => ⟨rfl, rfl⟩
  | 17, _ => ⟨rfl, rfl⟩
  | 18, _ => ⟨rfl, rfl⟩
  | 19, _ => ⟨rfl, rfl⟩
  | 20, _ => trivial
  | 21, _ => trivial
  | 22, _ => trivial
  | 23, _ => ⟨rfl, rfl⟩
  | 24, _ => ⟨rfl, rfl⟩
  | 25, _ => ⟨rfl, rfl⟩
  | 26, _ => trivial
  | 27, _ => trivial
  | 28, _ => trivial
  | 29, _ => trivial
  | 30, _ => trivial
  | 31, _ => ⟨rfl, rfl⟩
  | 32, _ => ⟨rfl, rfl⟩
  | 33, _ => trivial
  | 34, _ => ⟨rfl, rfl⟩
  | n + 35, h => absurd h (by omega)
theorem zy_co12 : zy_co 12 RX12 TX12 35 tyX12 := ⟨rfl, zy_in12, tyX12_ok, nmX12, by decide +kernel, zy_co12_t⟩
theorem zf_0_48 : zy_fr 0 48 = (7, 1) := rfl
theorem zo_0_48 : zy_fo 0 48 := ⟨RX7, TX7, 6, tyX7, zy_co7, by decide, zy_mem (zy_t1 (List.mem_of_getElem? (i := 48) (by decide +kernel))) rfl⟩
theorem zf_0_45 : zy_fr 0 45 = (10, 0) := rfl
theorem zo_0_45 : zy_fo 0 45 := ⟨RX10, TX10, 13, tyX10, zy_co10, by decide, zy_mem (zy_t1 (List.mem_of_getElem? (i := 84) (by decide +kernel))) rfl⟩
theorem zf_0_19 : zy_fr 0 19 = (10, 2) := rfl
theorem zo_0_19 : zy_fo 0 19 := ⟨RX10, TX10, 13, tyX10, zy_co10, by decide, zy_mem (zy_t1 (List.mem_of_getElem? (i := 89) (by decide +kernel))) rfl⟩
theorem zf_0_96 : zy_fr 0 96 = (10, 3) := rfl
theorem zo_0_96 : zy_fo 0 96 := ⟨RX10, TX10, 13, tyX10, zy_co10, by decide, zy_mem (zy_t1 (List.mem_of_getElem? (i := 92) (by decide +kernel))) rfl⟩
theorem zf_0_85 : zy_fr 0 85 = (10, 4) := rfl
theorem zo_0_85 : zy_fo 0 85 := ⟨RX10, TX10, 13, tyX10, zy_co10, by decide, zy_mem (zy_t1 (List.mem_of_getElem? (i := 95) (by decide +kernel))) rfl⟩
theorem zf_0_53 : zy_fr 0 53 = (10, 5) := rfl
theorem zo_0_53 : zy_fo 0 53 := ⟨RX10, TX10, 13, tyX10, zy_co10, by decide, zy_mem (zy_t1 (List.mem_of_getElem? (i := 98) (by decide +kernel))) rfl⟩
theorem zf_0_72 : zy_fr 0 72 = (10, 6) := rfl
theorem zo_0_72 : zy_fo 0 72 := ⟨RX10, TX10, 13, tyX10, zy_co10, by decide, zy_mem (zy_t1 (List.mem_of_getElem? (i := 101) (by decide +kernel))) rfl⟩
theorem zf_0_29 : zy_fr 0 29 = (10, 7) := rfl
theorem zo_0_29 : zy_fo 0 29 := ⟨RX10, TX10, 13, tyX10, zy_co10, by decide, zy_mem (zy_t1 (List.mem_of_getElem? (i := 104) (by decide +kernel))) rfl⟩
theorem zf_0_106 : zy_fr 0 106 = (10, 8) := rfl
theorem zo_0_106 : zy_fo 0 106 := ⟨RX10, TX10, 13, tyX10, zy_co10, by decide, zy_mem (zy_t1 (List.mem_of_getElem? (i := 107) (by decide +kernel))) rfl⟩
theorem zf_0_63 : zy_fr 0 63 = (2, 1) := rfl
theorem zo_0_63 : zy_fo 0 63 := ⟨RX2, TX2, 4, tyX2, zy_co2, by decide, zy_mem (zy_t2 (List.mem_of_getElem? (i := 43) (by decide +kernel))) rfl⟩
theorem zf_0_9 : zy_fr 0 9 = (0, 0) := rfl
theorem zo_0_9 : zy_fo 0 9 := ⟨RX0, TX0, 2, tyX0, zy_co0, by decide, zy_mem (zy_t2 (List.mem_of_getElem? (i := 62) (by decide +kernel))) rfl⟩
theorem zf_0_15 : zy_fr 0 15 = (0, 1) := rfl
theorem zo_0_15 : zy_fo 0 15 := ⟨RX0, TX0, 2, tyX0, zy_co0, by decide, zy_mem (zy_t2 (List.mem_of_getElem? (i := 63) (by decide +kernel))) rfl⟩
theorem zf_1_9 : zy_fr 1 9 = (1, 0) := rfl
theorem zo_1_9 : zy_fo 1 9 := ⟨RX1, TX1, 10, tyX1, zy_co1, by decide, zy_mem (zy_t1 (List.mem_of_getElem? (i := 173) (by decide +kernel))) rfl⟩
theorem zf_1_15 : zy_fr 1 15 = (1, 1) := rfl
theorem zo_1_15 : zy_fo 1 15 := ⟨RX1, TX1, 10, tyX1, zy_co1, by decide, zy_mem (zy_t1 (List.mem_of_getElem? (i := 176) (by decide +kernel))) rfl⟩
theorem zf_1_19 : zy_fr 1 19 = (1, 2) := rfl
theorem zo_1_19 : zy_fo 1 19 := ⟨RX1, TX1, 10, tyX1, zy_co1, by decide, zy_mem (zy_t1 (List.mem_of_getElem? (i := 179) (by decide +kernel))) rfl⟩
theorem zf_1_22 : zy_fr 1 22 = (1, 3) := rfl
theorem zo_1_22 : zy_fo 1 22 := ⟨RX1, TX1, 10, tyX1, zy_co1, by decide, zy_mem (zy_t1 (List.mem_of_getElem? (i := 182) (by decide +kernel))) rfl⟩
theorem zf_1_25 : zy_fr 1 25 = (1, 4) := rfl
theorem zo_1_25 : zy_fo 1 25 := ⟨RX1, TX1, 10, tyX1, zy_co1, by decide, zy_mem (zy_t1 (List.mem_of_getElem? (i := 185) (by decide +kernel))) rfl⟩
theorem zf_1_28 : zy_fr 1 28 = (1, 5) := rfl
theorem zo_1_28 : zy_fo 1 28 := ⟨RX1, TX1, 10, tyX1, zy_co1, by decide, zy_mem (zy_t1 (List.mem_of_getElem? (i := 188) (by decide +kernel))) rfl⟩
theorem zf_1_31 : zy_fr 1 31 = (1, 6) := rfl
theorem zo_1_31 : zy_fo 1 31 := ⟨RX1, TX1, 10, tyX1, zy_co1, by decide, zy_mem (zy_t1 (List.mem_of_getElem? (i := 191) (by decide +kernel))) rfl⟩
theorem zf_1_34 : zy_fr 1 34 = (1, 7) := rfl
theorem zo_1_34 : zy_fo 1 34 := ⟨RX1, TX1, 10, tyX1, zy_co1, by decide, zy_mem (zy_t1 (List.mem_of_getElem? (i := 194) (by decide +kernel))) rfl⟩
theorem zf_1_37 : zy_fr 1 37 = (1, 8) := rfl
theorem zo_1_37 : zy_fo 1 37 := ⟨RX1, TX1, 10, tyX1, zy_co1, by decide, zy_mem (zy_t1 (List.mem_of_getElem? (i := 196) (by decide +kernel))) rfl⟩
theorem zf_1_40 : zy_fr 1 40 = (1, 9) := rfl
theorem zo_1_40 : zy_fo 1 40 := ⟨RX1, TX1, 10, tyX1, zy_co1, by decide, zy_mem (zy_t1 (List.mem_of_getElem? (i := 198) (by decide +kernel))) rfl⟩
theorem zf_2_26 : zy_fr 2 26 = (7, 2) := rfl
theorem zo_2_26 : zy_fo 2 26 := ⟨RX7, TX7, 6, tyX7, zy_co7, by decide, zy_mem (zy_t1 (List.mem_of_getElem? (i := 52) (by decide +kernel))) rfl⟩
theorem zf_2_31 : zy_fr 2 31 = (7, 3) := rfl
theorem zo_2_31 : zy_fo 2 31 := ⟨RX7, TX7, 6, tyX7, zy_co7, by decide, zy_mem (zy_t1 (List.mem_of_getElem? (i := 56) (by decide +kernel))) rfl⟩
theorem zf_2_48 : zy_fr 2 48 = (1, 5) := rfl
theorem zo_2_48 : zy_fo 2 48 := ⟨RX1, TX1, 10, tyX1, zy_co1, by decide, zy_mem (zy_t1 (List.mem_of_getElem? (i := 189) (by decide +kernel))) rfl⟩
theorem zf_2_51 : zy_fr 2 51 = (1, 6) := rfl
theorem zo_2_51 : zy_fo 2 51 := ⟨RX1, TX1, 10, tyX1, zy_co1, by decide, zy_mem (zy_t1 (List.mem_of_getElem? (i := 192) (by decide +kernel))) rfl⟩
theorem zf_2_54 : zy_fr 2 54 = (1, 8) := rfl
theorem zo_2_54 : zy_fo 2 54 := ⟨RX1, TX1, 10, tyX1, zy_co1, by decide, zy_mem (zy_t1 (List.mem_of_getElem? (i := 197) (by decide +kernel))) rfl⟩
theorem zf_2_57 : zy_fr 2 57 = (1, 9) := rfl
theorem zo_2_57 : zy_fo 2 57 := ⟨RX1, TX1, 10, tyX1, zy_co1, by decide, zy_mem (zy_t1 (List.mem_of_getElem? (i := 199) (by decide +kernel))) rfl⟩
theorem zf_2_22 : zy_fr 2 22 = (2, 0) := rfl
theorem zo_2_22 : zy_fo 2 22 := ⟨RX2, TX2, 4, tyX2, zy_co2, by decide, zy_mem (zy_t2 (List.mem_of_getElem? (i := 40) (by decide +kernel))) rfl⟩
theorem zf_2_9 : zy_fr 2 9 = (2, 1) := rfl
theorem zo_2_9 : zy_fo 2 9 := ⟨RX2, TX2, 4, tyX2, zy_co2, by decide, zy_mem (zy_t2 (List.mem_of_getElem? (i := 41) (by decide +kernel))) rfl⟩
theorem zf_2_15 : zy_fr 2 15 = (2, 2) := rfl
theorem zo_2_15 : zy_fo 2 15 := ⟨RX2, TX2, 4, tyX2, zy_co2, by decide, zy_mem (zy_t2 (List.mem_of_getElem? (i := 45) (by decide +kernel))) rfl⟩
theorem zf_2_18 : zy_fr 2 18 = (2, 3) := rfl
theorem zo_2_18 : zy_fo 2 18 := ⟨RX2, TX2, 4, tyX2, zy_co2, by decide, zy_mem (zy_t2 (List.mem_of_getElem? (i := 46) (by decide +kernel))) rfl⟩
theorem zf_3_73 : zy_fr 3 73 = (7, 0) := rfl
theorem zo_3_73 : zy_fo 3 73 := ⟨RX7, TX7, 6, tyX7, zy_co7, by decide, zy_mem (zy_t1 (List.mem_of_getElem? (i := 45) (by decide +kernel))) rfl⟩
theorem zf_3_89 : zy_fr 3 89 = (7, 1) := rfl
theorem zo_3_89 : zy_fo 3 89 := ⟨RX7, TX7, 6, tyX7, zy_co7, by decide, zy_mem (zy_t1 (List.mem_of_getElem? (i := 49) (by decide +kernel))) rfl⟩
theorem zf_3_55 : zy_fr 3 55 = (2, 1) := rfl
theorem zo_3_55 : zy_fo 3 55 := ⟨RX2, TX2, 4, tyX2, zy_co2, by decide, zy_mem (zy_t2 (List.mem_of_getElem? (i := 42) (by decide +kernel))) rfl⟩
theorem zf_3_9 : zy_fr 3 9 = (3, 0) := rfl
theorem zo_3_9 : zy_fo 3 9 := ⟨RX3, TX3, 11, tyX3, zy_co3, by decide, zy_mem (zy_t2 (List.mem_of_getElem? (i := 97) (by decide +kernel))) rfl⟩
theorem zf_3_15 : zy_fr 3 15 = (3, 1) := rfl
theorem zo_3_15 : zy_fo 3 15 := ⟨RX3, TX3, 11, tyX3, zy_co3, by decide, zy_mem (zy_t2 (List.mem_of_getElem? (i := 99) (by decide +kernel))) rfl⟩
theorem zf_3_18 : zy_fr 3 18 = (3, 2) := rfl
theorem zo_3_18 : zy_fo 3 18 := ⟨RX3, TX3, 11, tyX3, zy_co3, by decide, zy_mem (zy_t2 (List.mem_of_getElem? (i := 101) (by decide +kernel))) rfl⟩
theorem zf_3_22 : zy_fr 3 22 = (3, 3) := rfl
theorem zo_3_22 : zy_fo 3 22 := ⟨RX3, TX3, 11, tyX3, zy_co3, by decide, zy_mem (zy_t2 (List.mem_of_getElem? (i := 103) (by decide +kernel))) rfl⟩
theorem zf_3_41 : zy_fr 3 41 = (3, 4) := rfl
theorem zo_3_41 : zy_fo 3 41 := ⟨RX3, TX3, 11, tyX3, zy_co3, by decide, zy_mem (zy_t2 (List.mem_of_getElem? (i := 105) (by decide +kernel))) rfl⟩
theorem zf_3_45 : zy_fr 3 45 = (3, 5) := rfl
theorem zo_3_45 : zy_fo 3 45 := ⟨RX3, TX3, 11, tyX3, zy_co3, by decide, zy_mem (zy_t2 (List.mem_of_getElem? (i := 106) (by decide +kernel))) rfl⟩
theorem zf_3_25 : zy_fr 3 25 = (3, 6) := rfl
theorem zo_3_25 : zy_fo 3 25 := ⟨RX3, TX3, 11, tyX3, zy_co3, by decide, zy_mem (zy_t2 (List.mem_of_getElem? (i := 107) (by decide +kernel))) rfl⟩
theorem zf_3_28 : zy_fr 3 28 = (3, 7) := rfl
theorem zo_3_28 : zy_fo 3 28 := ⟨RX3, TX3, 11, tyX3, zy_co3, by decide, zy_mem (zy_t2 (List.mem_of_getElem? (i := 108) (by decide +kernel))) rfl⟩
theorem zf_3_32 : zy_fr 3 32 = (3, 8) := rfl
theorem zo_3_32 : zy_fo 3 32 := ⟨RX3, TX3, 11, tyX3, zy_co3, by decide, zy_mem (zy_t2 (List.mem_of_getElem? (i := 109) (by decide +kernel))) rfl⟩
theorem zf_3_35 : zy_fr 3 35 = (3, 9) := rfl
theorem zo_3_35 : zy_fo 3 35 := ⟨RX3, TX3, 11, tyX3, zy_co3, by decide, zy_mem (zy_t2 (List.mem_of_getElem? (i := 110) (by decide +kernel))) rfl⟩
theorem zf_3_38 : zy_fr 3 38 = (3, 10) := rfl
theorem zo_3_38 : zy_fo 3 38 := ⟨RX3, TX3, 11, tyX3, zy_co3, by decide, zy_mem (zy_t2 (List.mem_of_getElem? (i := 111) (by decide +kernel))) rfl⟩
theorem zf_4_9 : zy_fr 4 9 = (4, 0) := rfl
theorem zo_4_9 : zy_fo 4 9 := ⟨RX4, TX4, 4, tyX4, zy_co4, by decide, zy_mem (zy_t1 (List.mem_of_getElem? (i := 153) (by decide +kernel))) rfl⟩
theorem zf_4_15 : zy_fr 4 15 = (4, 1) := rfl
theorem zo_4_15 : zy_fo 4 15 := ⟨RX4, TX4, 4, tyX4, zy_co4, by decide, zy_mem (zy_t1 (List.mem_of_getElem? (i := 155) (by decide +kernel))) rfl⟩
theorem zf_4_18 : zy_fr 4 18 = (4, 2) := rfl
theorem zo_4_18 : zy_fo 4 18 := ⟨RX4, TX4, 4, tyX4, zy_co4, by decide, zy_mem (zy_t1 (List.mem_of_getElem? (i := 157) (by decide +kernel))) rfl⟩
theorem zf_4_22 : zy_fr 4 22 = (4, 3) := rfl
theorem zo_4_22 : zy_fo 4 22 := ⟨RX4, TX4, 4, tyX4, zy_co4, by decide, zy_mem (zy_t1 (List.mem_of_getElem? (i := 158) (by decide +kernel))) rfl⟩
theorem zf_5_142 : zy_fr 5 142 = (1, 0) := rfl
theorem zo_5_142 : zy_fo 5 142 := ⟨RX1, TX1, 10, tyX1, zy_co1, by decide, zy_mem (zy_t1 (List.mem_of_getElem? (i := 174) (by decide +kernel))) rfl⟩
theorem zf_5_139 : zy_fr 5 139 = (1, 1) := rfl
theorem zo_5_139 : zy_fo 5 139 := ⟨RX1, TX1, 10, tyX1, zy_co1, by decide, zy_mem (zy_t1 (List.mem_of_getElem? (i := 177) (by decide +kernel))) rfl⟩
theorem zf_5_183 : zy_fr 5 183 = (1, 2) := rfl
theorem zo_5_183 : zy_fo 5 183 := ⟨RX1, TX1, 10, tyX1, zy_co1, by decide, zy_mem (zy_t1 (List.mem_of_getElem? (i := 180) (by decide +kernel))) rfl⟩
theorem zf_5_195 : zy_fr 5 195 = (1, 3) := rfl
theorem zo_5_195 : zy_fo 5 195 := ⟨RX1, TX1, 10, tyX1, zy_co1, by decide, zy_mem (zy_t1 (List.mem_of_getElem? (i := 184) (by decide +kernel))) rfl⟩
theorem zf_5_192 : zy_fr 5 192 = (1, 4) := rfl
theorem zo_5_192 : zy_fo 5 192 := ⟨RX1, TX1, 10, tyX1, zy_co1, by decide, zy_mem (zy_t1 (List.mem_of_getElem? (i := 186) (by decide +kernel))) rfl⟩
theorem zf_5_158 : zy_fr 5 158 = (1, 5) := rfl
theorem zo_5_158 : zy_fo 5 158 := ⟨RX1, TX1, 10, tyX1, zy_co1, by decide, zy_mem (zy_t1 (List.mem_of_getElem? (i := 190) (by decide +kernel))) rfl⟩
theorem zf_5_167 : zy_fr 5 167 = (1, 6) := rfl
theorem zo_5_167 : zy_fo 5 167 := ⟨RX1, TX1, 10, tyX1, zy_co1, by decide, zy_mem (zy_t1 (List.mem_of_getElem? (i := 193) (by decide +kernel))) rfl⟩
theorem zf_5_161 : zy_fr 5 161 = (1, 7) := rfl
theorem zo_5_161 : zy_fo 5 161 := ⟨RX1, TX1, 10, tyX1, zy_co1, by decide, zy_mem (zy_t1 (List.mem_of_getElem? (i := 195) (by decide +kernel))) rfl⟩
theorem zf_5_9 : zy_fr 5 9 = (5, 0) := rfl
theorem zo_5_9 : zy_fo 5 9 := ⟨RX5, TX5, 11, tyX5, zy_co5, by decide, zy_mem (zy_t2 (List.mem_of_getElem? (i := 145) (by decide +kernel))) rfl⟩
theorem zf_5_15 : zy_fr 5 15 = (5, 1) := rfl
theorem zo_5_15 : zy_fo 5 15 := ⟨RX5, TX5, 11, tyX5, zy_co5, by decide, zy_mem (zy_t2 (List.mem_of_getElem? (i := 147) (by decide +kernel))) rfl⟩
theorem zf_5_19 : zy_fr 5 19 = (5, 2) := rfl
theorem zo_5_19 : zy_fo 5 19 := ⟨RX5, TX5, 11, tyX5, zy_co5, by decide, zy_mem (zy_t2 (List.mem_of_getElem? (i := 149) (by decide +kernel))) rfl⟩
theorem zf_5_24 : zy_fr 5 24 = (5, 3) := rfl
theorem zo_5_24 : zy_fo 5 24 := ⟨RX5, TX5, 11, tyX5, zy_co5, by decide, zy_mem (zy_t2 (List.mem_of_getElem? (i := 151) (by decide +kernel))) rfl⟩
theorem zf_5_28 : zy_fr 5 28 = (5, 4) := rfl
theorem zo_5_28 : zy_fo 5 28 := ⟨RX5, TX5, 11, tyX5, zy_co5, by decide, zy_mem (zy_t2 (List.mem_of_getElem? (i := 152) (by decide +kernel))) rfl⟩
theorem zf_5_32 : zy_fr 5 32 = (5, 5) := rfl
theorem zo_5_32 : zy_fo 5 32 := ⟨RX5, TX5, 11, tyX5, zy_co5, by decide, zy_mem (zy_t2 (List.mem_of_getElem? (i := 153) (by decide +kernel))) rfl⟩
theorem zf_5_35 : zy_fr 5 35 = (5, 6) := rfl
theorem zo_5_35 : zy_fo 5 35 := ⟨RX5, TX5, 11, tyX5, zy_co5, by decide, zy_mem (zy_t2 (List.mem_of_getElem? (i := 154) (by decide +kernel))) rfl⟩
theorem zf_5_38 : zy_fr 5 38 = (5, 7) := rfl
theorem zo_5_38 : zy_fo 5 38 := ⟨RX5, TX5, 11, tyX5, zy_co5, by decide, zy_mem (zy_t2 (List.mem_of_getElem? (i := 155) (by decide +kernel))) rfl⟩
theorem zf_5_45 : zy_fr 5 45 = (5, 8) := rfl
theorem zo_5_45 : zy_fo 5 45 := ⟨RX5, TX5, 11, tyX5, zy_co5, by decide, zy_mem (zy_t2 (List.mem_of_getElem? (i := 156) (by decide +kernel))) rfl⟩
theorem zf_5_48 : zy_fr 5 48 = (5, 9) := rfl
theorem zo_5_48 : zy_fo 5 48 := ⟨RX5, TX5, 11, tyX5, zy_co5, by decide, zy_mem (zy_t2 (List.mem_of_getElem? (i := 157) (by decide +kernel))) rfl⟩
theorem zf_5_51 : zy_fr 5 51 = (5, 10) := rfl
theorem zo_5_51 : zy_fo 5 51 := ⟨RX5, TX5, 11, tyX5, zy_co5, by decide, zy_mem (zy_t2 (List.mem_of_getElem? (i := 158) (by decide +kernel))) rfl⟩
theorem zf_6_12 : zy_fr 6 12 = (6, 0) := rfl
theorem zo_6_12 : zy_fo 6 12 := ⟨RX6, TX6, 13, tyX6, zy_co6, by decide, zy_mem (zy_t1 (List.mem_of_getElem? (i := 221) (by decide +kernel))) rfl⟩
theorem zf_6_21 : zy_fr 6 21 = (6, 1) := rfl
theorem zo_6_21 : zy_fo 6 21 := ⟨RX6, TX6, 13, tyX6, zy_co6, by decide, zy_mem (zy_t1 (List.mem_of_getElem? (i := 223) (by decide +kernel))) rfl⟩
theorem zf_6_25 : zy_fr 6 25 = (6, 2) := rfl
theorem zo_6_25 : zy_fo 6 25 := ⟨RX6, TX6, 13, tyX6, zy_co6, by decide, zy_mem (zy_t1 (List.mem_of_getElem? (i := 225) (by decide +kernel))) rfl⟩
theorem zf_6_29 : zy_fr 6 29 = (6, 3) := rfl
theorem zo_6_29 : zy_fo 6 29 := ⟨RX6, TX6, 13, tyX6, zy_co6, by decide, zy_mem (zy_t1 (List.mem_of_getElem? (i := 226) (by decide +kernel))) rfl⟩
theorem zf_6_33 : zy_fr 6 33 = (6, 4) := rfl
theorem zo_6_33 : zy_fo 6 33 := ⟨RX6, TX6, 13, tyX6, zy_co6, by decide, zy_mem (zy_t1 (List.mem_of_getElem? (i := 227) (by decide +kernel))) rfl⟩
theorem zf_6_38 : zy_fr 6 38 = (6, 5) := rfl
theorem zo_6_38 : zy_fo 6 38 := ⟨RX6, TX6, 13, tyX6, zy_co6, by decide, zy_mem (zy_t1 (List.mem_of_getElem? (i := 229) (by decide +kernel))) rfl⟩
theorem zf_6_42 : zy_fr 6 42 = (6, 6) := rfl
theorem zo_6_42 : zy_fo 6 42 := ⟨RX6, TX6, 13, tyX6, zy_co6, by decide, zy_mem (zy_t1 (List.mem_of_getElem? (i := 231) (by decide +kernel))) rfl⟩
theorem zf_6_45 : zy_fr 6 45 = (6, 7) := rfl
theorem zo_6_45 : zy_fo 6 45 := ⟨RX6, TX6, 13, tyX6, zy_co6, by decide, zy_mem (zy_t1 (List.mem_of_getElem? (i := 233) (by decide +kernel))) rfl⟩
theorem zf_6_51 : zy_fr 6 51 = (6, 8) := rfl
theorem zo_6_51 : zy_fo 6 51 := ⟨RX6, TX6, 13, tyX6, zy_co6, by decide, zy_mem (zy_t1 (List.mem_of_getElem? (i := 235) (by decide +kernel))) rfl⟩
theorem zf_6_55 : zy_fr 6 55 = (6, 9) := rfl
theorem zo_6_55 : zy_fo 6 55 := ⟨RX6, TX6, 13, tyX6, zy_co6, by decide, zy_mem (zy_t1 (List.mem_of_getElem? (i := 237) (by decide +kernel))) rfl⟩
theorem zf_6_59 : zy_fr 6 59 = (6, 10) := rfl
theorem zo_6_59 : zy_fo 6 59 := ⟨RX6, TX6, 13, tyX6, zy_co6, by decide, zy_mem (zy_t1 (List.mem_of_getElem? (i := 239) (by decide +kernel))) rfl⟩
theorem zf_6_62 : zy_fr 6 62 = (6, 11) := rfl
theorem zo_6_62 : zy_fo 6 62 := ⟨RX6, TX6, 13, tyX6, zy_co6, by decide, zy_mem (zy_t2 (List.mem_of_getElem? (i := 1) (by decide +kernel))) rfl⟩
theorem zf_6_65 : zy_fr 6 65 = (6, 12) := rfl
theorem zo_6_65 : zy_fo 6 65 := ⟨RX6, TX6, 13, tyX6, zy_co6, by decide, zy_mem (zy_t2 (List.mem_of_getElem? (i := 3) (by decide +kernel))) rfl⟩
theorem zf_7_9 : zy_fr 7 9 = (7, 0) := rfl
theorem zo_7_9 : zy_fo 7 9 := ⟨RX7, TX7, 6, tyX7, zy_co7, by decide, zy_mem (zy_t1 (List.mem_of_getElem? (i := 42) (by decide +kernel))) rfl⟩
theorem zf_7_15 : zy_fr 7 15 = (7, 1) := rfl
theorem zo_7_15 : zy_fo 7 15 := ⟨RX7, TX7, 6, tyX7, zy_co7, by decide, zy_mem (zy_t1 (List.mem_of_getElem? (i := 46) (by decide +kernel))) rfl⟩
theorem zf_7_19 : zy_fr 7 19 = (7, 2) := rfl
theorem zo_7_19 : zy_fo 7 19 := ⟨RX7, TX7, 6, tyX7, zy_co7, by decide, zy_mem (zy_t1 (List.mem_of_getElem? (i := 51) (by decide +kernel))) rfl⟩
theorem zf_7_22 : zy_fr 7 22 = (7, 3) := rfl
theorem zo_7_22 : zy_fo 7 22 := ⟨RX7, TX7, 6, tyX7, zy_co7, by decide, zy_mem (zy_t1 (List.mem_of_getElem? (i := 55) (by decide +kernel))) rfl⟩
theorem zf_7_25 : zy_fr 7 25 = (7, 4) := rfl
theorem zo_7_25 : zy_fo 7 25 := ⟨RX7, TX7, 6, tyX7, zy_co7, by decide, zy_mem (zy_t1 (List.mem_of_getElem? (i := 58) (by decide +kernel))) rfl⟩
theorem zf_7_28 : zy_fr 7 28 = (7, 5) := rfl
theorem zo_7_28 : zy_fo 7 28 := ⟨RX7, TX7, 6, tyX7, zy_co7, by decide, zy_mem (zy_t1 (List.mem_of_getElem? (i := 60) (by decide +kernel))) rfl⟩
theorem zf_8_34 : zy_fr 8 34 = (7, 0) := rfl
theorem zo_8_34 : zy_fo 8 34 := ⟨RX7, TX7, 6, tyX7, zy_co7, by decide, zy_mem (zy_t1 (List.mem_of_getElem? (i := 44) (by decide +kernel))) rfl⟩
theorem zf_8_40 : zy_fr 8 40 = (7, 1) := rfl
theorem zo_8_40 : zy_fo 8 40 := ⟨RX7, TX7, 6, tyX7, zy_co7, by decide, zy_mem (zy_t1 (List.mem_of_getElem? (i := 47) (by decide +kernel))) rfl⟩
theorem zf_8_50 : zy_fr 8 50 = (7, 2) := rfl
theorem zo_8_50 : zy_fo 8 50 := ⟨RX7, TX7, 6, tyX7, zy_co7, by decide, zy_mem (zy_t1 (List.mem_of_getElem? (i := 53) (by decide +kernel))) rfl⟩
theorem zf_8_53 : zy_fr 8 53 = (7, 5) := rfl
theorem zo_8_53 : zy_fo 8 53 := ⟨RX7, TX7, 6, tyX7, zy_co7, by decide, zy_mem (zy_t1 (List.mem_of_getElem? (i := 61) (by decide +kernel))) rfl⟩
theorem zf_8_24 : zy_fr 8 24 = (8, 0) := rfl
theorem zo_8_24 : zy_fo 8 24 := ⟨RX8, TX8, 5, tyX8, zy_co8, by decide, zy_mem (zy_t2 (List.mem_of_getElem? (i := 75) (by decide +kernel))) rfl⟩
theorem zf_8_9 : zy_fr 8 9 = (8, 1) := rfl
theorem zo_8_9 : zy_fo 8 9 := ⟨RX8, TX8, 5, tyX8, zy_co8, by decide, zy_mem (zy_t2 (List.mem_of_getElem? (i := 76) (by decide +kernel))) rfl⟩
theorem zf_8_15 : zy_fr 8 15 = (8, 2) := rfl
theorem zo_8_15 : zy_fo 8 15 := ⟨RX8, TX8, 5, tyX8, zy_co8, by decide, zy_mem (zy_t2 (List.mem_of_getElem? (i := 77) (by decide +kernel))) rfl⟩
theorem zf_8_18 : zy_fr 8 18 = (8, 3) := rfl
theorem zo_8_18 : zy_fo 8 18 := ⟨RX8, TX8, 5, tyX8, zy_co8, by decide, zy_mem (zy_t2 (List.mem_of_getElem? (i := 78) (by decide +kernel))) rfl⟩
theorem zf_8_21 : zy_fr 8 21 = (8, 4) := rfl
theorem zo_8_21 : zy_fo 8 21 := ⟨RX8, TX8, 5, tyX8, zy_co8, by decide, zy_mem (zy_t2 (List.mem_of_getElem? (i := 79) (by decide +kernel))) rfl⟩
theorem zf_10_9 : zy_fr 10 9 = (10, 0) := rfl
theorem zo_10_9 : zy_fo 10 9 := ⟨RX10, TX10, 13, tyX10, zy_co10, by decide, zy_mem (zy_t1 (List.mem_of_getElem? (i := 83) (by decide +kernel))) rfl⟩
theorem zf_10_15 : zy_fr 10 15 = (10, 1) := rfl
theorem zo_10_15 : zy_fo 10 15 := ⟨RX10, TX10, 13, tyX10, zy_co10, by decide, zy_mem (zy_t1 (List.mem_of_getElem? (i := 86) (by decide +kernel))) rfl⟩
theorem zf_10_18 : zy_fr 10 18 = (10, 2) := rfl
theorem zo_10_18 : zy_fo 10 18 := ⟨RX10, TX10, 13, tyX10, zy_co10, by decide, zy_mem (zy_t1 (List.mem_of_getElem? (i := 88) (by decide +kernel))) rfl⟩
theorem zf_10_21 : zy_fr 10 21 = (10, 3) := rfl
theorem zo_10_21 : zy_fo 10 21 := ⟨RX10, TX10, 13, tyX10, zy_co10, by decide, zy_mem (zy_t1 (List.mem_of_getElem? (i := 91) (by decide +kernel))) rfl⟩
theorem zf_10_25 : zy_fr 10 25 = (10, 4) := rfl
theorem zo_10_25 : zy_fo 10 25 := ⟨RX10, TX10, 13, tyX10, zy_co10, by decide, zy_mem (zy_t1 (List.mem_of_getElem? (i := 94) (by decide +kernel))) rfl⟩
theorem zf_10_28 : zy_fr 10 28 = (10, 5) := rfl
theorem zo_10_28 : zy_fo 10 28 := ⟨RX10, TX10, 13, tyX10, zy_co10, by decide, zy_mem (zy_t1 (List.mem_of_getElem? (i := 97) (by decide +kernel))) rfl⟩
theorem zf_10_31 : zy_fr 10 31 = (10, 6) := rfl
theorem zo_10_31 : zy_fo 10 31 := ⟨RX10, TX10, 13, tyX10, zy_co10, by decide, zy_mem (zy_t1 (List.mem_of_getElem? (i := 100) (by decide +kernel))) rfl⟩
theorem zf_10_34 : zy_fr 10 34 = (10, 7) := rfl
theorem zo_10_34 : zy_fo 10 34 := ⟨RX10, TX10, 13, tyX10, zy_co10, by decide, zy_mem (zy_t1 (List.mem_of_getElem? (i := 103) (by decide +kernel))) rfl⟩
theorem zf_10_37 : zy_fr 10 37 = (10, 8) := rfl
theorem zo_10_37 : zy_fo 10 37 := ⟨RX10, TX10, 13, tyX10, zy_co10, by decide, zy_mem (zy_t1 (List.mem_of_getElem? (i := 106) (by decide +kernel))) rfl⟩
theorem zf_10_40 : zy_fr 10 40 = (10, 9) := rfl
theorem zo_10_40 : zy_fo 10 40 := ⟨RX10, TX10, 13, tyX10, zy_co10, by decide, zy_mem (zy_t1 (List.mem_of_getElem? (i := 109) (by decide +kernel))) rfl⟩
theorem zf_10_43 : zy_fr 10 43 = (10, 10) := rfl
theorem zo_10_43 : zy_fo 10 43 := ⟨RX10, TX10, 13, tyX10, zy_co10, by decide, zy_mem (zy_t1 (List.mem_of_getElem? (i := 111) (by decide +kernel))) rfl⟩
theorem zf_10_46 : zy_fr 10 46 = (10, 11) := rfl
theorem zo_10_46 : zy_fo 10 46 := ⟨RX10, TX10, 13, tyX10, zy_co10, by decide, zy_mem (zy_t1 (List.mem_of_getElem? (i := 113) (by decide +kernel))) rfl⟩
theorem zf_10_49 : zy_fr 10 49 = (10, 12) := rfl
theorem zo_10_49 : zy_fo 10 49 := ⟨RX10, TX10, 13, tyX10, zy_co10, by decide, zy_mem (zy_t1 (List.mem_of_getElem? (i := 115) (by decide +kernel))) rfl⟩
theorem zf_11_77 : zy_fr 11 77 = (7, 0) := rfl
theorem zo_11_77 : zy_fo 11 77 := ⟨RX7, TX7, 6, tyX7, zy_co7, by decide, zy_mem (zy_t1 (List.mem_of_getElem? (i := 43) (by decide +kernel))) rfl⟩
theorem zf_11_234 : zy_fr 11 234 = (7, 1) := rfl
theorem zo_11_234 : zy_fo 11 234 := ⟨RX7, TX7, 6, tyX7, zy_co7, by decide, zy_mem (zy_t1 (List.mem_of_getElem? (i := 50) (by decide +kernel))) rfl⟩
theorem zf_11_237 : zy_fr 11 237 = (7, 2) := rfl
theorem zo_11_237 : zy_fo 11 237 := ⟨RX7, TX7, 6, tyX7, zy_co7, by decide, zy_mem (zy_t1 (List.mem_of_getElem? (i := 54) (by decide +kernel))) rfl⟩
theorem zf_11_240 : zy_fr 11 240 = (7, 3) := rfl
theorem zo_11_240 : zy_fo 11 240 := ⟨RX7, TX7, 6, tyX7, zy_co7, by decide, zy_mem (zy_t1 (List.mem_of_getElem? (i := 57) (by decide +kernel))) rfl⟩
theorem zf_11_98 : zy_fr 11 98 = (7, 4) := rfl
theorem zo_11_98 : zy_fo 11 98 := ⟨RX7, TX7, 6, tyX7, zy_co7, by decide, zy_mem (zy_t1 (List.mem_of_getElem? (i := 59) (by decide +kernel))) rfl⟩
theorem zf_11_334 : zy_fr 11 334 = (7, 5) := rfl
theorem zo_11_334 : zy_fo 11 334 := ⟨RX7, TX7, 6, tyX7, zy_co7, by decide, zy_mem (zy_t1 (List.mem_of_getElem? (i := 62) (by decide +kernel))) rfl⟩
theorem zf_11_167 : zy_fr 11 167 = (10, 0) := rfl
theorem zo_11_167 : zy_fo 11 167 := ⟨RX10, TX10, 13, tyX10, zy_co10, by decide, zy_mem (zy_t1 (List.mem_of_getElem? (i := 85) (by decide +kernel))) rfl⟩
theorem zf_11_218 : zy_fr 11 218 = (10, 1) := rfl
theorem zo_11_218 : zy_fo 11 218 := ⟨RX10, TX10, 13, tyX10, zy_co10, by decide, zy_mem (zy_t1 (List.mem_of_getElem? (i := 87) (by decide +kernel))) rfl⟩
theorem zf_11_146 : zy_fr 11 146 = (10, 2) := rfl
theorem zo_11_146 : zy_fo 11 146 := ⟨RX10, TX10, 13, tyX10, zy_co10, by decide, zy_mem (zy_t1 (List.mem_of_getElem? (i := 90) (by decide +kernel))) rfl⟩
theorem zf_11_266 : zy_fr 11 266 = (10, 3) := rfl
theorem zo_11_266 : zy_fo 11 266 := ⟨RX10, TX10, 13, tyX10, zy_co10, by decide, zy_mem (zy_t1 (List.mem_of_getElem? (i := 93) (by decide +kernel))) rfl⟩
theorem zf_11_161 : zy_fr 11 161 = (10, 4) := rfl
theorem zo_11_161 : zy_fo 11 161 := ⟨RX10, TX10, 13, tyX10, zy_co10, by decide, zy_mem (zy_t1 (List.mem_of_getElem? (i := 96) (by decide +kernel))) rfl⟩
theorem zf_11_158 : zy_fr 11 158 = (10, 5) := rfl
theorem zo_11_158 : zy_fo 11 158 := ⟨RX10, TX10, 13, tyX10, zy_co10, by decide, zy_mem (zy_t1 (List.mem_of_getElem? (i := 99) (by decide +kernel))) rfl⟩
theorem zf_11_269 : zy_fr 11 269 = (10, 6) := rfl
theorem zo_11_269 : zy_fo 11 269 := ⟨RX10, TX10, 13, tyX10, zy_co10, by decide, zy_mem (zy_t1 (List.mem_of_getElem? (i := 102) (by decide +kernel))) rfl⟩
theorem zf_11_152 : zy_fr 11 152 = (10, 7) := rfl
theorem zo_11_152 : zy_fo 11 152 := ⟨RX10, TX10, 13, tyX10, zy_co10, by decide, zy_mem (zy_t1 (List.mem_of_getElem? (i := 105) (by decide +kernel))) rfl⟩
theorem zf_11_270 : zy_fr 11 270 = (10, 8) := rfl
theorem zo_11_270 : zy_fo 11 270 := ⟨RX10, TX10, 13, tyX10, zy_co10, by decide, zy_mem (zy_t1 (List.mem_of_getElem? (i := 108) (by decide +kernel))) rfl⟩
theorem zf_11_164 : zy_fr 11 164 = (10, 9) := rfl
theorem zo_11_164 : zy_fo 11 164 := ⟨RX10, TX10, 13, tyX10, zy_co10, by decide, zy_mem (zy_t1 (List.mem_of_getElem? (i := 110) (by decide +kernel))) rfl⟩
theorem zf_11_243 : zy_fr 11 243 = (10, 10) := rfl
theorem zo_11_243 : zy_fo 11 243 := ⟨RX10, TX10, 13, tyX10, zy_co10, by decide, zy_mem (zy_t1 (List.mem_of_getElem? (i := 112) (by decide +kernel))) rfl⟩
theorem zf_11_273 : zy_fr 11 273 = (10, 11) := rfl
theorem zo_11_273 : zy_fo 11 273 := ⟨RX10, TX10, 13, tyX10, zy_co10, by decide, zy_mem (zy_t1 (List.mem_of_getElem? (i := 114) (by decide +kernel))) rfl⟩
theorem zf_11_276 : zy_fr 11 276 = (10, 12) := rfl
theorem zo_11_276 : zy_fo 11 276 := ⟨RX10, TX10, 13, tyX10, zy_co10, by decide, zy_mem (zy_t1 (List.mem_of_getElem? (i := 116) (by decide +kernel))) rfl⟩
theorem zf_11_309 : zy_fr 11 309 = (4, 0) := rfl
theorem zo_11_309 : zy_fo 11 309 := ⟨RX4, TX4, 4, tyX4, zy_co4, by decide, zy_mem (zy_t1 (List.mem_of_getElem? (i := 154) (by decide +kernel))) rfl⟩
theorem zf_11_318 : zy_fr 11 318 = (4, 1) := rfl
theorem zo_11_318 : zy_fo 11 318 := ⟨RX4, TX4, 4, tyX4, zy_co4, by decide, zy_mem (zy_t1 (List.mem_of_getElem? (i := 156) (by decide +kernel))) rfl⟩
theorem zf_11_182 : zy_fr 11 182 = (1, 0) := rfl
theorem zo_11_182 : zy_fo 11 182 := ⟨RX1, TX1, 10, tyX1, zy_co1, by decide, zy_mem (zy_t1 (List.mem_of_getElem? (i := 175) (by decide +kernel))) rfl⟩
theorem zf_11_197 : zy_fr 11 197 = (1, 1) := rfl
theorem zo_11_197 : zy_fo 11 197 := ⟨RX1, TX1, 10, tyX1, zy_co1, by decide, zy_mem (zy_t1 (List.mem_of_getElem? (i := 178) (by decide +kernel))) rfl⟩
theorem zf_11_191 : zy_fr 11 191 = (1, 2) := rfl
theorem zo_11_191 : zy_fo 11 191 := ⟨RX1, TX1, 10, tyX1, zy_co1, by decide, zy_mem (zy_t1 (List.mem_of_getElem? (i := 181) (by decide +kernel))) rfl⟩
theorem zf_11_194 : zy_fr 11 194 = (1, 3) := rfl
theorem zo_11_194 : zy_fo 11 194 := ⟨RX1, TX1, 10, tyX1, zy_co1, by decide, zy_mem (zy_t1 (List.mem_of_getElem? (i := 183) (by decide +kernel))) rfl⟩
theorem zf_11_206 : zy_fr 11 206 = (1, 4) := rfl
theorem zo_11_206 : zy_fo 11 206 := ⟨RX1, TX1, 10, tyX1, zy_co1, by decide, zy_mem (zy_t1 (List.mem_of_getElem? (i := 187) (by decide +kernel))) rfl⟩
theorem zf_11_28 : zy_fr 11 28 = (6, 0) := rfl
theorem zo_11_28 : zy_fo 11 28 := ⟨RX6, TX6, 13, tyX6, zy_co6, by decide, zy_mem (zy_t1 (List.mem_of_getElem? (i := 222) (by decide +kernel))) rfl⟩
theorem zf_11_136 : zy_fr 11 136 = (6, 1) := rfl
theorem zo_11_136 : zy_fo 11 136 := ⟨RX6, TX6, 13, tyX6, zy_co6, by decide, zy_mem (zy_t1 (List.mem_of_getElem? (i := 224) (by decide +kernel))) rfl⟩
theorem zf_11_228 : zy_fr 11 228 = (6, 4) := rfl
theorem zo_11_228 : zy_fo 11 228 := ⟨RX6, TX6, 13, tyX6, zy_co6, by decide, zy_mem (zy_t1 (List.mem_of_getElem? (i := 228) (by decide +kernel))) rfl⟩
theorem zf_11_109 : zy_fr 11 109 = (6, 5) := rfl
theorem zo_11_109 : zy_fo 11 109 := ⟨RX6, TX6, 13, tyX6, zy_co6, by decide, zy_mem (zy_t1 (List.mem_of_getElem? (i := 230) (by decide +kernel))) rfl⟩
theorem zf_11_106 : zy_fr 11 106 = (6, 6) := rfl
theorem zo_11_106 : zy_fo 11 106 := ⟨RX6, TX6, 13, tyX6, zy_co6, by decide, zy_mem (zy_t1 (List.mem_of_getElem? (i := 232) (by decide +kernel))) rfl⟩
theorem zf_11_127 : zy_fr 11 127 = (6, 7) := rfl
theorem zo_11_127 : zy_fo 11 127 := ⟨RX6, TX6, 13, tyX6, zy_co6, by decide, zy_mem (zy_t1 (List.mem_of_getElem? (i := 234) (by decide +kernel))) rfl⟩
theorem zf_11_305 : zy_fr 11 305 = (6, 8) := rfl
theorem zo_11_305 : zy_fo 11 305 := ⟨RX6, TX6, 13, tyX6, zy_co6, by decide, zy_mem (zy_t1 (List.mem_of_getElem? (i := 236) (by decide +kernel))) rfl⟩
theorem zf_11_361 : zy_fr 11 361 = (6, 9) := rfl
theorem zo_11_361 : zy_fo 11 361 := ⟨RX6, TX6, 13, tyX6, zy_co6, by decide, zy_mem (zy_t1 (List.mem_of_getElem? (i := 238) (by decide +kernel))) rfl⟩
theorem zf_11_364 : zy_fr 11 364 = (6, 10) := rfl
theorem zo_11_364 : zy_fo 11 364 := ⟨RX6, TX6, 13, tyX6, zy_co6, by decide, zy_mem (zy_t2 (List.mem_of_getElem? (i := 0) (by decide +kernel))) rfl⟩
theorem zf_11_367 : zy_fr 11 367 = (6, 11) := rfl
theorem zo_11_367 : zy_fo 11 367 := ⟨RX6, TX6, 13, tyX6, zy_co6, by decide, zy_mem (zy_t2 (List.mem_of_getElem? (i := 2) (by decide +kernel))) rfl⟩
theorem zf_11_370 : zy_fr 11 370 = (6, 12) := rfl
theorem zo_11_370 : zy_fo 11 370 := ⟨RX6, TX6, 13, tyX6, zy_co6, by decide, zy_mem (zy_t2 (List.mem_of_getElem? (i := 4) (by decide +kernel))) rfl⟩
theorem zf_11_259 : zy_fr 11 259 = (2, 1) := rfl
theorem zo_11_259 : zy_fo 11 259 := ⟨RX2, TX2, 4, tyX2, zy_co2, by decide, zy_mem (zy_t2 (List.mem_of_getElem? (i := 44) (by decide +kernel))) rfl⟩
theorem zf_11_293 : zy_fr 11 293 = (3, 0) := rfl
theorem zo_11_293 : zy_fo 11 293 := ⟨RX3, TX3, 11, tyX3, zy_co3, by decide, zy_mem (zy_t2 (List.mem_of_getElem? (i := 98) (by decide +kernel))) rfl⟩
theorem zf_11_302 : zy_fr 11 302 = (3, 1) := rfl
theorem zo_11_302 : zy_fo 11 302 := ⟨RX3, TX3, 11, tyX3, zy_co3, by decide, zy_mem (zy_t2 (List.mem_of_getElem? (i := 100) (by decide +kernel))) rfl⟩
theorem zf_11_299 : zy_fr 11 299 = (3, 2) := rfl
theorem zo_11_299 : zy_fo 11 299 := ⟨RX3, TX3, 11, tyX3, zy_co3, by decide, zy_mem (zy_t2 (List.mem_of_getElem? (i := 102) (by decide +kernel))) rfl⟩
theorem zf_11_296 : zy_fr 11 296 = (3, 3) := rfl
theorem zo_11_296 : zy_fo 11 296 := ⟨RX3, TX3, 11, tyX3, zy_co3, by decide, zy_mem (zy_t2 (List.mem_of_getElem? (i := 104) (by decide +kernel))) rfl⟩
theorem zf_11_120 : zy_fr 11 120 = (5, 0) := rfl
theorem zo_11_120 : zy_fo 11 120 := ⟨RX5, TX5, 11, tyX5, zy_co5, by decide, zy_mem (zy_t2 (List.mem_of_getElem? (i := 146) (by decide +kernel))) rfl⟩
theorem zf_11_117 : zy_fr 11 117 = (5, 1) := rfl
theorem zo_11_117 : zy_fo 11 117 := ⟨RX5, TX5, 11, tyX5, zy_co5, by decide, zy_mem (zy_t2 (List.mem_of_getElem? (i := 148) (by decide +kernel))) rfl⟩
theorem zf_11_124 : zy_fr 11 124 = (5, 2) := rfl
theorem zo_11_124 : zy_fo 11 124 := ⟨RX5, TX5, 11, tyX5, zy_co5, by decide, zy_mem (zy_t2 (List.mem_of_getElem? (i := 150) (by decide +kernel))) rfl⟩
theorem zf_11_10 : zy_fr 11 10 = (11, 0) := rfl
theorem zo_11_10 : zy_fo 11 10 := ⟨RX11, TX11, 10, tyX11, zy_co11, by decide, zy_mem (zy_t2 (List.mem_of_getElem? (i := 182) (by decide +kernel))) rfl⟩
theorem zf_11_16 : zy_fr 11 16 = (11, 1) := rfl
theorem zo_11_16 : zy_fo 11 16 := ⟨RX11, TX11, 10, tyX11, zy_co11, by decide, zy_mem (zy_t2 (List.mem_of_getElem? (i := 183) (by decide +kernel))) rfl⟩
theorem zf_11_22 : zy_fr 11 22 = (11, 2) := rfl
theorem zo_11_22 : zy_fo 11 22 := ⟨RX11, TX11, 10, tyX11, zy_co11, by decide, zy_mem (zy_t2 (List.mem_of_getElem? (i := 184) (by decide +kernel))) rfl⟩
theorem zf_11_35 : zy_fr 11 35 = (11, 3) := rfl
theorem zo_11_35 : zy_fo 11 35 := ⟨RX11, TX11, 10, tyX11, zy_co11, by decide, zy_mem (zy_t2 (List.mem_of_getElem? (i := 185) (by decide +kernel))) rfl⟩
theorem zf_11_44 : zy_fr 11 44 = (11, 4) := rfl
theorem zo_11_44 : zy_fo 11 44 := ⟨RX11, TX11, 10, tyX11, zy_co11, by decide, zy_mem (zy_t2 (List.mem_of_getElem? (i := 186) (by decide +kernel))) rfl⟩
theorem zf_11_51 : zy_fr 11 51 = (11, 5) := rfl
theorem zo_11_51 : zy_fo 11 51 := ⟨RX11, TX11, 10, tyX11, zy_co11, by decide, zy_mem (zy_t2 (List.mem_of_getElem? (i := 187) (by decide +kernel))) rfl⟩
theorem zf_11_58 : zy_fr 11 58 = (11, 6) := rfl
theorem zo_11_58 : zy_fo 11 58 := ⟨RX11, TX11, 10, tyX11, zy_co11, by decide, zy_mem (zy_t2 (List.mem_of_getElem? (i := 188) (by decide +kernel))) rfl⟩
theorem zf_11_65 : zy_fr 11 65 = (11, 7) := rfl
theorem zo_11_65 : zy_fo 11 65 := ⟨RX11, TX11, 10, tyX11, zy_co11, by decide, zy_mem (zy_t2 (List.mem_of_getElem? (i := 189) (by decide +kernel))) rfl⟩
theorem zf_11_69 : zy_fr 11 69 = (11, 8) := rfl
theorem zo_11_69 : zy_fo 11 69 := ⟨RX11, TX11, 10, tyX11, zy_co11, by decide, zy_mem (zy_t2 (List.mem_of_getElem? (i := 190) (by decide +kernel))) rfl⟩
theorem zf_11_73 : zy_fr 11 73 = (11, 9) := rfl
theorem zo_11_73 : zy_fo 11 73 := ⟨RX11, TX11, 10, tyX11, zy_co11, by decide, zy_mem (zy_t2 (List.mem_of_getElem? (i := 191) (by decide +kernel))) rfl⟩
theorem zf_12_7 : zy_fr 12 7 = (12, 0) := rfl
theorem zo_12_7 : zy_fo 12 7 := ⟨RX12, TX12, 35, tyX12, zy_co12, by decide, zy_mem (zy_t6 (List.mem_of_getElem? (i := 4) (by decide +kernel))) rfl⟩
theorem zf_12_13 : zy_fr 12 13 = (12, 1) := rfl
theorem zo_12_13 : zy_fo 12 13 := ⟨RX12, TX12, 35, tyX12, zy_co12, by decide, zy_mem (zy_t6 (List.mem_of_getElem? (i := 5) (by decide +kernel))) rfl⟩
theorem zf_12_16 : zy_fr 12 16 = (12, 2) := rfl
theorem zo_12_16 : zy_fo 12 16 := ⟨RX12, TX12, 35, tyX12, zy_co12, by decide, zy_mem (zy_t6 (List.mem_of_getElem? (i := 6) (by decide +kernel))) rfl⟩
theorem zf_12_19 : zy_fr 12 19 = (12, 3) := rfl
theorem zo_12_19 : zy_fo 12 19 := ⟨RX12, TX12, 35, tyX12, zy_co12, by decide, zy_mem (zy_t6 (List.mem_of_getElem? (i := 7) (by decide +kernel))) rfl⟩
theorem zf_12_81 : zy_fr 12 81 = (12, 4) := rfl
theorem zo_12_81 : zy_fo 12 81 := ⟨RX12, TX12, 35, tyX12, zy_co12, by decide, zy_mem (zy_t6 (List.mem_of_getElem? (i := 8) (by decide +kernel))) rfl⟩
theorem zf_12_22 : zy_fr 12 22 = (12, 5) := rfl
theorem zo_12_22 : zy_fo 12 22 := ⟨RX12, TX12, 35, tyX12, zy_co12, by decide, zy_mem (zy_t6 (List.mem_of_getElem? (i := 9) (by decide +kernel))) rfl⟩
theorem zf_12_26 : zy_fr 12 26 = (12, 6) := rfl
theorem zo_12_26 : zy_fo 12 26 := ⟨RX12, TX12, 35, tyX12, zy_co12, by decide, zy_mem (zy_t6 (List.mem_of_getElem? (i := 10) (by decide +kernel))) rfl⟩
theorem zf_12_88 : zy_fr 12 88 = (12, 7) := rfl
theorem zo_12_88 : zy_fo 12 88 := ⟨RX12, TX12, 35, tyX12, zy_co12, by decide, zy_mem (zy_t6 (List.mem_of_getElem? (i := 11) (by decide +kernel))) rfl⟩
theorem zf_12_95 : zy_fr 12 95 = (12, 8) := rfl
theorem zo_12_95 : zy_fo 12 95 := ⟨RX12, TX12, 35, tyX12, zy_co12, by decide, zy_mem (zy_t6 (List.mem_of_getElem? (i := 12) (by decide +kernel))) rfl⟩
theorem zf_12_98 : zy_fr 12 98 = (12, 9) := rfl
theorem zo_12_98 : zy_fo 12 98 := ⟨RX12, TX12, 35, tyX12, zy_co12, by decide, zy_mem (zy_t6 (List.mem_of_getElem? (i := 13) (by decide +kernel))) rfl⟩
theorem zf_12_104 : zy_fr 12 104 = (12, 10) := rfl
theorem zo_12_104 : zy_fo 12 104 := ⟨RX12, TX12, 35, tyX12, zy_co12, by decide, zy_mem (zy_t6 (List.mem_of_getElem? (i := 14) (by decide +kernel))) rfl⟩
theorem zf_12_111 : zy_fr 12 111 = (12, 11) := rfl
theorem zo_12_111 : zy_fo 12 111 := ⟨RX12, TX12, 35, tyX12, zy_co12, by decide, zy_mem (zy_t6 (List.mem_of_getElem? (i := 15) (by decide +kernel))) rfl⟩
theorem zf_12_136 : zy_fr 12 136 = (12, 12) := rfl
theorem zo_12_136 : zy_fo 12 136 := ⟨RX12, TX12, 35, tyX12, zy_co12, by decide, zy_mem (zy_t6 (List.mem_of_getElem? (i := 16) (by decide +kernel))) rfl⟩
theorem zf_12_139 : zy_fr 12 139 = (12, 13) := rfl
theorem zo_12_139 : zy_fo 12 139 := ⟨RX12, TX12, 35, tyX12, zy_co12, by decide, zy_mem (zy_t6 (List.mem_of_getElem? (i := 17) (by decide +kernel))) rfl⟩
theorem zf_12_142 : zy_fr 12 142 = (12, 14) := rfl
theorem zo_12_142 : zy_fo 12 142 := ⟨RX12, TX12, 35, tyX12, zy_co12, by decide, zy_mem (zy_t6 (List.mem_of_getElem? (i := 18) (by decide +kernel))) rfl⟩
theorem zf_12_29 : zy_fr 12 29 = (12, 15) := rfl
theorem zo_12_29 : zy_fo 12 29 := ⟨RX12, TX12, 35, tyX12, zy_co12, by decide, zy_mem (zy_t6 (List.mem_of_getElem? (i := 19) (by decide +kernel))) rfl⟩
theorem zf_12_145 : zy_fr 12 145 = (12, 16) := rfl
theorem zo_12_145 : zy_fo 12 145 := ⟨RX12, TX12, 35, tyX12, zy_co12, by decide, zy_mem (zy_t6 (List.mem_of_getElem? (i := 20) (by decide +kernel))) rfl⟩
theorem zf_12_155 : zy_fr 12 155 = (12, 17) := rfl
theorem zo_12_155 : zy_fo 12 155 := ⟨RX12, TX12, 35, tyX12, zy_co12, by decide, zy_mem (zy_t6 (List.mem_of_getElem? (i := 21) (by decide +kernel))) rfl⟩
theorem zf_12_195 : zy_fr 12 195 = (12, 18) := rfl
theorem zo_12_195 : zy_fo 12 195 := ⟨RX12, TX12, 35, tyX12, zy_co12, by decide, zy_mem (zy_t6 (List.mem_of_getElem? (i := 22) (by decide +kernel))) rfl⟩
theorem zf_12_241 : zy_fr 12 241 = (12, 19) := rfl
theorem zo_12_241 : zy_fo 12 241 := ⟨RX12, TX12, 35, tyX12, zy_co12, by decide, zy_mem (zy_t6 (List.mem_of_getElem? (i := 23) (by decide +kernel))) rfl⟩
theorem zf_12_32 : zy_fr 12 32 = (12, 20) := rfl
theorem zo_12_32 : zy_fo 12 32 := ⟨RX12, TX12, 35, tyX12, zy_co12, by decide, zy_mem (zy_t6 (List.mem_of_getElem? (i := 24) (by decide +kernel))) rfl⟩
theorem zf_12_35 : zy_fr 12 35 = (12, 21) := rfl
theorem zo_12_35 : zy_fo 12 35 := ⟨RX12, TX12, 35, tyX12, zy_co12, by decide, zy_mem (zy_t6 (List.mem_of_getElem? (i := 25) (by decide +kernel))) rfl⟩
theorem zf_12_39 : zy_fr 12 39 = (12, 22) := rfl
theorem zo_12_39 : zy_fo 12 39 := ⟨RX12, TX12, 35, tyX12, zy_co12, by decide, zy_mem (zy_t6 (List.mem_of_getElem? (i := 26) (by decide +kernel))) rfl⟩
theorem zf_12_43 : zy_fr 12 43 = (12, 23) := rfl
theorem zo_12_43 : zy_fo 12 43 := ⟨RX12, TX12, 35, tyX12, zy_co12, by decide, zy_mem (zy_t6 (List.mem_of_getElem? (i := 27) (by decide +kernel))) rfl⟩
theorem zf_12_332 : zy_fr 12 332 = (12, 24) := rfl
theorem zo_12_332 : zy_fo 12 332 := ⟨RX12, TX12, 35, tyX12, zy_co12, by decide, zy_mem (zy_t6 (List.mem_of_getElem? (i := 28) (by decide +kernel))) rfl⟩
theorem zf_12_326 : zy_fr 12 326 = (12, 25) := rfl
theorem zo_12_326 : zy_fo 12 326 := ⟨RX12, TX12, 35, tyX12, zy_co12, by decide, zy_mem (zy_t6 (List.mem_of_getElem? (i := 29) (by decide +kernel))) rfl⟩
theorem zf_12_47 : zy_fr 12 47 = (12, 26) := rfl
theorem zo_12_47 : zy_fo 12 47 := ⟨RX12, TX12, 35, tyX12, zy_co12, by decide, zy_mem (zy_t6 (List.mem_of_getElem? (i := 30) (by decide +kernel))) rfl⟩
theorem zf_12_50 : zy_fr 12 50 = (12, 27) := rfl
theorem zo_12_50 : zy_fo 12 50 := ⟨RX12, TX12, 35, tyX12, zy_co12, by decide, zy_mem (zy_t6 (List.mem_of_getElem? (i := 31) (by decide +kernel))) rfl⟩
theorem zf_12_53 : zy_fr 12 53 = (12, 28) := rfl
theorem zo_12_53 : zy_fo 12 53 := ⟨RX12, TX12, 35, tyX12, zy_co12, by decide, zy_mem (zy_t6 (List.mem_of_getElem? (i := 32) (by decide +kernel))) rfl⟩
theorem zf_12_56 : zy_fr 12 56 = (12, 29) := rfl
theorem zo_12_56 : zy_fo 12 56 := ⟨RX12, TX12, 35, tyX12, zy_co12, by decide, zy_mem (zy_t6 (List.mem_of_getElem? (i := 33) (by decide +kernel))) rfl⟩
theorem zf_12_59 : zy_fr 12 59 = (12, 30) := rfl
theorem zo_12_59 : zy_fo 12 59 := ⟨RX12, TX12, 35, tyX12, zy_co12, by decide, zy_mem (zy_t6 (List.mem_of_getElem? (i := 34) (by decide +kernel))) rfl⟩
theorem zf_12_421 : zy_fr 12 421 = (12, 31) := rfl
theorem zo_12_421 : zy_fo 12 421 := ⟨RX12, TX12, 35, tyX12, zy_co12, by decide, zy_mem (zy_t6 (List.mem_of_getElem? (i := 35) (by decide +kernel))) rfl⟩
theorem zf_12_424 : zy_fr 12 424 = (12, 32) := rfl
theorem zo_12_424 : zy_fo 12 424 := ⟨RX12, TX12, 35, tyX12, zy_co12, by decide, zy_mem (zy_t6 (List.mem_of_getElem? (i := 36) (by decide +kernel))) rfl⟩
theorem zf_12_62 : zy_fr 12 62 = (12, 33) := rfl
theorem zo_12_62 : zy_fo 12 62 := ⟨RX12, TX12, 35, tyX12, zy_co12, by decide, zy_mem (zy_t6 (List.mem_of_getElem? (i := 37) (by decide +kernel))) rfl⟩
theorem zf_12_443 : zy_fr 12 443 = (12, 34) := rfl
theorem zo_12_443 : zy_fo 12 443 := ⟨RX12, TX12, 35, tyX12, zy_co12, by decide, zy_mem (zy_t6 (List.mem_of_getElem? (i := 38) (by decide +kernel))) rfl⟩
theorem zc_X10_moves : zy_mc 1 mX10_moves := ⟨zy_mem (zy_t4 (List.mem_of_getElem? (i := 74) (by decide +kernel))) rfl, zy_mem (zy_t1 (List.mem_of_getElem? (i := 4) (by decide +kernel))) rfl, by decide +kernel, by decide +kernel⟩
theorem zr_0_25 : zy_mr 0 25 = (0, 10, 1, mX10_moves) := rfl
theorem zv_0_25 : zy_mv 0 25 := ⟨zc_X10_moves, ⟨TX10, 13, rfl⟩, zy_mem (zy_t4 (List.mem_of_getElem? (i := 71) (by decide +kernel))) rfl, zy_mem (zy_t4 (List.mem_of_getElem? (i := 72) (by decide +kernel))) rfl, zy_mem (zy_t4 (List.mem_of_getElem? (i := 73) (by decide +kernel))) rfl⟩
theorem zc_X0_goUp : zy_mc 3 mX0_goUp := ⟨zy_mem (zy_t4 (List.mem_of_getElem? (i := 79) (by decide +kernel))) rfl, zy_mem (zy_t1 (List.mem_of_getElem? (i := 8) (by decide +kernel))) rfl, by decide +kernel, by decide +kernel⟩
theorem zr_0_33 : zy_mr 0 33 = (0, 0, 3, mX0_goUp) := rfl
theorem zv_0_33 : zy_mv 0 33 := ⟨zc_X0_goUp, ⟨TX0, 2, rfl⟩, zy_mem (zy_t4 (List.mem_of_getElem? (i := 76) (by decide +kernel))) rfl, zy_mem (zy_t4 (List.mem_of_getElem? (i := 78) (by decide +kernel))) rfl, zy_mem (List.mem_append_left _ (List.mem_map.mpr ⟨(yX0_goUp, 2), List.mem_of_getElem? (i := 23) (by decide +kernel), rfl⟩)) rfl⟩
theorem zc_X7_has : zy_mc 1 mX7_has := ⟨zy_mem (zy_t2 (List.mem_of_getElem? (i := 221) (by decide +kernel))) rfl, zy_mem (zy_t1 (List.mem_of_getElem? (i := 3) (by decide +kernel))) rfl, by decide +kernel, by decide +kernel⟩
theorem zr_0_56 : zy_mr 0 56 = (0, 7, 1, mX7_has) := rfl
theorem zv_0_56 : zy_mv 0 56 := ⟨zc_X7_has, ⟨TX7, 6, rfl⟩, zy_mem (zy_t4 (List.mem_of_getElem? (i := 80) (by decide +kernel))) rfl, zy_mem (zy_t2 (List.mem_of_getElem? (i := 219) (by decide +kernel))) rfl, zy_mem (zy_t2 (List.mem_of_getElem? (i := 220) (by decide +kernel))) rfl⟩
theorem zc_X0_nameFor : zy_mc 3 mX0_nameFor := ⟨zy_mem (zy_t4 (List.mem_of_getElem? (i := 84) (by decide +kernel))) rfl, zy_mem (zy_t1 (List.mem_of_getElem? (i := 8) (by decide +kernel))) rfl, by decide +kernel, by decide +kernel⟩
theorem zr_0_59 : zy_mr 0 59 = (0, 0, 3, mX0_nameFor) := rfl
theorem zv_0_59 : zy_mv 0 59 := ⟨zc_X0_nameFor, ⟨TX0, 2, rfl⟩, zy_mem (zy_t4 (List.mem_of_getElem? (i := 81) (by decide +kernel))) rfl, zy_mem (zy_t4 (List.mem_of_getElem? (i := 83) (by decide +kernel))) rfl, zy_mem (List.mem_append_left _ (List.mem_map.mpr ⟨(yX0_nameFor, 2), List.mem_of_getElem? (i := 24) (by decide +kernel), rfl⟩)) rfl⟩
theorem zc_X2_name : zy_mc 3 mX2_name := ⟨zy_mem (zy_t4 (List.mem_of_getElem? (i := 88) (by decide +kernel))) rfl, zy_mem (zy_t1 (List.mem_of_getElem? (i := 7) (by decide +kernel))) rfl, by decide +kernel, by decide +kernel⟩
theorem zr_0_102 : zy_mr 0 102 = (0, 2, 3, mX2_name) := rfl
theorem zv_0_102 : zy_mv 0 102 := ⟨zc_X2_name, ⟨TX2, 4, rfl⟩, zy_mem (zy_t4 (List.mem_of_getElem? (i := 85) (by decide +kernel))) rfl, zy_mem (zy_t4 (List.mem_of_getElem? (i := 86) (by decide +kernel))) rfl, zy_mem (zy_t4 (List.mem_of_getElem? (i := 87) (by decide +kernel))) rfl⟩
theorem zc_X10_desk : zy_mc 1 mX10_desk := ⟨zy_mem (zy_t4 (List.mem_of_getElem? (i := 92) (by decide +kernel))) rfl, zy_mem (zy_t1 (List.mem_of_getElem? (i := 4) (by decide +kernel))) rfl, by decide +kernel, by decide +kernel⟩
theorem zr_0_68 : zy_mr 0 68 = (0, 10, 1, mX10_desk) := rfl
theorem zv_0_68 : zy_mv 0 68 := ⟨zc_X10_desk, ⟨TX10, 13, rfl⟩, zy_mem (zy_t4 (List.mem_of_getElem? (i := 89) (by decide +kernel))) rfl, zy_mem (zy_t4 (List.mem_of_getElem? (i := 90) (by decide +kernel))) rfl, zy_mem (zy_t4 (List.mem_of_getElem? (i := 91) (by decide +kernel))) rfl⟩
theorem zc_X2_value : zy_mc 2 mX2_value := ⟨zy_mem (zy_t4 (List.mem_of_getElem? (i := 96) (by decide +kernel))) rfl, zy_mem (zy_t1 (List.mem_of_getElem? (i := 7) (by decide +kernel))) rfl, by decide +kernel, by decide +kernel⟩
theorem zr_0_75 : zy_mr 0 75 = (0, 2, 2, mX2_value) := rfl
theorem zv_0_75 : zy_mv 0 75 := ⟨zc_X2_value, ⟨TX2, 4, rfl⟩, zy_mem (zy_t4 (List.mem_of_getElem? (i := 93) (by decide +kernel))) rfl, zy_mem (zy_t4 (List.mem_of_getElem? (i := 94) (by decide +kernel))) rfl, zy_mem (zy_t4 (List.mem_of_getElem? (i := 95) (by decide +kernel))) rfl⟩
theorem zr_0_79 : zy_mr 0 79 = (4, 0, 2, mX12_isIn) := rfl
theorem zn_0_79 : zy_mn 0 79 := ⟨zy_mem (zy_t4 (List.mem_of_getElem? (i := 130) (by decide +kernel))) rfl, zy_mem (zy_t3 (List.mem_of_getElem? (i := 19) (by decide +kernel))) rfl, zy_mem (zy_t1 (List.mem_of_getElem? (i := 15) (by decide +kernel))) rfl, zy_mem (zy_t3 (List.mem_of_getElem? (i := 20) (by decide +kernel))) rfl⟩
theorem zc_X10_draw : zy_mc 0 mX10_draw := ⟨zy_mem (zy_t4 (List.mem_of_getElem? (i := 134) (by decide +kernel))) rfl, zy_mem (zy_t1 (List.mem_of_getElem? (i := 4) (by decide +kernel))) rfl, by decide +kernel, by decide +kernel⟩
theorem zr_0_88 : zy_mr 0 88 = (0, 10, 0, mX10_draw) := rfl
theorem zv_0_88 : zy_mv 0 88 := ⟨zc_X10_draw, ⟨TX10, 13, rfl⟩, zy_mem (zy_t4 (List.mem_of_getElem? (i := 131) (by decide +kernel))) rfl, zy_mem (zy_t4 (List.mem_of_getElem? (i := 132) (by decide +kernel))) rfl, zy_mem (zy_t4 (List.mem_of_getElem? (i := 133) (by decide +kernel))) rfl⟩
theorem zc_X10_write : zy_mc 2 mX10_write := ⟨zy_mem (zy_t4 (List.mem_of_getElem? (i := 138) (by decide +kernel))) rfl, zy_mem (zy_t1 (List.mem_of_getElem? (i := 4) (by decide +kernel))) rfl, by decide +kernel, by decide +kernel⟩
theorem zr_0_92 : zy_mr 0 92 = (0, 10, 2, mX10_write) := rfl
theorem zv_0_92 : zy_mv 0 92 := ⟨zc_X10_write, ⟨TX10, 13, rfl⟩, zy_mem (zy_t4 (List.mem_of_getElem? (i := 135) (by decide +kernel))) rfl, zy_mem (zy_t4 (List.mem_of_getElem? (i := 136) (by decide +kernel))) rfl, zy_mem (zy_t4 (List.mem_of_getElem? (i := 137) (by decide +kernel))) rfl⟩
theorem zc_X0_goDown : zy_mc 3 mX0_goDown := ⟨zy_mem (zy_t4 (List.mem_of_getElem? (i := 142) (by decide +kernel))) rfl, zy_mem (zy_t1 (List.mem_of_getElem? (i := 8) (by decide +kernel))) rfl, by decide +kernel, by decide +kernel⟩
theorem zr_0_37 : zy_mr 0 37 = (0, 0, 3, mX0_goDown) := rfl
theorem zv_0_37 : zy_mv 0 37 := ⟨zc_X0_goDown, ⟨TX0, 2, rfl⟩, zy_mem (zy_t4 (List.mem_of_getElem? (i := 139) (by decide +kernel))) rfl, zy_mem (zy_t4 (List.mem_of_getElem? (i := 141) (by decide +kernel))) rfl, zy_mem (List.mem_append_left _ (List.mem_map.mpr ⟨(yX0_goDown, 2), List.mem_of_getElem? (i := 29) (by decide +kernel), rfl⟩)) rfl⟩
theorem zc_X7_stepDown : zy_mc 2 mX7_stepDown := ⟨zy_mem (zy_t4 (List.mem_of_getElem? (i := 146) (by decide +kernel))) rfl, zy_mem (zy_t1 (List.mem_of_getElem? (i := 3) (by decide +kernel))) rfl, by decide +kernel, by decide +kernel⟩
theorem zr_0_99 : zy_mr 0 99 = (0, 7, 2, mX7_stepDown) := rfl
theorem zv_0_99 : zy_mv 0 99 := ⟨zc_X7_stepDown, ⟨TX7, 6, rfl⟩, zy_mem (zy_t4 (List.mem_of_getElem? (i := 143) (by decide +kernel))) rfl, zy_mem (zy_t4 (List.mem_of_getElem? (i := 144) (by decide +kernel))) rfl, zy_mem (zy_t4 (List.mem_of_getElem? (i := 145) (by decide +kernel))) rfl⟩
theorem zc_X0_merge : zy_mc 1 mX0_merge := ⟨zy_mem (zy_t4 (List.mem_of_getElem? (i := 150) (by decide +kernel))) rfl, zy_mem (zy_t1 (List.mem_of_getElem? (i := 8) (by decide +kernel))) rfl, by decide +kernel, by decide +kernel⟩
theorem zr_0_41 : zy_mr 0 41 = (0, 0, 1, mX0_merge) := rfl
theorem zv_0_41 : zy_mv 0 41 := ⟨zc_X0_merge, ⟨TX0, 2, rfl⟩, zy_mem (zy_t4 (List.mem_of_getElem? (i := 147) (by decide +kernel))) rfl, zy_mem (zy_t4 (List.mem_of_getElem? (i := 149) (by decide +kernel))) rfl, zy_mem (List.mem_append_left _ (List.mem_map.mpr ⟨(yX0_merge, 2), List.mem_of_getElem? (i := 30) (by decide +kernel), rfl⟩)) rfl⟩
theorem zc_X0_mergeInto : zy_mc 3 mX0_mergeInto := ⟨zy_mem (zy_t4 (List.mem_of_getElem? (i := 154) (by decide +kernel))) rfl, zy_mem (zy_t1 (List.mem_of_getElem? (i := 8) (by decide +kernel))) rfl, by decide +kernel, by decide +kernel⟩
theorem zr_0_109 : zy_mr 0 109 = (0, 0, 3, mX0_mergeInto) := rfl
theorem zv_0_109 : zy_mv 0 109 := ⟨zc_X0_mergeInto, ⟨TX0, 2, rfl⟩, zy_mem (zy_t4 (List.mem_of_getElem? (i := 151) (by decide +kernel))) rfl, zy_mem (zy_t4 (List.mem_of_getElem? (i := 153) (by decide +kernel))) rfl, zy_mem (List.mem_append_left _ (List.mem_map.mpr ⟨(yX0_mergeInto, 2), List.mem_of_getElem? (i := 31) (by decide +kernel), rfl⟩)) rfl⟩
theorem zr_0_112 : zy_mr 0 112 = (3, 0, 2, mX12_isIn) := rfl
theorem zn_0_112 : zy_mn 0 112 := ⟨zy_mem (zy_t4 (List.mem_of_getElem? (i := 155) (by decide +kernel))) rfl, zy_mem (zy_t3 (List.mem_of_getElem? (i := 98) (by decide +kernel))) rfl, zy_mem (zy_t1 (List.mem_of_getElem? (i := 15) (by decide +kernel))) rfl, zy_mem (zy_t3 (List.mem_of_getElem? (i := 99) (by decide +kernel))) rfl⟩
theorem zc_J7_fill_53178 : zy_mc 2 mJ7_fill_53178 := ⟨zy_mem (zy_t3 (List.mem_of_getElem? (i := 106) (by decide +kernel))) rfl, zy_mem (zy_t1 (List.mem_of_getElem? (i := 20) (by decide +kernel))) rfl, by decide +kernel, by decide +kernel⟩
theorem zr_1_49 : zy_mr 1 49 = (1, 99, 2, mJ7_fill_53178) := rfl
theorem zv_1_49 : zy_ms 1 49 := ⟨zc_J7_fill_53178, zy_mem (zy_t3 (List.mem_of_getElem? (i := 105) (by decide +kernel))) rfl, Or.inl (zy_mem (zy_t3 (List.mem_of_getElem? (i := 104) (by decide +kernel))) rfl)⟩
theorem zr_1_43 : zy_mr 1 43 = (6, 0, 5, mX12_isIn) := rfl
theorem zn_1_43 : zy_mn 1 43 := ⟨zy_mem (zy_t5 (List.mem_of_getElem? (i := 220) (by decide +kernel))) rfl, zy_mem (zy_t4 (List.mem_of_getElem? (i := 28) (by decide +kernel))) rfl, zy_mem (zy_t4 (List.mem_of_getElem? (i := 27) (by decide +kernel))) rfl, zy_mem (zy_t1 (List.mem_of_getElem? (i := 21) (by decide +kernel))) rfl⟩
theorem zc_X1_rules : zy_mc 1 mX1_rules := ⟨zy_mem (zy_t3 (List.mem_of_getElem? (i := 118) (by decide +kernel))) rfl, zy_mem (zy_t1 (List.mem_of_getElem? (i := 6) (by decide +kernel))) rfl, by decide +kernel, by decide +kernel⟩
theorem zr_2_34 : zy_mr 2 34 = (0, 1, 1, mX1_rules) := rfl
theorem zv_2_34 : zy_mv 2 34 := ⟨zc_X1_rules, ⟨TX1, 10, rfl⟩, zy_mem (zy_t4 (List.mem_of_getElem? (i := 97) (by decide +kernel))) rfl, zy_mem (zy_t3 (List.mem_of_getElem? (i := 116) (by decide +kernel))) rfl, zy_mem (zy_t3 (List.mem_of_getElem? (i := 117) (by decide +kernel))) rfl⟩
theorem zc_X2_unwritten : zy_mc 1 mX2_unwritten := ⟨zy_mem (zy_t4 (List.mem_of_getElem? (i := 101) (by decide +kernel))) rfl, zy_mem (zy_t1 (List.mem_of_getElem? (i := 7) (by decide +kernel))) rfl, by decide +kernel, by decide +kernel⟩
theorem zr_2_40 : zy_mr 2 40 = (0, 2, 1, mX2_unwritten) := rfl
theorem zv_2_40 : zy_mv 2 40 := ⟨zc_X2_unwritten, ⟨TX2, 4, rfl⟩, zy_mem (zy_t4 (List.mem_of_getElem? (i := 98) (by decide +kernel))) rfl, zy_mem (zy_t4 (List.mem_of_getElem? (i := 100) (by decide +kernel))) rfl, zy_mem (List.mem_append_left _ (List.mem_map.mpr ⟨(yX2_unwritten, 4), List.mem_of_getElem? (i := 25) (by decide +kernel), rfl⟩)) rfl⟩
theorem zc_X2_bound : zy_mc 2 mX2_bound := ⟨zy_mem (zy_t4 (List.mem_of_getElem? (i := 104) (by decide +kernel))) rfl, zy_mem (zy_t1 (List.mem_of_getElem? (i := 7) (by decide +kernel))) rfl, by decide +kernel, by decide +kernel⟩
theorem zr_2_44 : zy_mr 2 44 = (1, 2, 2, mX2_bound) := rfl
theorem zv_2_44 : zy_ms 2 44 := ⟨zc_X2_bound, zy_mem (zy_t4 (List.mem_of_getElem? (i := 103) (by decide +kernel))) rfl, Or.inl (zy_mem (zy_t4 (List.mem_of_getElem? (i := 102) (by decide +kernel))) rfl)⟩
theorem zr_2_71 : zy_mr 2 71 = (4, 0, 2, mX12_isIn) := rfl
theorem zn_2_71 : zy_mn 2 71 := ⟨zy_mem (zy_t4 (List.mem_of_getElem? (i := 105) (by decide +kernel))) rfl, zy_mem (zy_t3 (List.mem_of_getElem? (i := 19) (by decide +kernel))) rfl, zy_mem (zy_t1 (List.mem_of_getElem? (i := 15) (by decide +kernel))) rfl, zy_mem (zy_t3 (List.mem_of_getElem? (i := 20) (by decide +kernel))) rfl⟩
theorem zr_2_76 : zy_mr 2 76 = (3, 0, 2, mX12_isIn) := rfl
theorem zn_2_76 : zy_mn 2 76 := ⟨zy_mem (zy_t4 (List.mem_of_getElem? (i := 106) (by decide +kernel))) rfl, zy_mem (zy_t3 (List.mem_of_getElem? (i := 98) (by decide +kernel))) rfl, zy_mem (zy_t1 (List.mem_of_getElem? (i := 15) (by decide +kernel))) rfl, zy_mem (zy_t3 (List.mem_of_getElem? (i := 99) (by decide +kernel))) rfl⟩
theorem zc_X2_pop : zy_mc 0 mX2_pop := ⟨zy_mem (zy_t4 (List.mem_of_getElem? (i := 110) (by decide +kernel))) rfl, zy_mem (zy_t1 (List.mem_of_getElem? (i := 7) (by decide +kernel))) rfl, by decide +kernel, by decide +kernel⟩
theorem zr_2_60 : zy_mr 2 60 = (0, 2, 0, mX2_pop) := rfl
theorem zv_2_60 : zy_mv 2 60 := ⟨zc_X2_pop, ⟨TX2, 4, rfl⟩, zy_mem (zy_t4 (List.mem_of_getElem? (i := 107) (by decide +kernel))) rfl, zy_mem (zy_t4 (List.mem_of_getElem? (i := 109) (by decide +kernel))) rfl, zy_mem (List.mem_append_left _ (List.mem_map.mpr ⟨(yX2_pop, 4), List.mem_of_getElem? (i := 26) (by decide +kernel), rfl⟩)) rfl⟩
theorem zc_X2_found : zy_mc 2 mX2_found := ⟨zy_mem (zy_t4 (List.mem_of_getElem? (i := 114) (by decide +kernel))) rfl, zy_mem (zy_t1 (List.mem_of_getElem? (i := 7) (by decide +kernel))) rfl, by decide +kernel, by decide +kernel⟩
theorem zr_2_64 : zy_mr 2 64 = (0, 2, 2, mX2_found) := rfl
theorem zv_2_64 : zy_mv 2 64 := ⟨zc_X2_found, ⟨TX2, 4, rfl⟩, zy_mem (zy_t4 (List.mem_of_getElem? (i := 111) (by decide +kernel))) rfl, zy_mem (zy_t4 (List.mem_of_getElem? (i := 113) (by decide +kernel))) rfl, zy_mem (List.mem_append_left _ (List.mem_map.mpr ⟨(yX2_found, 4), List.mem_of_getElem? (i := 27) (by decide +kernel), rfl⟩)) rfl⟩
theorem zr_2_79 : zy_mr 2 79 = (0, 7, 1, mX7_has) := rfl
theorem zv_2_79 : zy_mv 2 79 := ⟨zc_X7_has, ⟨TX7, 6, rfl⟩, zy_mem (zy_t4 (List.mem_of_getElem? (i := 115) (by decide +kernel))) rfl, zy_mem (zy_t2 (List.mem_of_getElem? (i := 219) (by decide +kernel))) rfl, zy_mem (zy_t2 (List.mem_of_getElem? (i := 220) (by decide +kernel))) rfl⟩
theorem zc_X2_reckon : zy_mc 3 mX2_reckon := ⟨zy_mem (zy_t4 (List.mem_of_getElem? (i := 118) (by decide +kernel))) rfl, zy_mem (zy_t1 (List.mem_of_getElem? (i := 7) (by decide +kernel))) rfl, by decide +kernel, by decide +kernel⟩
theorem zr_2_82 : zy_mr 2 82 = (1, 2, 3, mX2_reckon) := rfl
theorem zv_2_82 : zy_ms 2 82 := ⟨zc_X2_reckon, zy_mem (zy_t4 (List.mem_of_getElem? (i := 117) (by decide +kernel))) rfl, Or.inl (zy_mem (zy_t4 (List.mem_of_getElem? (i := 116) (by decide +kernel))) rfl)⟩
theorem zc_X2_compare : zy_mc 3 mX2_compare := ⟨zy_mem (zy_t4 (List.mem_of_getElem? (i := 125) (by decide +kernel))) rfl, zy_mem (zy_t1 (List.mem_of_getElem? (i := 7) (by decide +kernel))) rfl, by decide +kernel, by decide +kernel⟩
theorem zr_2_86 : zy_mr 2 86 = (1, 2, 3, mX2_compare) := rfl
theorem zv_2_86 : zy_ms 2 86 := ⟨zc_X2_compare, zy_mem (zy_t4 (List.mem_of_getElem? (i := 124) (by decide +kernel))) rfl, Or.inl (zy_mem (zy_t4 (List.mem_of_getElem? (i := 123) (by decide +kernel))) rfl)⟩
theorem zc_X2_push : zy_mc 1 mX2_push := ⟨zy_mem (zy_t4 (List.mem_of_getElem? (i := 129) (by decide +kernel))) rfl, zy_mem (zy_t1 (List.mem_of_getElem? (i := 7) (by decide +kernel))) rfl, by decide +kernel, by decide +kernel⟩
theorem zr_2_67 : zy_mr 2 67 = (0, 2, 1, mX2_push) := rfl
theorem zv_2_67 : zy_mv 2 67 := ⟨zc_X2_push, ⟨TX2, 4, rfl⟩, zy_mem (zy_t4 (List.mem_of_getElem? (i := 126) (by decide +kernel))) rfl, zy_mem (zy_t4 (List.mem_of_getElem? (i := 128) (by decide +kernel))) rfl, zy_mem (List.mem_append_left _ (List.mem_map.mpr ⟨(yX2_push, 4), List.mem_of_getElem? (i := 28) (by decide +kernel), rfl⟩)) rfl⟩
theorem zc_X7_bitsBelow : zy_mc 1 mX7_bitsBelow := ⟨zy_mem (zy_t4 (List.mem_of_getElem? (i := 200) (by decide +kernel))) rfl, zy_mem (zy_t1 (List.mem_of_getElem? (i := 3) (by decide +kernel))) rfl, by decide +kernel, by decide +kernel⟩
theorem zr_3_49 : zy_mr 3 49 = (0, 7, 1, mX7_bitsBelow) := rfl
theorem zv_3_49 : zy_mv 3 49 := ⟨zc_X7_bitsBelow, ⟨TX7, 6, rfl⟩, zy_mem (zy_t5 (List.mem_of_getElem? (i := 7) (by decide +kernel))) rfl, zy_mem (zy_t4 (List.mem_of_getElem? (i := 198) (by decide +kernel))) rfl, zy_mem (zy_t4 (List.mem_of_getElem? (i := 199) (by decide +kernel))) rfl⟩
theorem zc_X3_measureDays : zy_mc 0 mX3_measureDays := ⟨zy_mem (zy_t5 (List.mem_of_getElem? (i := 11) (by decide +kernel))) rfl, zy_mem (zy_t1 (List.mem_of_getElem? (i := 10) (by decide +kernel))) rfl, by decide +kernel, by decide +kernel⟩
theorem zr_3_60 : zy_mr 3 60 = (0, 3, 0, mX3_measureDays) := rfl
theorem zv_3_60 : zy_mv 3 60 := ⟨zc_X3_measureDays, ⟨TX3, 11, rfl⟩, zy_mem (zy_t5 (List.mem_of_getElem? (i := 8) (by decide +kernel))) rfl, zy_mem (zy_t5 (List.mem_of_getElem? (i := 10) (by decide +kernel))) rfl, zy_mem (List.mem_append_left _ (List.mem_map.mpr ⟨(yX3_measureDays, 11), List.mem_of_getElem? (i := 35) (by decide +kernel), rfl⟩)) rfl⟩
theorem zr_3_67 : zy_mr 3 67 = (1, 99, 2, mJ7_fill_53178) := rfl
theorem zv_3_67 : zy_ms 3 67 := ⟨zc_J7_fill_53178, zy_mem (zy_t3 (List.mem_of_getElem? (i := 105) (by decide +kernel))) rfl, Or.inl (zy_mem (zy_t5 (List.mem_of_getElem? (i := 12) (by decide +kernel))) rfl)⟩
theorem zc_X3_stepDays : zy_mc 2 mX3_stepDays := ⟨zy_mem (zy_t5 (List.mem_of_getElem? (i := 16) (by decide +kernel))) rfl, zy_mem (zy_t1 (List.mem_of_getElem? (i := 10) (by decide +kernel))) rfl, by decide +kernel, by decide +kernel⟩
theorem zr_3_76 : zy_mr 3 76 = (0, 3, 2, mX3_stepDays) := rfl
theorem zv_3_76 : zy_mv 3 76 := ⟨zc_X3_stepDays, ⟨TX3, 11, rfl⟩, zy_mem (zy_t5 (List.mem_of_getElem? (i := 13) (by decide +kernel))) rfl, zy_mem (zy_t5 (List.mem_of_getElem? (i := 15) (by decide +kernel))) rfl, zy_mem (List.mem_append_left _ (List.mem_map.mpr ⟨(yX3_stepDays, 11), List.mem_of_getElem? (i := 36) (by decide +kernel), rfl⟩)) rfl⟩
theorem zc_X3_isBelow : zy_mc 1 mX3_isBelow := ⟨zy_mem (zy_t5 (List.mem_of_getElem? (i := 20) (by decide +kernel))) rfl, zy_mem (zy_t1 (List.mem_of_getElem? (i := 10) (by decide +kernel))) rfl, by decide +kernel, by decide +kernel⟩
theorem zr_3_85 : zy_mr 3 85 = (0, 3, 1, mX3_isBelow) := rfl
theorem zv_3_85 : zy_mv 3 85 := ⟨zc_X3_isBelow, ⟨TX3, 11, rfl⟩, zy_mem (zy_t5 (List.mem_of_getElem? (i := 17) (by decide +kernel))) rfl, zy_mem (zy_t5 (List.mem_of_getElem? (i := 19) (by decide +kernel))) rfl, zy_mem (List.mem_append_left _ (List.mem_map.mpr ⟨(yX3_isBelow, 11), List.mem_of_getElem? (i := 37) (by decide +kernel), rfl⟩)) rfl⟩
theorem zc_X7_areCousins : zy_mc 2 mX7_areCousins := ⟨zy_mem (zy_t2 (List.mem_of_getElem? (i := 237) (by decide +kernel))) rfl, zy_mem (zy_t1 (List.mem_of_getElem? (i := 3) (by decide +kernel))) rfl, by decide +kernel, by decide +kernel⟩
theorem zr_3_92 : zy_mr 3 92 = (0, 7, 2, mX7_areCousins) := rfl
theorem zv_3_92 : zy_mv 3 92 := ⟨zc_X7_areCousins, ⟨TX7, 6, rfl⟩, zy_mem (zy_t5 (List.mem_of_getElem? (i := 21) (by decide +kernel))) rfl, zy_mem (zy_t2 (List.mem_of_getElem? (i := 235) (by decide +kernel))) rfl, zy_mem (zy_t2 (List.mem_of_getElem? (i := 236) (by decide +kernel))) rfl⟩
theorem zr_3_80 : zy_mr 3 80 = (4, 0, 2, mX12_isIn) := rfl
theorem zn_3_80 : zy_mn 3 80 := ⟨zy_mem (zy_t5 (List.mem_of_getElem? (i := 22) (by decide +kernel))) rfl, zy_mem (zy_t3 (List.mem_of_getElem? (i := 19) (by decide +kernel))) rfl, zy_mem (zy_t1 (List.mem_of_getElem? (i := 15) (by decide +kernel))) rfl, zy_mem (zy_t3 (List.mem_of_getElem? (i := 20) (by decide +kernel))) rfl⟩
theorem zc_X3_walk : zy_mc 3 mX3_walk := ⟨zy_mem (zy_t5 (List.mem_of_getElem? (i := 26) (by decide +kernel))) rfl, zy_mem (zy_t1 (List.mem_of_getElem? (i := 10) (by decide +kernel))) rfl, by decide +kernel, by decide +kernel⟩
theorem zr_3_63 : zy_mr 3 63 = (0, 3, 3, mX3_walk) := rfl
theorem zv_3_63 : zy_mv 3 63 := ⟨zc_X3_walk, ⟨TX3, 11, rfl⟩, zy_mem (zy_t5 (List.mem_of_getElem? (i := 23) (by decide +kernel))) rfl, zy_mem (zy_t5 (List.mem_of_getElem? (i := 25) (by decide +kernel))) rfl, zy_mem (List.mem_append_left _ (List.mem_map.mpr ⟨(yX3_walk, 11), List.mem_of_getElem? (i := 38) (by decide +kernel), rfl⟩)) rfl⟩
theorem zr_3_96 : zy_mr 3 96 = (6, 0, 5, mX12_isIn) := rfl
theorem zn_3_96 : zy_mn 3 96 := ⟨zy_mem (zy_t5 (List.mem_of_getElem? (i := 27) (by decide +kernel))) rfl, zy_mem (zy_t4 (List.mem_of_getElem? (i := 28) (by decide +kernel))) rfl, zy_mem (zy_t4 (List.mem_of_getElem? (i := 27) (by decide +kernel))) rfl, zy_mem (zy_t1 (List.mem_of_getElem? (i := 21) (by decide +kernel))) rfl⟩
theorem zc_X3_grown : zy_mc 2 mX3_grown := ⟨zy_mem (zy_t5 (List.mem_of_getElem? (i := 31) (by decide +kernel))) rfl, zy_mem (zy_t1 (List.mem_of_getElem? (i := 10) (by decide +kernel))) rfl, by decide +kernel, by decide +kernel⟩
theorem zr_3_102 : zy_mr 3 102 = (0, 3, 2, mX3_grown) := rfl
theorem zv_3_102 : zy_mv 3 102 := ⟨zc_X3_grown, ⟨TX3, 11, rfl⟩, zy_mem (zy_t5 (List.mem_of_getElem? (i := 28) (by decide +kernel))) rfl, zy_mem (zy_t5 (List.mem_of_getElem? (i := 30) (by decide +kernel))) rfl, zy_mem (List.mem_append_left _ (List.mem_map.mpr ⟨(yX3_grown, 11), List.mem_of_getElem? (i := 39) (by decide +kernel), rfl⟩)) rfl⟩
theorem zr_3_105 : zy_mr 3 105 = (0, 2, 3, mX2_name) := rfl
theorem zv_3_105 : zy_mv 3 105 := ⟨zc_X2_name, ⟨TX2, 4, rfl⟩, zy_mem (zy_t5 (List.mem_of_getElem? (i := 32) (by decide +kernel))) rfl, zy_mem (zy_t4 (List.mem_of_getElem? (i := 86) (by decide +kernel))) rfl, zy_mem (zy_t4 (List.mem_of_getElem? (i := 87) (by decide +kernel))) rfl⟩
theorem zr_3_108 : zy_mr 3 108 = (0, 2, 2, mX2_value) := rfl
theorem zv_3_108 : zy_mv 3 108 := ⟨zc_X2_value, ⟨TX2, 4, rfl⟩, zy_mem (zy_t5 (List.mem_of_getElem? (i := 33) (by decide +kernel))) rfl, zy_mem (zy_t4 (List.mem_of_getElem? (i := 94) (by decide +kernel))) rfl, zy_mem (zy_t4 (List.mem_of_getElem? (i := 95) (by decide +kernel))) rfl⟩
theorem zr_4_31 : zy_mr 4 31 = (1, 99, 2, mJ7_fill_53178) := rfl
theorem zv_4_31 : zy_ms 4 31 := ⟨zc_J7_fill_53178, zy_mem (zy_t3 (List.mem_of_getElem? (i := 105) (by decide +kernel))) rfl, Or.inl (zy_mem (zy_t5 (List.mem_of_getElem? (i := 50) (by decide +kernel))) rfl)⟩
theorem zc_X4_sumOf : zy_mc 1 mX4_sumOf := ⟨zy_mem (zy_t5 (List.mem_of_getElem? (i := 54) (by decide +kernel))) rfl, zy_mem (zy_t1 (List.mem_of_getElem? (i := 5) (by decide +kernel))) rfl, by decide +kernel, by decide +kernel⟩
theorem zr_4_37 : zy_mr 4 37 = (0, 4, 1, mX4_sumOf) := rfl
theorem zv_4_37 : zy_mv 4 37 := ⟨zc_X4_sumOf, ⟨TX4, 4, rfl⟩, zy_mem (zy_t5 (List.mem_of_getElem? (i := 51) (by decide +kernel))) rfl, zy_mem (zy_t5 (List.mem_of_getElem? (i := 53) (by decide +kernel))) rfl, zy_mem (List.mem_append_left _ (List.mem_map.mpr ⟨(yX4_sumOf, 4), List.mem_of_getElem? (i := 40) (by decide +kernel), rfl⟩)) rfl⟩
theorem zr_4_41 : zy_mr 4 41 = (5, 0, 1, mX12_isIn) := rfl
theorem zn_4_41 : zy_mn 4 41 := ⟨zy_mem (zy_t5 (List.mem_of_getElem? (i := 67) (by decide +kernel))) rfl, zy_mem (zy_t5 (List.mem_of_getElem? (i := 68) (by decide +kernel))) rfl, zy_mem (zy_t1 (List.mem_of_getElem? (i := 15) (by decide +kernel))) rfl, zy_mem (zy_t5 (List.mem_of_getElem? (i := 69) (by decide +kernel))) rfl⟩
theorem zr_4_25 : zy_mr 4 25 = (6, 0, 5, mX12_isIn) := rfl
theorem zn_4_25 : zy_mn 4 25 := ⟨zy_mem (zy_t5 (List.mem_of_getElem? (i := 225) (by decide +kernel))) rfl, zy_mem (zy_t4 (List.mem_of_getElem? (i := 28) (by decide +kernel))) rfl, zy_mem (zy_t4 (List.mem_of_getElem? (i := 27) (by decide +kernel))) rfl, zy_mem (zy_t1 (List.mem_of_getElem? (i := 21) (by decide +kernel))) rfl⟩
theorem zr_5_55 : zy_mr 5 55 = (4, 0, 2, mX12_isIn) := rfl
theorem zn_5_55 : zy_mn 5 55 := ⟨zy_mem (zy_t3 (List.mem_of_getElem? (i := 18) (by decide +kernel))) rfl, zy_mem (zy_t3 (List.mem_of_getElem? (i := 19) (by decide +kernel))) rfl, zy_mem (zy_t1 (List.mem_of_getElem? (i := 15) (by decide +kernel))) rfl, zy_mem (zy_t3 (List.mem_of_getElem? (i := 20) (by decide +kernel))) rfl⟩
theorem zc_X5_findTokens : zy_mc 2 mX5_findTokens := ⟨zy_mem (zy_t3 (List.mem_of_getElem? (i := 24) (by decide +kernel))) rfl, zy_mem (zy_t1 (List.mem_of_getElem? (i := 11) (by decide +kernel))) rfl, by decide +kernel, by decide +kernel⟩
theorem zr_5_61 : zy_mr 5 61 = (0, 5, 2, mX5_findTokens) := rfl
theorem zv_5_61 : zy_mv 5 61 := ⟨zc_X5_findTokens, ⟨TX5, 11, rfl⟩, zy_mem (zy_t3 (List.mem_of_getElem? (i := 21) (by decide +kernel))) rfl, zy_mem (zy_t3 (List.mem_of_getElem? (i := 23) (by decide +kernel))) rfl, zy_mem (List.mem_append_left _ (List.mem_map.mpr ⟨(yX5_findTokens, 11), List.mem_of_getElem? (i := 1) (by decide +kernel), rfl⟩)) rfl⟩
theorem zc_X5_endOfToken : zy_mc 3 mX5_endOfToken := ⟨zy_mem (zy_t3 (List.mem_of_getElem? (i := 27) (by decide +kernel))) rfl, zy_mem (zy_t1 (List.mem_of_getElem? (i := 11) (by decide +kernel))) rfl, by decide +kernel, by decide +kernel⟩
theorem zr_5_74 : zy_mr 5 74 = (1, 5, 3, mX5_endOfToken) := rfl
theorem zv_5_74 : zy_ms 5 74 := ⟨zc_X5_endOfToken, zy_mem (zy_t3 (List.mem_of_getElem? (i := 26) (by decide +kernel))) rfl, Or.inl (zy_mem (zy_t3 (List.mem_of_getElem? (i := 25) (by decide +kernel))) rfl)⟩
theorem zc_X5_isDigit : zy_mc 1 mX5_isDigit := ⟨zy_mem (zy_t3 (List.mem_of_getElem? (i := 30) (by decide +kernel))) rfl, zy_mem (zy_t1 (List.mem_of_getElem? (i := 11) (by decide +kernel))) rfl, by decide +kernel, by decide +kernel⟩
theorem zr_5_78 : zy_mr 5 78 = (1, 5, 1, mX5_isDigit) := rfl
theorem zv_5_78 : zy_ms 5 78 := ⟨zc_X5_isDigit, zy_mem (zy_t3 (List.mem_of_getElem? (i := 29) (by decide +kernel))) rfl, Or.inl (zy_mem (zy_t3 (List.mem_of_getElem? (i := 28) (by decide +kernel))) rfl)⟩
theorem zc_X5_isLetter : zy_mc 1 mX5_isLetter := ⟨zy_mem (zy_t3 (List.mem_of_getElem? (i := 33) (by decide +kernel))) rfl, zy_mem (zy_t1 (List.mem_of_getElem? (i := 11) (by decide +kernel))) rfl, by decide +kernel, by decide +kernel⟩
theorem zr_5_95 : zy_mr 5 95 = (1, 5, 1, mX5_isLetter) := rfl
theorem zv_5_95 : zy_ms 5 95 := ⟨zc_X5_isLetter, zy_mem (zy_t3 (List.mem_of_getElem? (i := 32) (by decide +kernel))) rfl, Or.inl (zy_mem (zy_t3 (List.mem_of_getElem? (i := 31) (by decide +kernel))) rfl)⟩
theorem zc_X5_numberFrom : zy_mc 3 mX5_numberFrom := ⟨zy_mem (zy_t3 (List.mem_of_getElem? (i := 36) (by decide +kernel))) rfl, zy_mem (zy_t1 (List.mem_of_getElem? (i := 11) (by decide +kernel))) rfl, by decide +kernel, by decide +kernel⟩
theorem zr_5_82 : zy_mr 5 82 = (1, 5, 3, mX5_numberFrom) := rfl
theorem zv_5_82 : zy_ms 5 82 := ⟨zc_X5_numberFrom, zy_mem (zy_t3 (List.mem_of_getElem? (i := 35) (by decide +kernel))) rfl, Or.inl (zy_mem (zy_t3 (List.mem_of_getElem? (i := 34) (by decide +kernel))) rfl)⟩
theorem zc_X5_wordFrom : zy_mc 3 mX5_wordFrom := ⟨zy_mem (zy_t3 (List.mem_of_getElem? (i := 41) (by decide +kernel))) rfl, zy_mem (zy_t1 (List.mem_of_getElem? (i := 11) (by decide +kernel))) rfl, by decide +kernel, by decide +kernel⟩
theorem zr_5_88 : zy_mr 5 88 = (1, 5, 3, mX5_wordFrom) := rfl
theorem zv_5_88 : zy_ms 5 88 := ⟨zc_X5_wordFrom, zy_mem (zy_t3 (List.mem_of_getElem? (i := 40) (by decide +kernel))) rfl, Or.inl (zy_mem (zy_t3 (List.mem_of_getElem? (i := 39) (by decide +kernel))) rfl)⟩
theorem zc_X5_isSpelled : zy_mc 4 mX5_isSpelled := ⟨zy_mem (zy_t3 (List.mem_of_getElem? (i := 46) (by decide +kernel))) rfl, zy_mem (zy_t1 (List.mem_of_getElem? (i := 11) (by decide +kernel))) rfl, by decide +kernel, by decide +kernel⟩
theorem zr_5_105 : zy_mr 5 105 = (1, 5, 4, mX5_isSpelled) := rfl
theorem zv_5_105 : zy_ms 5 105 := ⟨zc_X5_isSpelled, zy_mem (zy_t3 (List.mem_of_getElem? (i := 45) (by decide +kernel))) rfl, Or.inl (zy_mem (zy_t3 (List.mem_of_getElem? (i := 44) (by decide +kernel))) rfl)⟩
theorem zr_5_92 : zy_mr 5 92 = (3, 0, 2, mX12_isIn) := rfl
theorem zn_5_92 : zy_mn 5 92 := ⟨zy_mem (zy_t3 (List.mem_of_getElem? (i := 97) (by decide +kernel))) rfl, zy_mem (zy_t3 (List.mem_of_getElem? (i := 98) (by decide +kernel))) rfl, zy_mem (zy_t1 (List.mem_of_getElem? (i := 15) (by decide +kernel))) rfl, zy_mem (zy_t3 (List.mem_of_getElem? (i := 99) (by decide +kernel))) rfl⟩
theorem zc_X1_clear : zy_mc 0 mX1_clear := ⟨zy_mem (zy_t3 (List.mem_of_getElem? (i := 103) (by decide +kernel))) rfl, zy_mem (zy_t1 (List.mem_of_getElem? (i := 6) (by decide +kernel))) rfl, by decide +kernel, by decide +kernel⟩
theorem zr_5_65 : zy_mr 5 65 = (0, 1, 0, mX1_clear) := rfl
theorem zv_5_65 : zy_mv 5 65 := ⟨zc_X1_clear, ⟨TX1, 10, rfl⟩, zy_mem (zy_t3 (List.mem_of_getElem? (i := 100) (by decide +kernel))) rfl, zy_mem (zy_t3 (List.mem_of_getElem? (i := 101) (by decide +kernel))) rfl, zy_mem (zy_t3 (List.mem_of_getElem? (i := 102) (by decide +kernel))) rfl⟩
theorem zc_X5_readClause : zy_mc 1 mX5_readClause := ⟨zy_mem (zy_t3 (List.mem_of_getElem? (i := 110) (by decide +kernel))) rfl, zy_mem (zy_t1 (List.mem_of_getElem? (i := 11) (by decide +kernel))) rfl, by decide +kernel, by decide +kernel⟩
theorem zr_5_70 : zy_mr 5 70 = (0, 5, 1, mX5_readClause) := rfl
theorem zv_5_70 : zy_mv 5 70 := ⟨zc_X5_readClause, ⟨TX5, 11, rfl⟩, zy_mem (zy_t3 (List.mem_of_getElem? (i := 107) (by decide +kernel))) rfl, zy_mem (zy_t3 (List.mem_of_getElem? (i := 109) (by decide +kernel))) rfl, zy_mem (List.mem_append_left _ (List.mem_map.mpr ⟨(yX5_readClause, 11), List.mem_of_getElem? (i := 2) (by decide +kernel), rfl⟩)) rfl⟩
theorem zc_X5_complain : zy_mc 1 mX5_complain := ⟨zy_mem (zy_t3 (List.mem_of_getElem? (i := 114) (by decide +kernel))) rfl, zy_mem (zy_t1 (List.mem_of_getElem? (i := 11) (by decide +kernel))) rfl, by decide +kernel, by decide +kernel⟩
theorem zr_5_125 : zy_mr 5 125 = (0, 5, 1, mX5_complain) := rfl
theorem zv_5_125 : zy_mv 5 125 := ⟨zc_X5_complain, ⟨TX5, 11, rfl⟩, zy_mem (zy_t3 (List.mem_of_getElem? (i := 111) (by decide +kernel))) rfl, zy_mem (zy_t3 (List.mem_of_getElem? (i := 113) (by decide +kernel))) rfl, zy_mem (List.mem_append_left _ (List.mem_map.mpr ⟨(yX5_complain, 11), List.mem_of_getElem? (i := 3) (by decide +kernel), rfl⟩)) rfl⟩
theorem zr_5_135 : zy_mr 5 135 = (0, 1, 1, mX1_rules) := rfl
theorem zv_5_135 : zy_mv 5 135 := ⟨zc_X1_rules, ⟨TX1, 10, rfl⟩, zy_mem (zy_t3 (List.mem_of_getElem? (i := 115) (by decide +kernel))) rfl, zy_mem (zy_t3 (List.mem_of_getElem? (i := 116) (by decide +kernel))) rfl, zy_mem (zy_t3 (List.mem_of_getElem? (i := 117) (by decide +kernel))) rfl⟩
theorem zc_X5_step : zy_mc 0 mX5_step := ⟨zy_mem (zy_t3 (List.mem_of_getElem? (i := 122) (by decide +kernel))) rfl, zy_mem (zy_t1 (List.mem_of_getElem? (i := 11) (by decide +kernel))) rfl, by decide +kernel, by decide +kernel⟩
theorem zr_5_122 : zy_mr 5 122 = (0, 5, 0, mX5_step) := rfl
theorem zv_5_122 : zy_mv 5 122 := ⟨zc_X5_step, ⟨TX5, 11, rfl⟩, zy_mem (zy_t3 (List.mem_of_getElem? (i := 119) (by decide +kernel))) rfl, zy_mem (zy_t3 (List.mem_of_getElem? (i := 121) (by decide +kernel))) rfl, zy_mem (List.mem_append_left _ (List.mem_map.mpr ⟨(yX5_step, 11), List.mem_of_getElem? (i := 4) (by decide +kernel), rfl⟩)) rfl⟩
theorem zc_X5_readLaw : zy_mc 0 mX5_readLaw := ⟨zy_mem (zy_t3 (List.mem_of_getElem? (i := 126) (by decide +kernel))) rfl, zy_mem (zy_t1 (List.mem_of_getElem? (i := 11) (by decide +kernel))) rfl, by decide +kernel, by decide +kernel⟩
theorem zr_5_145 : zy_mr 5 145 = (0, 5, 0, mX5_readLaw) := rfl
theorem zv_5_145 : zy_mv 5 145 := ⟨zc_X5_readLaw, ⟨TX5, 11, rfl⟩, zy_mem (zy_t3 (List.mem_of_getElem? (i := 123) (by decide +kernel))) rfl, zy_mem (zy_t3 (List.mem_of_getElem? (i := 125) (by decide +kernel))) rfl, zy_mem (List.mem_append_left _ (List.mem_map.mpr ⟨(yX5_readLaw, 11), List.mem_of_getElem? (i := 5) (by decide +kernel), rfl⟩)) rfl⟩
theorem zc_X5_readSum : zy_mc 1 mX5_readSum := ⟨zy_mem (zy_t3 (List.mem_of_getElem? (i := 130) (by decide +kernel))) rfl, zy_mem (zy_t1 (List.mem_of_getElem? (i := 11) (by decide +kernel))) rfl, by decide +kernel, by decide +kernel⟩
theorem zr_5_164 : zy_mr 5 164 = (0, 5, 1, mX5_readSum) := rfl
theorem zv_5_164 : zy_mv 5 164 := ⟨zc_X5_readSum, ⟨TX5, 11, rfl⟩, zy_mem (zy_t3 (List.mem_of_getElem? (i := 127) (by decide +kernel))) rfl, zy_mem (zy_t3 (List.mem_of_getElem? (i := 129) (by decide +kernel))) rfl, zy_mem (List.mem_append_left _ (List.mem_map.mpr ⟨(yX5_readSum, 11), List.mem_of_getElem? (i := 6) (by decide +kernel), rfl⟩)) rfl⟩
theorem zc_X5_readProduct : zy_mc 1 mX5_readProduct := ⟨zy_mem (zy_t3 (List.mem_of_getElem? (i := 134) (by decide +kernel))) rfl, zy_mem (zy_t1 (List.mem_of_getElem? (i := 11) (by decide +kernel))) rfl, by decide +kernel, by decide +kernel⟩
theorem zr_5_198 : zy_mr 5 198 = (0, 5, 1, mX5_readProduct) := rfl
theorem zv_5_198 : zy_mv 5 198 := ⟨zc_X5_readProduct, ⟨TX5, 11, rfl⟩, zy_mem (zy_t3 (List.mem_of_getElem? (i := 131) (by decide +kernel))) rfl, zy_mem (zy_t3 (List.mem_of_getElem? (i := 133) (by decide +kernel))) rfl, zy_mem (List.mem_append_left _ (List.mem_map.mpr ⟨(yX5_readProduct, 11), List.mem_of_getElem? (i := 7) (by decide +kernel), rfl⟩)) rfl⟩
theorem zc_X5_readOne : zy_mc 1 mX5_readOne := ⟨zy_mem (zy_t3 (List.mem_of_getElem? (i := 138) (by decide +kernel))) rfl, zy_mem (zy_t1 (List.mem_of_getElem? (i := 11) (by decide +kernel))) rfl, by decide +kernel, by decide +kernel⟩
theorem zr_5_213 : zy_mr 5 213 = (0, 5, 1, mX5_readOne) := rfl
theorem zv_5_213 : zy_mv 5 213 := ⟨zc_X5_readOne, ⟨TX5, 11, rfl⟩, zy_mem (zy_t3 (List.mem_of_getElem? (i := 135) (by decide +kernel))) rfl, zy_mem (zy_t3 (List.mem_of_getElem? (i := 137) (by decide +kernel))) rfl, zy_mem (List.mem_append_left _ (List.mem_map.mpr ⟨(yX5_readOne, 11), List.mem_of_getElem? (i := 8) (by decide +kernel), rfl⟩)) rfl⟩
theorem zc_X5_readNumber : zy_mc 2 mX5_readNumber := ⟨zy_mem (zy_t3 (List.mem_of_getElem? (i := 142) (by decide +kernel))) rfl, zy_mem (zy_t1 (List.mem_of_getElem? (i := 11) (by decide +kernel))) rfl, by decide +kernel, by decide +kernel⟩
theorem zr_5_186 : zy_mr 5 186 = (0, 5, 2, mX5_readNumber) := rfl
theorem zv_5_186 : zy_mv 5 186 := ⟨zc_X5_readNumber, ⟨TX5, 11, rfl⟩, zy_mem (zy_t3 (List.mem_of_getElem? (i := 139) (by decide +kernel))) rfl, zy_mem (zy_t3 (List.mem_of_getElem? (i := 141) (by decide +kernel))) rfl, zy_mem (List.mem_append_left _ (List.mem_map.mpr ⟨(yX5_readNumber, 11), List.mem_of_getElem? (i := 9) (by decide +kernel), rfl⟩)) rfl⟩
theorem zc_X11_within : zy_mc 3 mX11_within := ⟨zy_mem (zy_t2 (List.mem_of_getElem? (i := 224) (by decide +kernel))) rfl, zy_mem (zy_t1 (List.mem_of_getElem? (i := 1) (by decide +kernel))) rfl, by decide +kernel, by decide +kernel⟩
theorem zr_5_128 : zy_mr 5 128 = (2, 11, 3, mX11_within) := rfl
theorem zv_5_128 : zy_ms 5 128 := ⟨zc_X11_within, zy_mem (zy_t2 (List.mem_of_getElem? (i := 223) (by decide +kernel))) rfl, Or.inr ⟨Or.inr ⟨rfl, rfl⟩, rfl⟩⟩
theorem zc_X1_put : zy_mc 2 mX1_put := ⟨zy_mem (zy_t3 (List.mem_of_getElem? (i := 147) (by decide +kernel))) rfl, zy_mem (zy_t1 (List.mem_of_getElem? (i := 6) (by decide +kernel))) rfl, by decide +kernel, by decide +kernel⟩
theorem zr_5_210 : zy_mr 5 210 = (0, 1, 2, mX1_put) := rfl
theorem zv_5_210 : zy_mv 5 210 := ⟨zc_X1_put, ⟨TX1, 10, rfl⟩, zy_mem (zy_t3 (List.mem_of_getElem? (i := 144) (by decide +kernel))) rfl, zy_mem (zy_t3 (List.mem_of_getElem? (i := 145) (by decide +kernel))) rfl, zy_mem (zy_t3 (List.mem_of_getElem? (i := 146) (by decide +kernel))) rfl⟩
theorem zc_X5_readName : zy_mc 0 mX5_readName := ⟨zy_mem (zy_t3 (List.mem_of_getElem? (i := 151) (by decide +kernel))) rfl, zy_mem (zy_t1 (List.mem_of_getElem? (i := 11) (by decide +kernel))) rfl, by decide +kernel, by decide +kernel⟩
theorem zr_5_225 : zy_mr 5 225 = (0, 5, 0, mX5_readName) := rfl
theorem zv_5_225 : zy_mv 5 225 := ⟨zc_X5_readName, ⟨TX5, 11, rfl⟩, zy_mem (zy_t3 (List.mem_of_getElem? (i := 148) (by decide +kernel))) rfl, zy_mem (zy_t3 (List.mem_of_getElem? (i := 150) (by decide +kernel))) rfl, zy_mem (List.mem_append_left _ (List.mem_map.mpr ⟨(yX5_readName, 11), List.mem_of_getElem? (i := 10) (by decide +kernel), rfl⟩)) rfl⟩
theorem zc_X5_readOpening : zy_mc 1 mX5_readOpening := ⟨zy_mem (zy_t3 (List.mem_of_getElem? (i := 165) (by decide +kernel))) rfl, zy_mem (zy_t1 (List.mem_of_getElem? (i := 11) (by decide +kernel))) rfl, by decide +kernel, by decide +kernel⟩
theorem zr_5_240 : zy_mr 5 240 = (0, 5, 1, mX5_readOpening) := rfl
theorem zv_5_240 : zy_mv 5 240 := ⟨zc_X5_readOpening, ⟨TX5, 11, rfl⟩, zy_mem (zy_t3 (List.mem_of_getElem? (i := 162) (by decide +kernel))) rfl, zy_mem (zy_t3 (List.mem_of_getElem? (i := 164) (by decide +kernel))) rfl, zy_mem (List.mem_append_left _ (List.mem_map.mpr ⟨(yX5_readOpening, 11), List.mem_of_getElem? (i := 11) (by decide +kernel), rfl⟩)) rfl⟩
theorem zc_X5_expect : zy_mc 1 mX5_expect := ⟨zy_mem (zy_t3 (List.mem_of_getElem? (i := 171) (by decide +kernel))) rfl, zy_mem (zy_t1 (List.mem_of_getElem? (i := 11) (by decide +kernel))) rfl, by decide +kernel, by decide +kernel⟩
theorem zr_5_154 : zy_mr 5 154 = (0, 5, 1, mX5_expect) := rfl
theorem zv_5_154 : zy_mv 5 154 := ⟨zc_X5_expect, ⟨TX5, 11, rfl⟩, zy_mem (zy_t3 (List.mem_of_getElem? (i := 168) (by decide +kernel))) rfl, zy_mem (zy_t3 (List.mem_of_getElem? (i := 170) (by decide +kernel))) rfl, zy_mem (List.mem_append_left _ (List.mem_map.mpr ⟨(yX5_expect, 11), List.mem_of_getElem? (i := 12) (by decide +kernel), rfl⟩)) rfl⟩
theorem zc_X5_readChoice : zy_mc 1 mX5_readChoice := ⟨zy_mem (zy_t3 (List.mem_of_getElem? (i := 177) (by decide +kernel))) rfl, zy_mem (zy_t1 (List.mem_of_getElem? (i := 11) (by decide +kernel))) rfl, by decide +kernel, by decide +kernel⟩
theorem zr_5_249 : zy_mr 5 249 = (0, 5, 1, mX5_readChoice) := rfl
theorem zv_5_249 : zy_mv 5 249 := ⟨zc_X5_readChoice, ⟨TX5, 11, rfl⟩, zy_mem (zy_t3 (List.mem_of_getElem? (i := 174) (by decide +kernel))) rfl, zy_mem (zy_t3 (List.mem_of_getElem? (i := 176) (by decide +kernel))) rfl, zy_mem (List.mem_append_left _ (List.mem_map.mpr ⟨(yX5_readChoice, 11), List.mem_of_getElem? (i := 13) (by decide +kernel), rfl⟩)) rfl⟩
theorem zc_X5_readEither : zy_mc 1 mX5_readEither := ⟨zy_mem (zy_t3 (List.mem_of_getElem? (i := 181) (by decide +kernel))) rfl, zy_mem (zy_t1 (List.mem_of_getElem? (i := 11) (by decide +kernel))) rfl, by decide +kernel, by decide +kernel⟩
theorem zr_5_252 : zy_mr 5 252 = (0, 5, 1, mX5_readEither) := rfl
theorem zv_5_252 : zy_mv 5 252 := ⟨zc_X5_readEither, ⟨TX5, 11, rfl⟩, zy_mem (zy_t3 (List.mem_of_getElem? (i := 178) (by decide +kernel))) rfl, zy_mem (zy_t3 (List.mem_of_getElem? (i := 180) (by decide +kernel))) rfl, zy_mem (List.mem_append_left _ (List.mem_map.mpr ⟨(yX5_readEither, 11), List.mem_of_getElem? (i := 14) (by decide +kernel), rfl⟩)) rfl⟩
theorem zc_X5_readBoth : zy_mc 1 mX5_readBoth := ⟨zy_mem (zy_t3 (List.mem_of_getElem? (i := 185) (by decide +kernel))) rfl, zy_mem (zy_t1 (List.mem_of_getElem? (i := 11) (by decide +kernel))) rfl, by decide +kernel, by decide +kernel⟩
theorem zr_5_267 : zy_mr 5 267 = (0, 5, 1, mX5_readBoth) := rfl
theorem zv_5_267 : zy_mv 5 267 := ⟨zc_X5_readBoth, ⟨TX5, 11, rfl⟩, zy_mem (zy_t3 (List.mem_of_getElem? (i := 182) (by decide +kernel))) rfl, zy_mem (zy_t3 (List.mem_of_getElem? (i := 184) (by decide +kernel))) rfl, zy_mem (List.mem_append_left _ (List.mem_map.mpr ⟨(yX5_readBoth, 11), List.mem_of_getElem? (i := 15) (by decide +kernel), rfl⟩)) rfl⟩
theorem zc_X5_readAsk : zy_mc 1 mX5_readAsk := ⟨zy_mem (zy_t3 (List.mem_of_getElem? (i := 189) (by decide +kernel))) rfl, zy_mem (zy_t1 (List.mem_of_getElem? (i := 11) (by decide +kernel))) rfl, by decide +kernel, by decide +kernel⟩
theorem zr_5_273 : zy_mr 5 273 = (0, 5, 1, mX5_readAsk) := rfl
theorem zv_5_273 : zy_mv 5 273 := ⟨zc_X5_readAsk, ⟨TX5, 11, rfl⟩, zy_mem (zy_t3 (List.mem_of_getElem? (i := 186) (by decide +kernel))) rfl, zy_mem (zy_t3 (List.mem_of_getElem? (i := 188) (by decide +kernel))) rfl, zy_mem (List.mem_append_left _ (List.mem_map.mpr ⟨(yX5_readAsk, 11), List.mem_of_getElem? (i := 16) (by decide +kernel), rfl⟩)) rfl⟩
theorem zc_X5_readComparison : zy_mc 1 mX5_readComparison := ⟨zy_mem (zy_t3 (List.mem_of_getElem? (i := 195) (by decide +kernel))) rfl, zy_mem (zy_t1 (List.mem_of_getElem? (i := 11) (by decide +kernel))) rfl, by decide +kernel, by decide +kernel⟩
theorem zr_5_282 : zy_mr 5 282 = (0, 5, 1, mX5_readComparison) := rfl
theorem zv_5_282 : zy_mv 5 282 := ⟨zc_X5_readComparison, ⟨TX5, 11, rfl⟩, zy_mem (zy_t3 (List.mem_of_getElem? (i := 192) (by decide +kernel))) rfl, zy_mem (zy_t3 (List.mem_of_getElem? (i := 194) (by decide +kernel))) rfl, zy_mem (List.mem_append_left _ (List.mem_map.mpr ⟨(yX5_readComparison, 11), List.mem_of_getElem? (i := 17) (by decide +kernel), rfl⟩)) rfl⟩
theorem zc_X1_leadHere : zy_mc 1 mX1_leadHere := ⟨zy_mem (zy_t3 (List.mem_of_getElem? (i := 207) (by decide +kernel))) rfl, zy_mem (zy_t1 (List.mem_of_getElem? (i := 6) (by decide +kernel))) rfl, by decide +kernel, by decide +kernel⟩
theorem zr_5_261 : zy_mr 5 261 = (0, 1, 1, mX1_leadHere) := rfl
theorem zv_5_261 : zy_mv 5 261 := ⟨zc_X1_leadHere, ⟨TX1, 10, rfl⟩, zy_mem (zy_t3 (List.mem_of_getElem? (i := 204) (by decide +kernel))) rfl, zy_mem (zy_t3 (List.mem_of_getElem? (i := 205) (by decide +kernel))) rfl, zy_mem (zy_t3 (List.mem_of_getElem? (i := 206) (by decide +kernel))) rfl⟩
theorem zc_X5_readAction : zy_mc 1 mX5_readAction := ⟨zy_mem (zy_t3 (List.mem_of_getElem? (i := 219) (by decide +kernel))) rfl, zy_mem (zy_t1 (List.mem_of_getElem? (i := 11) (by decide +kernel))) rfl, by decide +kernel, by decide +kernel⟩
theorem zr_5_148 : zy_mr 5 148 = (0, 5, 1, mX5_readAction) := rfl
theorem zv_5_148 : zy_mv 5 148 := ⟨zc_X5_readAction, ⟨TX5, 11, rfl⟩, zy_mem (zy_t3 (List.mem_of_getElem? (i := 216) (by decide +kernel))) rfl, zy_mem (zy_t3 (List.mem_of_getElem? (i := 218) (by decide +kernel))) rfl, zy_mem (List.mem_append_left _ (List.mem_map.mpr ⟨(yX5_readAction, 11), List.mem_of_getElem? (i := 18) (by decide +kernel), rfl⟩)) rfl⟩
theorem zc_X5_readPair : zy_mc 4 mX5_readPair := ⟨zy_mem (zy_t3 (List.mem_of_getElem? (i := 225) (by decide +kernel))) rfl, zy_mem (zy_t1 (List.mem_of_getElem? (i := 11) (by decide +kernel))) rfl, by decide +kernel, by decide +kernel⟩
theorem zr_5_173 : zy_mr 5 173 = (0, 5, 4, mX5_readPair) := rfl
theorem zv_5_173 : zy_mv 5 173 := ⟨zc_X5_readPair, ⟨TX5, 11, rfl⟩, zy_mem (zy_t3 (List.mem_of_getElem? (i := 222) (by decide +kernel))) rfl, zy_mem (zy_t3 (List.mem_of_getElem? (i := 224) (by decide +kernel))) rfl, zy_mem (List.mem_append_left _ (List.mem_map.mpr ⟨(yX5_readPair, 11), List.mem_of_getElem? (i := 19) (by decide +kernel), rfl⟩)) rfl⟩
theorem zc_X10_copy : zy_mc 1 mX10_copy := ⟨zy_mem (zy_t4 (List.mem_of_getElem? (i := 25) (by decide +kernel))) rfl, zy_mem (zy_t1 (List.mem_of_getElem? (i := 4) (by decide +kernel))) rfl, by decide +kernel, by decide +kernel⟩
theorem zr_6_69 : zy_mr 6 69 = (0, 10, 1, mX10_copy) := rfl
theorem zv_6_69 : zy_mv 6 69 := ⟨zc_X10_copy, ⟨TX10, 13, rfl⟩, zy_mem (zy_t4 (List.mem_of_getElem? (i := 22) (by decide +kernel))) rfl, zy_mem (zy_t4 (List.mem_of_getElem? (i := 23) (by decide +kernel))) rfl, zy_mem (zy_t4 (List.mem_of_getElem? (i := 24) (by decide +kernel))) rfl⟩
theorem zr_6_73 : zy_mr 6 73 = (4, 0, 2, mX12_isIn) := rfl
theorem zn_6_73 : zy_mn 6 73 := ⟨zy_mem (zy_t4 (List.mem_of_getElem? (i := 29) (by decide +kernel))) rfl, zy_mem (zy_t3 (List.mem_of_getElem? (i := 19) (by decide +kernel))) rfl, zy_mem (zy_t1 (List.mem_of_getElem? (i := 15) (by decide +kernel))) rfl, zy_mem (zy_t3 (List.mem_of_getElem? (i := 20) (by decide +kernel))) rfl⟩
theorem zr_6_79 : zy_mr 6 79 = (2, 11, 3, mX11_within) := rfl
theorem zv_6_79 : zy_ms 6 79 := ⟨zc_X11_within, zy_mem (zy_t2 (List.mem_of_getElem? (i := 223) (by decide +kernel))) rfl, Or.inr ⟨Or.inl ⟨rfl, rfl⟩, rfl⟩⟩
theorem zc_X7_copy : zy_mc 1 mX7_copy := ⟨zy_mem (zy_t5 (List.mem_of_getElem? (i := 214) (by decide +kernel))) rfl, zy_mem (zy_t1 (List.mem_of_getElem? (i := 3) (by decide +kernel))) rfl, by decide +kernel, by decide +kernel⟩
theorem zr_6_83 : zy_mr 6 83 = (0, 7, 1, mX7_copy) := rfl
theorem zv_6_83 : zy_mv 6 83 := ⟨zc_X7_copy, ⟨TX7, 6, rfl⟩, zy_mem (zy_t5 (List.mem_of_getElem? (i := 211) (by decide +kernel))) rfl, zy_mem (zy_t5 (List.mem_of_getElem? (i := 212) (by decide +kernel))) rfl, zy_mem (zy_t5 (List.mem_of_getElem? (i := 213) (by decide +kernel))) rfl⟩
theorem zc_X1_copy : zy_mc 1 mX1_copy := ⟨zy_mem (zy_t5 (List.mem_of_getElem? (i := 219) (by decide +kernel))) rfl, zy_mem (zy_t1 (List.mem_of_getElem? (i := 6) (by decide +kernel))) rfl, by decide +kernel, by decide +kernel⟩
theorem zr_6_86 : zy_mr 6 86 = (0, 1, 1, mX1_copy) := rfl
theorem zv_6_86 : zy_mv 6 86 := ⟨zc_X1_copy, ⟨TX1, 10, rfl⟩, zy_mem (zy_t5 (List.mem_of_getElem? (i := 216) (by decide +kernel))) rfl, zy_mem (zy_t5 (List.mem_of_getElem? (i := 217) (by decide +kernel))) rfl, zy_mem (zy_t5 (List.mem_of_getElem? (i := 218) (by decide +kernel))) rfl⟩
theorem zc_X4_copy : zy_mc 1 mX4_copy := ⟨zy_mem (zy_t5 (List.mem_of_getElem? (i := 224) (by decide +kernel))) rfl, zy_mem (zy_t1 (List.mem_of_getElem? (i := 5) (by decide +kernel))) rfl, by decide +kernel, by decide +kernel⟩
theorem zr_6_89 : zy_mr 6 89 = (0, 4, 1, mX4_copy) := rfl
theorem zv_6_89 : zy_mv 6 89 := ⟨zc_X4_copy, ⟨TX4, 4, rfl⟩, zy_mem (zy_t5 (List.mem_of_getElem? (i := 221) (by decide +kernel))) rfl, zy_mem (zy_t5 (List.mem_of_getElem? (i := 222) (by decide +kernel))) rfl, zy_mem (zy_t5 (List.mem_of_getElem? (i := 223) (by decide +kernel))) rfl⟩
theorem zr_6_92 : zy_mr 6 92 = (6, 0, 5, mX12_isIn) := rfl
theorem zn_6_92 : zy_mn 6 92 := ⟨zy_mem (zy_t5 (List.mem_of_getElem? (i := 226) (by decide +kernel))) rfl, zy_mem (zy_t4 (List.mem_of_getElem? (i := 28) (by decide +kernel))) rfl, zy_mem (zy_t4 (List.mem_of_getElem? (i := 27) (by decide +kernel))) rfl, zy_mem (zy_t1 (List.mem_of_getElem? (i := 21) (by decide +kernel))) rfl⟩
theorem zr_7_37 : zy_mr 7 37 = (0, 7, 1, mX7_has) := rfl
theorem zv_7_37 : zy_mv 7 37 := ⟨zc_X7_has, ⟨TX7, 6, rfl⟩, zy_mem (zy_t2 (List.mem_of_getElem? (i := 229) (by decide +kernel))) rfl, zy_mem (zy_t2 (List.mem_of_getElem? (i := 219) (by decide +kernel))) rfl, zy_mem (zy_t2 (List.mem_of_getElem? (i := 220) (by decide +kernel))) rfl⟩
theorem zc_X7_isAboveOrSame : zy_mc 2 mX7_isAboveOrSame := ⟨zy_mem (zy_t4 (List.mem_of_getElem? (i := 17) (by decide +kernel))) rfl, zy_mem (zy_t1 (List.mem_of_getElem? (i := 3) (by decide +kernel))) rfl, by decide +kernel, by decide +kernel⟩
theorem zr_7_41 : zy_mr 7 41 = (0, 7, 2, mX7_isAboveOrSame) := rfl
theorem zv_7_41 : zy_mv 7 41 := ⟨zc_X7_isAboveOrSame, ⟨TX7, 6, rfl⟩, zy_mem (zy_t4 (List.mem_of_getElem? (i := 14) (by decide +kernel))) rfl, zy_mem (zy_t4 (List.mem_of_getElem? (i := 16) (by decide +kernel))) rfl, zy_mem (List.mem_append_left _ (List.mem_map.mpr ⟨(yX7_isAboveOrSame, 6), List.mem_of_getElem? (i := 21) (by decide +kernel), rfl⟩)) rfl⟩
theorem zc_X7_meeting : zy_mc 2 mX7_meeting := ⟨zy_mem (zy_t4 (List.mem_of_getElem? (i := 229) (by decide +kernel))) rfl, zy_mem (zy_t1 (List.mem_of_getElem? (i := 3) (by decide +kernel))) rfl, by decide +kernel, by decide +kernel⟩
theorem zr_7_45 : zy_mr 7 45 = (0, 7, 2, mX7_meeting) := rfl
theorem zv_7_45 : zy_mv 7 45 := ⟨zc_X7_meeting, ⟨TX7, 6, rfl⟩, zy_mem (zy_t4 (List.mem_of_getElem? (i := 238) (by decide +kernel))) rfl, zy_mem (zy_t4 (List.mem_of_getElem? (i := 227) (by decide +kernel))) rfl, zy_mem (zy_t4 (List.mem_of_getElem? (i := 228) (by decide +kernel))) rfl⟩
theorem zr_7_31 : zy_mr 7 31 = (6, 0, 5, mX12_isIn) := rfl
theorem zn_7_31 : zy_mn 7 31 := ⟨zy_mem (zy_t5 (List.mem_of_getElem? (i := 215) (by decide +kernel))) rfl, zy_mem (zy_t4 (List.mem_of_getElem? (i := 28) (by decide +kernel))) rfl, zy_mem (zy_t4 (List.mem_of_getElem? (i := 27) (by decide +kernel))) rfl, zy_mem (zy_t1 (List.mem_of_getElem? (i := 21) (by decide +kernel))) rfl⟩
theorem zc_X8_measure : zy_mc 0 mX8_measure := ⟨zy_mem (zy_t5 (List.mem_of_getElem? (i := 81) (by decide +kernel))) rfl, zy_mem (zy_t1 (List.mem_of_getElem? (i := 9) (by decide +kernel))) rfl, by decide +kernel, by decide +kernel⟩
theorem zr_8_43 : zy_mr 8 43 = (0, 8, 0, mX8_measure) := rfl
theorem zv_8_43 : zy_mv 8 43 := ⟨zc_X8_measure, ⟨TX8, 5, rfl⟩, zy_mem (zy_t5 (List.mem_of_getElem? (i := 78) (by decide +kernel))) rfl, zy_mem (zy_t5 (List.mem_of_getElem? (i := 80) (by decide +kernel))) rfl, zy_mem (List.mem_append_left _ (List.mem_map.mpr ⟨(yX8_measure, 5), List.mem_of_getElem? (i := 41) (by decide +kernel), rfl⟩)) rfl⟩
theorem zr_8_28 : zy_mr 8 28 = (1, 99, 2, mJ7_fill_53178) := rfl
theorem zv_8_28 : zy_ms 8 28 := ⟨zc_J7_fill_53178, zy_mem (zy_t3 (List.mem_of_getElem? (i := 105) (by decide +kernel))) rfl, Or.inl (zy_mem (zy_t5 (List.mem_of_getElem? (i := 82) (by decide +kernel))) rfl)⟩
theorem zc_X8_proudest : zy_mc 1 mX8_proudest := ⟨zy_mem (zy_t5 (List.mem_of_getElem? (i := 94) (by decide +kernel))) rfl, zy_mem (zy_t1 (List.mem_of_getElem? (i := 9) (by decide +kernel))) rfl, by decide +kernel, by decide +kernel⟩
theorem zr_8_46 : zy_mr 8 46 = (0, 8, 1, mX8_proudest) := rfl
theorem zv_8_46 : zy_mv 8 46 := ⟨zc_X8_proudest, ⟨TX8, 5, rfl⟩, zy_mem (zy_t5 (List.mem_of_getElem? (i := 91) (by decide +kernel))) rfl, zy_mem (zy_t5 (List.mem_of_getElem? (i := 93) (by decide +kernel))) rfl, zy_mem (List.mem_append_left _ (List.mem_map.mpr ⟨(yX8_proudest, 5), List.mem_of_getElem? (i := 42) (by decide +kernel), rfl⟩)) rfl⟩
theorem zr_8_56 : zy_mr 8 56 = (3, 0, 2, mX12_isIn) := rfl
theorem zn_8_56 : zy_mn 8 56 := ⟨zy_mem (zy_t5 (List.mem_of_getElem? (i := 107) (by decide +kernel))) rfl, zy_mem (zy_t3 (List.mem_of_getElem? (i := 98) (by decide +kernel))) rfl, zy_mem (zy_t1 (List.mem_of_getElem? (i := 15) (by decide +kernel))) rfl, zy_mem (zy_t3 (List.mem_of_getElem? (i := 99) (by decide +kernel))) rfl⟩
theorem zc_X7_distance : zy_mc 2 mX7_distance := ⟨zy_mem (zy_t4 (List.mem_of_getElem? (i := 237) (by decide +kernel))) rfl, zy_mem (zy_t1 (List.mem_of_getElem? (i := 3) (by decide +kernel))) rfl, by decide +kernel, by decide +kernel⟩
theorem zr_8_66 : zy_mr 8 66 = (0, 7, 2, mX7_distance) := rfl
theorem zv_8_66 : zy_mv 8 66 := ⟨zc_X7_distance, ⟨TX7, 6, rfl⟩, zy_mem (zy_t5 (List.mem_of_getElem? (i := 121) (by decide +kernel))) rfl, zy_mem (zy_t4 (List.mem_of_getElem? (i := 235) (by decide +kernel))) rfl, zy_mem (zy_t4 (List.mem_of_getElem? (i := 236) (by decide +kernel))) rfl⟩
theorem zc_X8_farthestFrom : zy_mc 1 mX8_farthestFrom := ⟨zy_mem (zy_t5 (List.mem_of_getElem? (i := 133) (by decide +kernel))) rfl, zy_mem (zy_t1 (List.mem_of_getElem? (i := 9) (by decide +kernel))) rfl, by decide +kernel, by decide +kernel⟩
theorem zr_8_69 : zy_mr 8 69 = (0, 8, 1, mX8_farthestFrom) := rfl
theorem zv_8_69 : zy_mv 8 69 := ⟨zc_X8_farthestFrom, ⟨TX8, 5, rfl⟩, zy_mem (zy_t5 (List.mem_of_getElem? (i := 130) (by decide +kernel))) rfl, zy_mem (zy_t5 (List.mem_of_getElem? (i := 132) (by decide +kernel))) rfl, zy_mem (List.mem_append_left _ (List.mem_map.mpr ⟨(yX8_farthestFrom, 5), List.mem_of_getElem? (i := 43) (by decide +kernel), rfl⟩)) rfl⟩
theorem zr_8_63 : zy_mr 8 63 = (4, 0, 2, mX12_isIn) := rfl
theorem zn_8_63 : zy_mn 8 63 := ⟨zy_mem (zy_t5 (List.mem_of_getElem? (i := 154) (by decide +kernel))) rfl, zy_mem (zy_t3 (List.mem_of_getElem? (i := 19) (by decide +kernel))) rfl, zy_mem (zy_t1 (List.mem_of_getElem? (i := 15) (by decide +kernel))) rfl, zy_mem (zy_t3 (List.mem_of_getElem? (i := 20) (by decide +kernel))) rfl⟩
theorem zr_10_52 : zy_mr 10 52 = (6, 0, 5, mX12_isIn) := rfl
theorem zn_10_52 : zy_mn 10 52 := ⟨zy_mem (zy_t4 (List.mem_of_getElem? (i := 26) (by decide +kernel))) rfl, zy_mem (zy_t4 (List.mem_of_getElem? (i := 28) (by decide +kernel))) rfl, zy_mem (zy_t4 (List.mem_of_getElem? (i := 27) (by decide +kernel))) rfl, zy_mem (zy_t1 (List.mem_of_getElem? (i := 21) (by decide +kernel))) rfl⟩
theorem zc_X10_isWaiting : zy_mc 1 mX10_isWaiting := ⟨zy_mem (zy_t4 (List.mem_of_getElem? (i := 53) (by decide +kernel))) rfl, zy_mem (zy_t1 (List.mem_of_getElem? (i := 4) (by decide +kernel))) rfl, by decide +kernel, by decide +kernel⟩
theorem zr_10_58 : zy_mr 10 58 = (0, 10, 1, mX10_isWaiting) := rfl
theorem zv_10_58 : zy_mv 10 58 := ⟨zc_X10_isWaiting, ⟨TX10, 13, rfl⟩, zy_mem (zy_t4 (List.mem_of_getElem? (i := 75) (by decide +kernel))) rfl, zy_mem (zy_t4 (List.mem_of_getElem? (i := 51) (by decide +kernel))) rfl, zy_mem (zy_t4 (List.mem_of_getElem? (i := 52) (by decide +kernel))) rfl⟩
theorem zr_11_82 : zy_mr 11 82 = (0, 7, 1, mX7_has) := rfl
theorem zv_11_82 : zy_mv 11 82 := ⟨zc_X7_has, ⟨TX7, 6, rfl⟩, zy_mem (zy_t2 (List.mem_of_getElem? (i := 218) (by decide +kernel))) rfl, zy_mem (zy_t2 (List.mem_of_getElem? (i := 219) (by decide +kernel))) rfl, zy_mem (zy_t2 (List.mem_of_getElem? (i := 220) (by decide +kernel))) rfl⟩
theorem zr_11_86 : zy_mr 11 86 = (1, 11, 3, mX11_within) := rfl
theorem zv_11_86 : zy_ms 11 86 := ⟨zc_X11_within, zy_mem (zy_t2 (List.mem_of_getElem? (i := 223) (by decide +kernel))) rfl, Or.inl (zy_mem (zy_t2 (List.mem_of_getElem? (i := 222) (by decide +kernel))) rfl)⟩
theorem zc_X7_tell : zy_mc 2 mX7_tell := ⟨zy_mem (zy_t2 (List.mem_of_getElem? (i := 228) (by decide +kernel))) rfl, zy_mem (zy_t1 (List.mem_of_getElem? (i := 3) (by decide +kernel))) rfl, by decide +kernel, by decide +kernel⟩
theorem zr_11_90 : zy_mr 11 90 = (0, 7, 2, mX7_tell) := rfl
theorem zv_11_90 : zy_mv 11 90 := ⟨zc_X7_tell, ⟨TX7, 6, rfl⟩, zy_mem (zy_t2 (List.mem_of_getElem? (i := 225) (by decide +kernel))) rfl, zy_mem (zy_t2 (List.mem_of_getElem? (i := 226) (by decide +kernel))) rfl, zy_mem (zy_t2 (List.mem_of_getElem? (i := 227) (by decide +kernel))) rfl⟩
theorem zr_11_94 : zy_mr 11 94 = (0, 7, 2, mX7_areCousins) := rfl
theorem zv_11_94 : zy_mv 11 94 := ⟨zc_X7_areCousins, ⟨TX7, 6, rfl⟩, zy_mem (zy_t2 (List.mem_of_getElem? (i := 234) (by decide +kernel))) rfl, zy_mem (zy_t2 (List.mem_of_getElem? (i := 235) (by decide +kernel))) rfl, zy_mem (zy_t2 (List.mem_of_getElem? (i := 236) (by decide +kernel))) rfl⟩
theorem zc_X11_tapeFour : zy_mc 1 mX11_tapeFour := ⟨zy_mem (zy_t3 (List.mem_of_getElem? (i := 5) (by decide +kernel))) rfl, zy_mem (zy_t1 (List.mem_of_getElem? (i := 1) (by decide +kernel))) rfl, by decide +kernel, by decide +kernel⟩
theorem zr_11_102 : zy_mr 11 102 = (0, 11, 1, mX11_tapeFour) := rfl
theorem zv_11_102 : zy_mv 11 102 := ⟨zc_X11_tapeFour, ⟨TX11, 10, rfl⟩, zy_mem (zy_t3 (List.mem_of_getElem? (i := 2) (by decide +kernel))) rfl, zy_mem (zy_t3 (List.mem_of_getElem? (i := 4) (by decide +kernel))) rfl, zy_mem (List.mem_append_left _ (List.mem_map.mpr ⟨(yX11_tapeFour, 10), List.mem_of_getElem? (i := 0) (by decide +kernel), rfl⟩)) rfl⟩
theorem zc_X5_read : zy_mc 3 mX5_read := ⟨zy_mem (zy_t3 (List.mem_of_getElem? (i := 17) (by decide +kernel))) rfl, zy_mem (zy_t1 (List.mem_of_getElem? (i := 11) (by decide +kernel))) rfl, by decide +kernel, by decide +kernel⟩
theorem zr_11_113 : zy_mr 11 113 = (0, 5, 3, mX5_read) := rfl
theorem zv_11_113 : zy_mv 11 113 := ⟨zc_X5_read, ⟨TX5, 11, rfl⟩, zy_mem (zy_t3 (List.mem_of_getElem? (i := 14) (by decide +kernel))) rfl, zy_mem (zy_t3 (List.mem_of_getElem? (i := 15) (by decide +kernel))) rfl, zy_mem (zy_t3 (List.mem_of_getElem? (i := 16) (by decide +kernel))) rfl⟩
theorem zc_X11_canWrong : zy_mc 2 mX11_canWrong := ⟨zy_mem (zy_t4 (List.mem_of_getElem? (i := 9) (by decide +kernel))) rfl, zy_mem (zy_t1 (List.mem_of_getElem? (i := 1) (by decide +kernel))) rfl, by decide +kernel, by decide +kernel⟩
theorem zr_11_130 : zy_mr 11 130 = (0, 11, 2, mX11_canWrong) := rfl
theorem zv_11_130 : zy_mv 11 130 := ⟨zc_X11_canWrong, ⟨TX11, 10, rfl⟩, zy_mem (zy_t4 (List.mem_of_getElem? (i := 6) (by decide +kernel))) rfl, zy_mem (zy_t4 (List.mem_of_getElem? (i := 8) (by decide +kernel))) rfl, zy_mem (List.mem_append_left _ (List.mem_map.mpr ⟨(yX11_canWrong, 10), List.mem_of_getElem? (i := 20) (by decide +kernel), rfl⟩)) rfl⟩
theorem zc_X7_isAbove : zy_mc 2 mX7_isAbove := ⟨zy_mem (zy_t4 (List.mem_of_getElem? (i := 13) (by decide +kernel))) rfl, zy_mem (zy_t1 (List.mem_of_getElem? (i := 3) (by decide +kernel))) rfl, by decide +kernel, by decide +kernel⟩
theorem zr_11_143 : zy_mr 11 143 = (0, 7, 2, mX7_isAbove) := rfl
theorem zv_11_143 : zy_mv 11 143 := ⟨zc_X7_isAbove, ⟨TX7, 6, rfl⟩, zy_mem (zy_t4 (List.mem_of_getElem? (i := 10) (by decide +kernel))) rfl, zy_mem (zy_t4 (List.mem_of_getElem? (i := 11) (by decide +kernel))) rfl, zy_mem (zy_t4 (List.mem_of_getElem? (i := 12) (by decide +kernel))) rfl⟩
theorem zc_X6_keep : zy_mc 0 mX6_keep := ⟨zy_mem (zy_t4 (List.mem_of_getElem? (i := 21) (by decide +kernel))) rfl, zy_mem (zy_t1 (List.mem_of_getElem? (i := 2) (by decide +kernel))) rfl, by decide +kernel, by decide +kernel⟩
theorem zr_11_133 : zy_mr 11 133 = (0, 6, 0, mX6_keep) := rfl
theorem zv_11_133 : zy_mv 11 133 := ⟨zc_X6_keep, ⟨TX6, 13, rfl⟩, zy_mem (zy_t4 (List.mem_of_getElem? (i := 18) (by decide +kernel))) rfl, zy_mem (zy_t4 (List.mem_of_getElem? (i := 19) (by decide +kernel))) rfl, zy_mem (zy_t4 (List.mem_of_getElem? (i := 20) (by decide +kernel))) rfl⟩
theorem zc_X10_begin : zy_mc 3 mX10_begin := ⟨zy_mem (zy_t4 (List.mem_of_getElem? (i := 33) (by decide +kernel))) rfl, zy_mem (zy_t1 (List.mem_of_getElem? (i := 4) (by decide +kernel))) rfl, by decide +kernel, by decide +kernel⟩
theorem zr_11_139 : zy_mr 11 139 = (0, 10, 3, mX10_begin) := rfl
theorem zv_11_139 : zy_mv 11 139 := ⟨zc_X10_begin, ⟨TX10, 13, rfl⟩, zy_mem (zy_t4 (List.mem_of_getElem? (i := 30) (by decide +kernel))) rfl, zy_mem (zy_t4 (List.mem_of_getElem? (i := 31) (by decide +kernel))) rfl, zy_mem (zy_t4 (List.mem_of_getElem? (i := 32) (by decide +kernel))) rfl⟩
theorem zc_X10_leave : zy_mc 2 mX10_leave := ⟨zy_mem (zy_t4 (List.mem_of_getElem? (i := 41) (by decide +kernel))) rfl, zy_mem (zy_t1 (List.mem_of_getElem? (i := 4) (by decide +kernel))) rfl, by decide +kernel, by decide +kernel⟩
theorem zr_11_147 : zy_mr 11 147 = (0, 10, 2, mX10_leave) := rfl
theorem zv_11_147 : zy_mv 11 147 := ⟨zc_X10_leave, ⟨TX10, 13, rfl⟩, zy_mem (zy_t4 (List.mem_of_getElem? (i := 38) (by decide +kernel))) rfl, zy_mem (zy_t4 (List.mem_of_getElem? (i := 39) (by decide +kernel))) rfl, zy_mem (zy_t4 (List.mem_of_getElem? (i := 40) (by decide +kernel))) rfl⟩
theorem zc_X10_has : zy_mc 1 mX10_has := ⟨zy_mem (zy_t4 (List.mem_of_getElem? (i := 49) (by decide +kernel))) rfl, zy_mem (zy_t1 (List.mem_of_getElem? (i := 4) (by decide +kernel))) rfl, by decide +kernel, by decide +kernel⟩
theorem zr_11_151 : zy_mr 11 151 = (0, 10, 1, mX10_has) := rfl
theorem zv_11_151 : zy_mv 11 151 := ⟨zc_X10_has, ⟨TX10, 13, rfl⟩, zy_mem (zy_t4 (List.mem_of_getElem? (i := 46) (by decide +kernel))) rfl, zy_mem (zy_t4 (List.mem_of_getElem? (i := 47) (by decide +kernel))) rfl, zy_mem (zy_t4 (List.mem_of_getElem? (i := 48) (by decide +kernel))) rfl⟩
theorem zr_11_155 : zy_mr 11 155 = (0, 10, 1, mX10_isWaiting) := rfl
theorem zv_11_155 : zy_mv 11 155 := ⟨zc_X10_isWaiting, ⟨TX10, 13, rfl⟩, zy_mem (zy_t4 (List.mem_of_getElem? (i := 50) (by decide +kernel))) rfl, zy_mem (zy_t4 (List.mem_of_getElem? (i := 51) (by decide +kernel))) rfl, zy_mem (zy_t4 (List.mem_of_getElem? (i := 52) (by decide +kernel))) rfl⟩
theorem zc_X11_passDays : zy_mc 1 mX11_passDays := ⟨zy_mem (zy_t4 (List.mem_of_getElem? (i := 61) (by decide +kernel))) rfl, zy_mem (zy_t1 (List.mem_of_getElem? (i := 1) (by decide +kernel))) rfl, by decide +kernel, by decide +kernel⟩
theorem zr_11_170 : zy_mr 11 170 = (0, 11, 1, mX11_passDays) := rfl
theorem zv_11_170 : zy_mv 11 170 := ⟨zc_X11_passDays, ⟨TX11, 10, rfl⟩, zy_mem (zy_t4 (List.mem_of_getElem? (i := 58) (by decide +kernel))) rfl, zy_mem (zy_t4 (List.mem_of_getElem? (i := 60) (by decide +kernel))) rfl, zy_mem (List.mem_append_left _ (List.mem_map.mpr ⟨(yX11_passDays, 10), List.mem_of_getElem? (i := 22) (by decide +kernel), rfl⟩)) rfl⟩
theorem zc_X6_law : zy_mc 0 mX6_law := ⟨zy_mem (zy_t4 (List.mem_of_getElem? (i := 65) (by decide +kernel))) rfl, zy_mem (zy_t1 (List.mem_of_getElem? (i := 2) (by decide +kernel))) rfl, by decide +kernel, by decide +kernel⟩
theorem zr_11_174 : zy_mr 11 174 = (0, 6, 0, mX6_law) := rfl
theorem zv_11_174 : zy_mv 11 174 := ⟨zc_X6_law, ⟨TX6, 13, rfl⟩, zy_mem (zy_t4 (List.mem_of_getElem? (i := 62) (by decide +kernel))) rfl, zy_mem (zy_t4 (List.mem_of_getElem? (i := 63) (by decide +kernel))) rfl, zy_mem (zy_t4 (List.mem_of_getElem? (i := 64) (by decide +kernel))) rfl⟩
theorem zc_X0_pass : zy_mc 2 mX0_pass := ⟨zy_mem (zy_t4 (List.mem_of_getElem? (i := 70) (by decide +kernel))) rfl, zy_mem (zy_t1 (List.mem_of_getElem? (i := 8) (by decide +kernel))) rfl, by decide +kernel, by decide +kernel⟩
theorem zr_11_178 : zy_mr 11 178 = (0, 0, 2, mX0_pass) := rfl
theorem zv_11_178 : zy_mv 11 178 := ⟨zc_X0_pass, ⟨TX0, 2, rfl⟩, zy_mem (zy_t4 (List.mem_of_getElem? (i := 67) (by decide +kernel))) rfl, zy_mem (zy_t4 (List.mem_of_getElem? (i := 68) (by decide +kernel))) rfl, zy_mem (zy_t4 (List.mem_of_getElem? (i := 69) (by decide +kernel))) rfl⟩
theorem zc_X11_canPerform : zy_mc 2 mX11_canPerform := ⟨zy_mem (zy_t4 (List.mem_of_getElem? (i := 163) (by decide +kernel))) rfl, zy_mem (zy_t1 (List.mem_of_getElem? (i := 1) (by decide +kernel))) rfl, by decide +kernel, by decide +kernel⟩
theorem zr_11_187 : zy_mr 11 187 = (0, 11, 2, mX11_canPerform) := rfl
theorem zv_11_187 : zy_mv 11 187 := ⟨zc_X11_canPerform, ⟨TX11, 10, rfl⟩, zy_mem (zy_t4 (List.mem_of_getElem? (i := 160) (by decide +kernel))) rfl, zy_mem (zy_t4 (List.mem_of_getElem? (i := 162) (by decide +kernel))) rfl, zy_mem (List.mem_append_left _ (List.mem_map.mpr ⟨(yX11_canPerform, 10), List.mem_of_getElem? (i := 32) (by decide +kernel), rfl⟩)) rfl⟩
theorem zc_X11_officer : zy_mc 2 mX11_officer := ⟨zy_mem (zy_t2 (List.mem_of_getElem? (i := 217) (by decide +kernel))) rfl, zy_mem (zy_t1 (List.mem_of_getElem? (i := 1) (by decide +kernel))) rfl, by decide +kernel, by decide +kernel⟩
theorem zr_11_200 : zy_mr 11 200 = (0, 11, 2, mX11_officer) := rfl
theorem zv_11_200 : zy_mv 11 200 := ⟨zc_X11_officer, ⟨TX11, 10, rfl⟩, zy_mem (zy_t4 (List.mem_of_getElem? (i := 164) (by decide +kernel))) rfl, zy_mem (zy_t2 (List.mem_of_getElem? (i := 215) (by decide +kernel))) rfl, zy_mem (zy_t2 (List.mem_of_getElem? (i := 216) (by decide +kernel))) rfl⟩
theorem zc_X11_cousin : zy_mc 2 mX11_cousin := ⟨zy_mem (zy_t2 (List.mem_of_getElem? (i := 233) (by decide +kernel))) rfl, zy_mem (zy_t1 (List.mem_of_getElem? (i := 1) (by decide +kernel))) rfl, by decide +kernel, by decide +kernel⟩
theorem zr_11_203 : zy_mr 11 203 = (0, 11, 2, mX11_cousin) := rfl
theorem zv_11_203 : zy_mv 11 203 := ⟨zc_X11_cousin, ⟨TX11, 10, rfl⟩, zy_mem (zy_t4 (List.mem_of_getElem? (i := 165) (by decide +kernel))) rfl, zy_mem (zy_t2 (List.mem_of_getElem? (i := 231) (by decide +kernel))) rfl, zy_mem (zy_t2 (List.mem_of_getElem? (i := 232) (by decide +kernel))) rfl⟩
theorem zc_X11_wrong : zy_mc 3 mX11_wrong := ⟨zy_mem (zy_t4 (List.mem_of_getElem? (i := 5) (by decide +kernel))) rfl, zy_mem (zy_t1 (List.mem_of_getElem? (i := 1) (by decide +kernel))) rfl, by decide +kernel, by decide +kernel⟩
theorem zr_11_209 : zy_mr 11 209 = (0, 11, 3, mX11_wrong) := rfl
theorem zv_11_209 : zy_mv 11 209 := ⟨zc_X11_wrong, ⟨TX11, 10, rfl⟩, zy_mem (zy_t4 (List.mem_of_getElem? (i := 166) (by decide +kernel))) rfl, zy_mem (zy_t4 (List.mem_of_getElem? (i := 3) (by decide +kernel))) rfl, zy_mem (zy_t4 (List.mem_of_getElem? (i := 4) (by decide +kernel))) rfl⟩
theorem zc_X11_away : zy_mc 2 mX11_away := ⟨zy_mem (zy_t4 (List.mem_of_getElem? (i := 37) (by decide +kernel))) rfl, zy_mem (zy_t1 (List.mem_of_getElem? (i := 1) (by decide +kernel))) rfl, by decide +kernel, by decide +kernel⟩
theorem zr_11_212 : zy_mr 11 212 = (0, 11, 2, mX11_away) := rfl
theorem zv_11_212 : zy_mv 11 212 := ⟨zc_X11_away, ⟨TX11, 10, rfl⟩, zy_mem (zy_t4 (List.mem_of_getElem? (i := 167) (by decide +kernel))) rfl, zy_mem (zy_t4 (List.mem_of_getElem? (i := 35) (by decide +kernel))) rfl, zy_mem (zy_t4 (List.mem_of_getElem? (i := 36) (by decide +kernel))) rfl⟩
theorem zc_X11_sideways : zy_mc 2 mX11_sideways := ⟨zy_mem (zy_t4 (List.mem_of_getElem? (i := 45) (by decide +kernel))) rfl, zy_mem (zy_t1 (List.mem_of_getElem? (i := 1) (by decide +kernel))) rfl, by decide +kernel, by decide +kernel⟩
theorem zr_11_215 : zy_mr 11 215 = (0, 11, 2, mX11_sideways) := rfl
theorem zv_11_215 : zy_mv 11 215 := ⟨zc_X11_sideways, ⟨TX11, 10, rfl⟩, zy_mem (zy_t4 (List.mem_of_getElem? (i := 168) (by decide +kernel))) rfl, zy_mem (zy_t4 (List.mem_of_getElem? (i := 43) (by decide +kernel))) rfl, zy_mem (zy_t4 (List.mem_of_getElem? (i := 44) (by decide +kernel))) rfl⟩
theorem zr_11_221 : zy_mr 11 221 = (0, 10, 0, mX10_draw) := rfl
theorem zv_11_221 : zy_mv 11 221 := ⟨zc_X10_draw, ⟨TX10, 13, rfl⟩, zy_mem (zy_t4 (List.mem_of_getElem? (i := 173) (by decide +kernel))) rfl, zy_mem (zy_t4 (List.mem_of_getElem? (i := 132) (by decide +kernel))) rfl, zy_mem (zy_t4 (List.mem_of_getElem? (i := 133) (by decide +kernel))) rfl⟩
theorem zc_X11_befallBy : zy_mc 1 mX11_befallBy := ⟨zy_mem (zy_t4 (List.mem_of_getElem? (i := 177) (by decide +kernel))) rfl, zy_mem (zy_t1 (List.mem_of_getElem? (i := 1) (by decide +kernel))) rfl, by decide +kernel, by decide +kernel⟩
theorem zr_11_225 : zy_mr 11 225 = (0, 11, 1, mX11_befallBy) := rfl
theorem zv_11_225 : zy_mv 11 225 := ⟨zc_X11_befallBy, ⟨TX11, 10, rfl⟩, zy_mem (zy_t4 (List.mem_of_getElem? (i := 174) (by decide +kernel))) rfl, zy_mem (zy_t4 (List.mem_of_getElem? (i := 176) (by decide +kernel))) rfl, zy_mem (List.mem_append_left _ (List.mem_map.mpr ⟨(yX11_befallBy, 10), List.mem_of_getElem? (i := 33) (by decide +kernel), rfl⟩)) rfl⟩
theorem zc_X6_takeBack : zy_mc 0 mX6_takeBack := ⟨zy_mem (zy_t4 (List.mem_of_getElem? (i := 185) (by decide +kernel))) rfl, zy_mem (zy_t1 (List.mem_of_getElem? (i := 2) (by decide +kernel))) rfl, by decide +kernel, by decide +kernel⟩
theorem zr_11_231 : zy_mr 11 231 = (0, 6, 0, mX6_takeBack) := rfl
theorem zv_11_231 : zy_mv 11 231 := ⟨zc_X6_takeBack, ⟨TX6, 13, rfl⟩, zy_mem (zy_t4 (List.mem_of_getElem? (i := 182) (by decide +kernel))) rfl, zy_mem (zy_t4 (List.mem_of_getElem? (i := 183) (by decide +kernel))) rfl, zy_mem (zy_t4 (List.mem_of_getElem? (i := 184) (by decide +kernel))) rfl⟩
theorem zc_X11_addsOf : zy_mc 2 mX11_addsOf := ⟨zy_mem (zy_t4 (List.mem_of_getElem? (i := 193) (by decide +kernel))) rfl, zy_mem (zy_t1 (List.mem_of_getElem? (i := 1) (by decide +kernel))) rfl, by decide +kernel, by decide +kernel⟩
theorem zr_11_245 : zy_mr 11 245 = (0, 11, 2, mX11_addsOf) := rfl
theorem zv_11_245 : zy_mv 11 245 := ⟨zc_X11_addsOf, ⟨TX11, 10, rfl⟩, zy_mem (zy_t4 (List.mem_of_getElem? (i := 190) (by decide +kernel))) rfl, zy_mem (zy_t4 (List.mem_of_getElem? (i := 192) (by decide +kernel))) rfl, zy_mem (List.mem_append_left _ (List.mem_map.mpr ⟨(yX11_addsOf, 10), List.mem_of_getElem? (i := 34) (by decide +kernel), rfl⟩)) rfl⟩
theorem zr_11_255 : zy_mr 11 255 = (0, 2, 3, mX2_name) := rfl
theorem zv_11_255 : zy_mv 11 255 := ⟨zc_X2_name, ⟨TX2, 4, rfl⟩, zy_mem (zy_t4 (List.mem_of_getElem? (i := 194) (by decide +kernel))) rfl, zy_mem (zy_t4 (List.mem_of_getElem? (i := 86) (by decide +kernel))) rfl, zy_mem (zy_t4 (List.mem_of_getElem? (i := 87) (by decide +kernel))) rfl⟩
theorem zr_11_262 : zy_mr 11 262 = (0, 2, 2, mX2_value) := rfl
theorem zv_11_262 : zy_mv 11 262 := ⟨zc_X2_value, ⟨TX2, 4, rfl⟩, zy_mem (zy_t4 (List.mem_of_getElem? (i := 195) (by decide +kernel))) rfl, zy_mem (zy_t4 (List.mem_of_getElem? (i := 94) (by decide +kernel))) rfl, zy_mem (zy_t4 (List.mem_of_getElem? (i := 95) (by decide +kernel))) rfl⟩
theorem zr_11_249 : zy_mr 11 249 = (0, 10, 1, mX10_desk) := rfl
theorem zv_11_249 : zy_mv 11 249 := ⟨zc_X10_desk, ⟨TX10, 13, rfl⟩, zy_mem (zy_t4 (List.mem_of_getElem? (i := 196) (by decide +kernel))) rfl, zy_mem (zy_t4 (List.mem_of_getElem? (i := 90) (by decide +kernel))) rfl, zy_mem (zy_t4 (List.mem_of_getElem? (i := 91) (by decide +kernel))) rfl⟩
theorem zr_11_252 : zy_mr 11 252 = (0, 7, 1, mX7_bitsBelow) := rfl
theorem zv_11_252 : zy_mv 11 252 := ⟨zc_X7_bitsBelow, ⟨TX7, 6, rfl⟩, zy_mem (zy_t4 (List.mem_of_getElem? (i := 197) (by decide +kernel))) rfl, zy_mem (zy_t4 (List.mem_of_getElem? (i := 198) (by decide +kernel))) rfl, zy_mem (zy_t4 (List.mem_of_getElem? (i := 199) (by decide +kernel))) rfl⟩
theorem zr_11_279 : zy_mr 11 279 = (0, 10, 1, mX10_copy) := rfl
theorem zv_11_279 : zy_mv 11 279 := ⟨zc_X10_copy, ⟨TX10, 13, rfl⟩, zy_mem (zy_t4 (List.mem_of_getElem? (i := 217) (by decide +kernel))) rfl, zy_mem (zy_t4 (List.mem_of_getElem? (i := 23) (by decide +kernel))) rfl, zy_mem (zy_t4 (List.mem_of_getElem? (i := 24) (by decide +kernel))) rfl⟩
theorem zr_11_283 : zy_mr 11 283 = (0, 7, 2, mX7_meeting) := rfl
theorem zv_11_283 : zy_mv 11 283 := ⟨zc_X7_meeting, ⟨TX7, 6, rfl⟩, zy_mem (zy_t4 (List.mem_of_getElem? (i := 226) (by decide +kernel))) rfl, zy_mem (zy_t4 (List.mem_of_getElem? (i := 227) (by decide +kernel))) rfl, zy_mem (zy_t4 (List.mem_of_getElem? (i := 228) (by decide +kernel))) rfl⟩
theorem zr_11_286 : zy_mr 11 286 = (0, 7, 2, mX7_distance) := rfl
theorem zv_11_286 : zy_mv 11 286 := ⟨zc_X7_distance, ⟨TX7, 6, rfl⟩, zy_mem (zy_t4 (List.mem_of_getElem? (i := 234) (by decide +kernel))) rfl, zy_mem (zy_t4 (List.mem_of_getElem? (i := 235) (by decide +kernel))) rfl, zy_mem (zy_t4 (List.mem_of_getElem? (i := 236) (by decide +kernel))) rfl⟩
theorem zc_X3_find : zy_mc 4 mX3_find := ⟨zy_mem (zy_t5 (List.mem_of_getElem? (i := 6) (by decide +kernel))) rfl, zy_mem (zy_t1 (List.mem_of_getElem? (i := 10) (by decide +kernel))) rfl, by decide +kernel, by decide +kernel⟩
theorem zr_11_289 : zy_mr 11 289 = (0, 3, 4, mX3_find) := rfl
theorem zv_11_289 : zy_mv 11 289 := ⟨zc_X3_find, ⟨TX3, 11, rfl⟩, zy_mem (zy_t5 (List.mem_of_getElem? (i := 3) (by decide +kernel))) rfl, zy_mem (zy_t5 (List.mem_of_getElem? (i := 4) (by decide +kernel))) rfl, zy_mem (zy_t5 (List.mem_of_getElem? (i := 5) (by decide +kernel))) rfl⟩
theorem zc_X4_put : zy_mc 1 mX4_put := ⟨zy_mem (zy_t5 (List.mem_of_getElem? (i := 41) (by decide +kernel))) rfl, zy_mem (zy_t1 (List.mem_of_getElem? (i := 5) (by decide +kernel))) rfl, by decide +kernel, by decide +kernel⟩
theorem zr_11_312 : zy_mr 11 312 = (0, 4, 1, mX4_put) := rfl
theorem zv_11_312 : zy_mv 11 312 := ⟨zc_X4_put, ⟨TX4, 4, rfl⟩, zy_mem (zy_t5 (List.mem_of_getElem? (i := 38) (by decide +kernel))) rfl, zy_mem (zy_t5 (List.mem_of_getElem? (i := 39) (by decide +kernel))) rfl, zy_mem (zy_t5 (List.mem_of_getElem? (i := 40) (by decide +kernel))) rfl⟩
theorem zc_X4_countSets : zy_mc 1 mX4_countSets := ⟨zy_mem (zy_t5 (List.mem_of_getElem? (i := 49) (by decide +kernel))) rfl, zy_mem (zy_t1 (List.mem_of_getElem? (i := 5) (by decide +kernel))) rfl, by decide +kernel, by decide +kernel⟩
theorem zr_11_315 : zy_mr 11 315 = (0, 4, 1, mX4_countSets) := rfl
theorem zv_11_315 : zy_mv 11 315 := ⟨zc_X4_countSets, ⟨TX4, 4, rfl⟩, zy_mem (zy_t5 (List.mem_of_getElem? (i := 46) (by decide +kernel))) rfl, zy_mem (zy_t5 (List.mem_of_getElem? (i := 47) (by decide +kernel))) rfl, zy_mem (zy_t5 (List.mem_of_getElem? (i := 48) (by decide +kernel))) rfl⟩
theorem zc_X4_bitsIn : zy_mc 1 mX4_bitsIn := ⟨zy_mem (zy_t5 (List.mem_of_getElem? (i := 58) (by decide +kernel))) rfl, zy_mem (zy_t1 (List.mem_of_getElem? (i := 5) (by decide +kernel))) rfl, by decide +kernel, by decide +kernel⟩
theorem zr_11_321 : zy_mr 11 321 = (0, 4, 1, mX4_bitsIn) := rfl
theorem zv_11_321 : zy_mv 11 321 := ⟨zc_X4_bitsIn, ⟨TX4, 4, rfl⟩, zy_mem (zy_t5 (List.mem_of_getElem? (i := 55) (by decide +kernel))) rfl, zy_mem (zy_t5 (List.mem_of_getElem? (i := 56) (by decide +kernel))) rfl, zy_mem (zy_t5 (List.mem_of_getElem? (i := 57) (by decide +kernel))) rfl⟩
theorem zc_X4_nearestToHalf : zy_mc 0 mX4_nearestToHalf := ⟨zy_mem (zy_t5 (List.mem_of_getElem? (i := 66) (by decide +kernel))) rfl, zy_mem (zy_t1 (List.mem_of_getElem? (i := 5) (by decide +kernel))) rfl, by decide +kernel, by decide +kernel⟩
theorem zr_11_324 : zy_mr 11 324 = (0, 4, 0, mX4_nearestToHalf) := rfl
theorem zv_11_324 : zy_mv 11 324 := ⟨zc_X4_nearestToHalf, ⟨TX4, 4, rfl⟩, zy_mem (zy_t5 (List.mem_of_getElem? (i := 63) (by decide +kernel))) rfl, zy_mem (zy_t5 (List.mem_of_getElem? (i := 64) (by decide +kernel))) rfl, zy_mem (zy_t5 (List.mem_of_getElem? (i := 65) (by decide +kernel))) rfl⟩
theorem zc_X8_promotions : zy_mc 0 mX8_promotions := ⟨zy_mem (zy_t5 (List.mem_of_getElem? (i := 77) (by decide +kernel))) rfl, zy_mem (zy_t1 (List.mem_of_getElem? (i := 9) (by decide +kernel))) rfl, by decide +kernel, by decide +kernel⟩
theorem zr_11_327 : zy_mr 11 327 = (0, 8, 0, mX8_promotions) := rfl
theorem zv_11_327 : zy_mv 11 327 := ⟨zc_X8_promotions, ⟨TX8, 5, rfl⟩, zy_mem (zy_t5 (List.mem_of_getElem? (i := 74) (by decide +kernel))) rfl, zy_mem (zy_t5 (List.mem_of_getElem? (i := 75) (by decide +kernel))) rfl, zy_mem (zy_t5 (List.mem_of_getElem? (i := 76) (by decide +kernel))) rfl⟩
theorem zc_X8_promotedAt : zy_mc 1 mX8_promotedAt := ⟨zy_mem (zy_t5 (List.mem_of_getElem? (i := 90) (by decide +kernel))) rfl, zy_mem (zy_t1 (List.mem_of_getElem? (i := 9) (by decide +kernel))) rfl, by decide +kernel, by decide +kernel⟩
theorem zr_11_331 : zy_mr 11 331 = (0, 8, 1, mX8_promotedAt) := rfl
theorem zv_11_331 : zy_mv 11 331 := ⟨zc_X8_promotedAt, ⟨TX8, 5, rfl⟩, zy_mem (zy_t5 (List.mem_of_getElem? (i := 87) (by decide +kernel))) rfl, zy_mem (zy_t5 (List.mem_of_getElem? (i := 88) (by decide +kernel))) rfl, zy_mem (zy_t5 (List.mem_of_getElem? (i := 89) (by decide +kernel))) rfl⟩
theorem zc_X8_heaviestApart : zy_mc 0 mX8_heaviestApart := ⟨zy_mem (zy_t5 (List.mem_of_getElem? (i := 106) (by decide +kernel))) rfl, zy_mem (zy_t1 (List.mem_of_getElem? (i := 9) (by decide +kernel))) rfl, by decide +kernel, by decide +kernel⟩
theorem zr_11_337 : zy_mr 11 337 = (0, 8, 0, mX8_heaviestApart) := rfl
theorem zv_11_337 : zy_mv 11 337 := ⟨zc_X8_heaviestApart, ⟨TX8, 5, rfl⟩, zy_mem (zy_t5 (List.mem_of_getElem? (i := 103) (by decide +kernel))) rfl, zy_mem (zy_t5 (List.mem_of_getElem? (i := 104) (by decide +kernel))) rfl, zy_mem (zy_t5 (List.mem_of_getElem? (i := 105) (by decide +kernel))) rfl⟩
theorem zc_X8_weightOf : zy_mc 1 mX8_weightOf := ⟨zy_mem (zy_t5 (List.mem_of_getElem? (i := 111) (by decide +kernel))) rfl, zy_mem (zy_t1 (List.mem_of_getElem? (i := 9) (by decide +kernel))) rfl, by decide +kernel, by decide +kernel⟩
theorem zr_11_340 : zy_mr 11 340 = (0, 8, 1, mX8_weightOf) := rfl
theorem zv_11_340 : zy_mv 11 340 := ⟨zc_X8_weightOf, ⟨TX8, 5, rfl⟩, zy_mem (zy_t5 (List.mem_of_getElem? (i := 108) (by decide +kernel))) rfl, zy_mem (zy_t5 (List.mem_of_getElem? (i := 109) (by decide +kernel))) rfl, zy_mem (zy_t5 (List.mem_of_getElem? (i := 110) (by decide +kernel))) rfl⟩
theorem zc_X8_nearestToAll : zy_mc 0 mX8_nearestToAll := ⟨zy_mem (zy_t5 (List.mem_of_getElem? (i := 119) (by decide +kernel))) rfl, zy_mem (zy_t1 (List.mem_of_getElem? (i := 9) (by decide +kernel))) rfl, by decide +kernel, by decide +kernel⟩
theorem zr_11_343 : zy_mr 11 343 = (0, 8, 0, mX8_nearestToAll) := rfl
theorem zv_11_343 : zy_mv 11 343 := ⟨zc_X8_nearestToAll, ⟨TX8, 5, rfl⟩, zy_mem (zy_t5 (List.mem_of_getElem? (i := 116) (by decide +kernel))) rfl, zy_mem (zy_t5 (List.mem_of_getElem? (i := 117) (by decide +kernel))) rfl, zy_mem (zy_t5 (List.mem_of_getElem? (i := 118) (by decide +kernel))) rfl⟩
theorem zc_X8_farEnd : zy_mc 0 mX8_farEnd := ⟨zy_mem (zy_t5 (List.mem_of_getElem? (i := 129) (by decide +kernel))) rfl, zy_mem (zy_t1 (List.mem_of_getElem? (i := 9) (by decide +kernel))) rfl, by decide +kernel, by decide +kernel⟩
theorem zr_11_346 : zy_mr 11 346 = (0, 8, 0, mX8_farEnd) := rfl
theorem zv_11_346 : zy_mv 11 346 := ⟨zc_X8_farEnd, ⟨TX8, 5, rfl⟩, zy_mem (zy_t5 (List.mem_of_getElem? (i := 126) (by decide +kernel))) rfl, zy_mem (zy_t5 (List.mem_of_getElem? (i := 127) (by decide +kernel))) rfl, zy_mem (zy_t5 (List.mem_of_getElem? (i := 128) (by decide +kernel))) rfl⟩
theorem zc_X8_diameter : zy_mc 0 mX8_diameter := ⟨zy_mem (zy_t5 (List.mem_of_getElem? (i := 137) (by decide +kernel))) rfl, zy_mem (zy_t1 (List.mem_of_getElem? (i := 9) (by decide +kernel))) rfl, by decide +kernel, by decide +kernel⟩
theorem zr_11_349 : zy_mr 11 349 = (0, 8, 0, mX8_diameter) := rfl
theorem zv_11_349 : zy_mv 11 349 := ⟨zc_X8_diameter, ⟨TX8, 5, rfl⟩, zy_mem (zy_t5 (List.mem_of_getElem? (i := 134) (by decide +kernel))) rfl, zy_mem (zy_t5 (List.mem_of_getElem? (i := 135) (by decide +kernel))) rfl, zy_mem (zy_t5 (List.mem_of_getElem? (i := 136) (by decide +kernel))) rfl⟩
theorem zc_X8_greatestPart : zy_mc 1 mX8_greatestPart := ⟨zy_mem (zy_t5 (List.mem_of_getElem? (i := 145) (by decide +kernel))) rfl, zy_mem (zy_t1 (List.mem_of_getElem? (i := 9) (by decide +kernel))) rfl, by decide +kernel, by decide +kernel⟩
theorem zr_11_352 : zy_mr 11 352 = (0, 8, 1, mX8_greatestPart) := rfl
theorem zv_11_352 : zy_mv 11 352 := ⟨zc_X8_greatestPart, ⟨TX8, 5, rfl⟩, zy_mem (zy_t5 (List.mem_of_getElem? (i := 142) (by decide +kernel))) rfl, zy_mem (zy_t5 (List.mem_of_getElem? (i := 143) (by decide +kernel))) rfl, zy_mem (zy_t5 (List.mem_of_getElem? (i := 144) (by decide +kernel))) rfl⟩
theorem zc_X8_fewestDeputies : zy_mc 0 mX8_fewestDeputies := ⟨zy_mem (zy_t5 (List.mem_of_getElem? (i := 153) (by decide +kernel))) rfl, zy_mem (zy_t1 (List.mem_of_getElem? (i := 9) (by decide +kernel))) rfl, by decide +kernel, by decide +kernel⟩
theorem zr_11_355 : zy_mr 11 355 = (0, 8, 0, mX8_fewestDeputies) := rfl
theorem zv_11_355 : zy_mv 11 355 := ⟨zc_X8_fewestDeputies, ⟨TX8, 5, rfl⟩, zy_mem (zy_t5 (List.mem_of_getElem? (i := 150) (by decide +kernel))) rfl, zy_mem (zy_t5 (List.mem_of_getElem? (i := 151) (by decide +kernel))) rfl, zy_mem (zy_t5 (List.mem_of_getElem? (i := 152) (by decide +kernel))) rfl⟩
theorem zc_X10_sizesAt : zy_mc 1 mX10_sizesAt := ⟨zy_mem (zy_t5 (List.mem_of_getElem? (i := 162) (by decide +kernel))) rfl, zy_mem (zy_t1 (List.mem_of_getElem? (i := 4) (by decide +kernel))) rfl, by decide +kernel, by decide +kernel⟩
theorem zr_11_358 : zy_mr 11 358 = (0, 10, 1, mX10_sizesAt) := rfl
theorem zv_11_358 : zy_mv 11 358 := ⟨zc_X10_sizesAt, ⟨TX10, 13, rfl⟩, zy_mem (zy_t5 (List.mem_of_getElem? (i := 159) (by decide +kernel))) rfl, zy_mem (zy_t5 (List.mem_of_getElem? (i := 160) (by decide +kernel))) rfl, zy_mem (zy_t5 (List.mem_of_getElem? (i := 161) (by decide +kernel))) rfl⟩
theorem zc_X11_explainsAdded : zy_mc 1 mX11_explainsAdded := ⟨zy_mem (zy_t5 (List.mem_of_getElem? (i := 182) (by decide +kernel))) rfl, zy_mem (zy_t1 (List.mem_of_getElem? (i := 1) (by decide +kernel))) rfl, by decide +kernel, by decide +kernel⟩
theorem zr_11_373 : zy_mr 11 373 = (0, 11, 1, mX11_explainsAdded) := rfl
theorem zv_11_373 : zy_mv 11 373 := ⟨zc_X11_explainsAdded, ⟨TX11, 10, rfl⟩, zy_mem (zy_t5 (List.mem_of_getElem? (i := 179) (by decide +kernel))) rfl, zy_mem (zy_t5 (List.mem_of_getElem? (i := 181) (by decide +kernel))) rfl, zy_mem (List.mem_append_left _ (List.mem_map.mpr ⟨(yX11_explainsAdded, 10), List.mem_of_getElem? (i := 44) (by decide +kernel), rfl⟩)) rfl⟩
theorem zc_X10_notesOf : zy_mc 1 mX10_notesOf := ⟨zy_mem (zy_t5 (List.mem_of_getElem? (i := 202) (by decide +kernel))) rfl, zy_mem (zy_t1 (List.mem_of_getElem? (i := 4) (by decide +kernel))) rfl, by decide +kernel, by decide +kernel⟩
theorem zr_11_377 : zy_mr 11 377 = (0, 10, 1, mX10_notesOf) := rfl
theorem zv_11_377 : zy_mv 11 377 := ⟨zc_X10_notesOf, ⟨TX10, 13, rfl⟩, zy_mem (zy_t5 (List.mem_of_getElem? (i := 199) (by decide +kernel))) rfl, zy_mem (zy_t5 (List.mem_of_getElem? (i := 200) (by decide +kernel))) rfl, zy_mem (zy_t5 (List.mem_of_getElem? (i := 201) (by decide +kernel))) rfl⟩
theorem zc_X6_copy : zy_mc 1 mX6_copy := ⟨zy_mem (zy_t5 (List.mem_of_getElem? (i := 210) (by decide +kernel))) rfl, zy_mem (zy_t1 (List.mem_of_getElem? (i := 2) (by decide +kernel))) rfl, by decide +kernel, by decide +kernel⟩
theorem zr_11_380 : zy_mr 11 380 = (0, 6, 1, mX6_copy) := rfl
theorem zv_11_380 : zy_mv 11 380 := ⟨zc_X6_copy, ⟨TX6, 13, rfl⟩, zy_mem (zy_t5 (List.mem_of_getElem? (i := 207) (by decide +kernel))) rfl, zy_mem (zy_t5 (List.mem_of_getElem? (i := 208) (by decide +kernel))) rfl, zy_mem (zy_t5 (List.mem_of_getElem? (i := 209) (by decide +kernel))) rfl⟩
theorem zc_X12_copy : zy_mc 2 mX12_copy := ⟨zy_mem (zy_t6 (List.mem_of_getElem? (i := 3) (by decide +kernel))) rfl, zy_mem (zy_t1 (List.mem_of_getElem? (i := 14) (by decide +kernel))) rfl, by decide +kernel, by decide +kernel⟩
theorem zr_12_65 : zy_mr 12 65 = (1, 12, 2, mX12_copy) := rfl
theorem zv_12_65 : zy_ms 12 65 := ⟨zc_X12_copy, zy_mem (zy_t6 (List.mem_of_getElem? (i := 2) (by decide +kernel))) rfl, Or.inl (zy_mem (zy_t6 (List.mem_of_getElem? (i := 1) (by decide +kernel))) rfl)⟩
theorem zc_X12_isOfficer : zy_mc 1 mX12_isOfficer := ⟨zy_mem (zy_t6 (List.mem_of_getElem? (i := 119) (by decide +kernel))) rfl, zy_mem (zy_t1 (List.mem_of_getElem? (i := 14) (by decide +kernel))) rfl, by decide +kernel, by decide +kernel⟩
theorem zr_12_73 : zy_mr 12 73 = (0, 12, 1, mX12_isOfficer) := rfl
theorem zv_12_73 : zy_mv 12 73 := ⟨zc_X12_isOfficer, ⟨TX12, 35, rfl⟩, zy_mem (zy_t6 (List.mem_of_getElem? (i := 116) (by decide +kernel))) rfl, zy_mem (zy_t6 (List.mem_of_getElem? (i := 118) (by decide +kernel))) rfl, zy_mem (List.mem_append_left _ (List.mem_map.mpr ⟨(yX12_isOfficer, 35), List.mem_of_getElem? (i := 45) (by decide +kernel), rfl⟩)) rfl⟩
theorem zc_X12_isIn : zy_mc 3 mX12_isIn := ⟨zy_mem (zy_t6 (List.mem_of_getElem? (i := 122) (by decide +kernel))) rfl, zy_mem (zy_t1 (List.mem_of_getElem? (i := 14) (by decide +kernel))) rfl, by decide +kernel, by decide +kernel⟩
theorem zr_12_69 : zy_mr 12 69 = (1, 12, 3, mX12_isIn) := rfl
theorem zv_12_69 : zy_ms 12 69 := ⟨zc_X12_isIn, zy_mem (zy_t6 (List.mem_of_getElem? (i := 121) (by decide +kernel))) rfl, Or.inl (zy_mem (zy_t6 (List.mem_of_getElem? (i := 120) (by decide +kernel))) rfl)⟩
theorem zc_X12_has : zy_mc 2 mX12_has := ⟨zy_mem (zy_t6 (List.mem_of_getElem? (i := 129) (by decide +kernel))) rfl, zy_mem (zy_t1 (List.mem_of_getElem? (i := 14) (by decide +kernel))) rfl, by decide +kernel, by decide +kernel⟩
theorem zr_12_77 : zy_mr 12 77 = (1, 12, 2, mX12_has) := rfl
theorem zv_12_77 : zy_ms 12 77 := ⟨zc_X12_has, zy_mem (zy_t6 (List.mem_of_getElem? (i := 128) (by decide +kernel))) rfl, Or.inl (zy_mem (zy_t6 (List.mem_of_getElem? (i := 127) (by decide +kernel))) rfl)⟩
theorem zc_X12_four : zy_mc 1 mX12_four := ⟨zy_mem (zy_t6 (List.mem_of_getElem? (i := 137) (by decide +kernel))) rfl, zy_mem (zy_t1 (List.mem_of_getElem? (i := 14) (by decide +kernel))) rfl, by decide +kernel, by decide +kernel⟩
theorem zr_12_84 : zy_mr 12 84 = (0, 12, 1, mX12_four) := rfl
theorem zv_12_84 : zy_mv 12 84 := ⟨zc_X12_four, ⟨TX12, 35, rfl⟩, zy_mem (zy_t6 (List.mem_of_getElem? (i := 134) (by decide +kernel))) rfl, zy_mem (zy_t6 (List.mem_of_getElem? (i := 136) (by decide +kernel))) rfl, zy_mem (List.mem_append_left _ (List.mem_map.mpr ⟨(yX12_four, 35), List.mem_of_getElem? (i := 46) (by decide +kernel), rfl⟩)) rfl⟩
theorem zc_X12_readText : zy_mc 0 mX12_readText := ⟨zy_mem (zy_t6 (List.mem_of_getElem? (i := 149) (by decide +kernel))) rfl, zy_mem (zy_t1 (List.mem_of_getElem? (i := 14) (by decide +kernel))) rfl, by decide +kernel, by decide +kernel⟩
theorem zr_12_251 : zy_mr 12 251 = (0, 12, 0, mX12_readText) := rfl
theorem zv_12_251 : zy_mv 12 251 := ⟨zc_X12_readText, ⟨TX12, 35, rfl⟩, zy_mem (zy_t6 (List.mem_of_getElem? (i := 146) (by decide +kernel))) rfl, zy_mem (zy_t6 (List.mem_of_getElem? (i := 148) (by decide +kernel))) rfl, zy_mem (List.mem_append_left _ (List.mem_map.mpr ⟨(yX12_readText, 35), List.mem_of_getElem? (i := 47) (by decide +kernel), rfl⟩)) rfl⟩
theorem zc_X12_nextToken : zy_mc 0 mX12_nextToken := ⟨zy_mem (zy_t6 (List.mem_of_getElem? (i := 153) (by decide +kernel))) rfl, zy_mem (zy_t1 (List.mem_of_getElem? (i := 14) (by decide +kernel))) rfl, by decide +kernel, by decide +kernel⟩
theorem zr_12_165 : zy_mr 12 165 = (0, 12, 0, mX12_nextToken) := rfl
theorem zv_12_165 : zy_mv 12 165 := ⟨zc_X12_nextToken, ⟨TX12, 35, rfl⟩, zy_mem (zy_t6 (List.mem_of_getElem? (i := 150) (by decide +kernel))) rfl, zy_mem (zy_t6 (List.mem_of_getElem? (i := 152) (by decide +kernel))) rfl, zy_mem (List.mem_append_left _ (List.mem_map.mpr ⟨(yX12_nextToken, 35), List.mem_of_getElem? (i := 48) (by decide +kernel), rfl⟩)) rfl⟩
theorem zc_X12_byteAt : zy_mc 1 mX12_byteAt := ⟨zy_mem (zy_t6 (List.mem_of_getElem? (i := 157) (by decide +kernel))) rfl, zy_mem (zy_t1 (List.mem_of_getElem? (i := 14) (by decide +kernel))) rfl, by decide +kernel, by decide +kernel⟩
theorem zr_12_91 : zy_mr 12 91 = (0, 12, 1, mX12_byteAt) := rfl
theorem zv_12_91 : zy_mv 12 91 := ⟨zc_X12_byteAt, ⟨TX12, 35, rfl⟩, zy_mem (zy_t6 (List.mem_of_getElem? (i := 154) (by decide +kernel))) rfl, zy_mem (zy_t6 (List.mem_of_getElem? (i := 156) (by decide +kernel))) rfl, zy_mem (List.mem_append_left _ (List.mem_map.mpr ⟨(yX12_byteAt, 35), List.mem_of_getElem? (i := 49) (by decide +kernel), rfl⟩)) rfl⟩
theorem zc_X12_isFigure : zy_mc 1 mX12_isFigure := ⟨zy_mem (zy_t6 (List.mem_of_getElem? (i := 160) (by decide +kernel))) rfl, zy_mem (zy_t1 (List.mem_of_getElem? (i := 14) (by decide +kernel))) rfl, by decide +kernel, by decide +kernel⟩
theorem zr_12_101 : zy_mr 12 101 = (1, 12, 1, mX12_isFigure) := rfl
theorem zv_12_101 : zy_ms 12 101 := ⟨zc_X12_isFigure, zy_mem (zy_t6 (List.mem_of_getElem? (i := 159) (by decide +kernel))) rfl, Or.inl (zy_mem (zy_t6 (List.mem_of_getElem? (i := 158) (by decide +kernel))) rfl)⟩
theorem zc_X12_isLetterByte : zy_mc 1 mX12_isLetterByte := ⟨zy_mem (zy_t6 (List.mem_of_getElem? (i := 164) (by decide +kernel))) rfl, zy_mem (zy_t1 (List.mem_of_getElem? (i := 14) (by decide +kernel))) rfl, by decide +kernel, by decide +kernel⟩
theorem zr_12_108 : zy_mr 12 108 = (1, 12, 1, mX12_isLetterByte) := rfl
theorem zv_12_108 : zy_ms 12 108 := ⟨zc_X12_isLetterByte, zy_mem (zy_t6 (List.mem_of_getElem? (i := 163) (by decide +kernel))) rfl, Or.inl (zy_mem (zy_t6 (List.mem_of_getElem? (i := 162) (by decide +kernel))) rfl)⟩
theorem zc_X12_isSign : zy_mc 1 mX12_isSign := ⟨zy_mem (zy_t6 (List.mem_of_getElem? (i := 168) (by decide +kernel))) rfl, zy_mem (zy_t1 (List.mem_of_getElem? (i := 14) (by decide +kernel))) rfl, by decide +kernel, by decide +kernel⟩
theorem zr_12_117 : zy_mr 12 117 = (1, 12, 1, mX12_isSign) := rfl
theorem zv_12_117 : zy_ms 12 117 := ⟨zc_X12_isSign, zy_mem (zy_t6 (List.mem_of_getElem? (i := 167) (by decide +kernel))) rfl, Or.inl (zy_mem (zy_t6 (List.mem_of_getElem? (i := 166) (by decide +kernel))) rfl)⟩
theorem zc_X12_clause : zy_mc 0 mX12_clause := ⟨zy_mem (zy_t6 (List.mem_of_getElem? (i := 172) (by decide +kernel))) rfl, zy_mem (zy_t1 (List.mem_of_getElem? (i := 14) (by decide +kernel))) rfl, by decide +kernel, by decide +kernel⟩
theorem zr_12_248 : zy_mr 12 248 = (0, 12, 0, mX12_clause) := rfl
theorem zv_12_248 : zy_mv 12 248 := ⟨zc_X12_clause, ⟨TX12, 35, rfl⟩, zy_mem (zy_t6 (List.mem_of_getElem? (i := 169) (by decide +kernel))) rfl, zy_mem (zy_t6 (List.mem_of_getElem? (i := 171) (by decide +kernel))) rfl, zy_mem (List.mem_append_left _ (List.mem_map.mpr ⟨(yX12_clause, 35), List.mem_of_getElem? (i := 50) (by decide +kernel), rfl⟩)) rfl⟩
theorem zc_X12_sortOf : zy_mc 0 mX12_sortOf := ⟨zy_mem (zy_t6 (List.mem_of_getElem? (i := 176) (by decide +kernel))) rfl, zy_mem (zy_t1 (List.mem_of_getElem? (i := 14) (by decide +kernel))) rfl, by decide +kernel, by decide +kernel⟩
theorem zr_12_238 : zy_mr 12 238 = (0, 12, 0, mX12_sortOf) := rfl
theorem zv_12_238 : zy_mv 12 238 := ⟨zc_X12_sortOf, ⟨TX12, 35, rfl⟩, zy_mem (zy_t6 (List.mem_of_getElem? (i := 173) (by decide +kernel))) rfl, zy_mem (zy_t6 (List.mem_of_getElem? (i := 175) (by decide +kernel))) rfl, zy_mem (List.mem_append_left _ (List.mem_map.mpr ⟨(yX12_sortOf, 35), List.mem_of_getElem? (i := 51) (by decide +kernel), rfl⟩)) rfl⟩
theorem zc_X12_w4 : zy_mc 4 mX12_w4 := ⟨zy_mem (zy_t6 (List.mem_of_getElem? (i := 179) (by decide +kernel))) rfl, zy_mem (zy_t1 (List.mem_of_getElem? (i := 14) (by decide +kernel))) rfl, by decide +kernel, by decide +kernel⟩
theorem zr_12_128 : zy_mr 12 128 = (1, 12, 4, mX12_w4) := rfl
theorem zv_12_128 : zy_ms 12 128 := ⟨zc_X12_w4, zy_mem (zy_t6 (List.mem_of_getElem? (i := 178) (by decide +kernel))) rfl, Or.inl (zy_mem (zy_t6 (List.mem_of_getElem? (i := 177) (by decide +kernel))) rfl)⟩
theorem zc_X12_w3 : zy_mc 3 mX12_w3 := ⟨zy_mem (zy_t6 (List.mem_of_getElem? (i := 182) (by decide +kernel))) rfl, zy_mem (zy_t1 (List.mem_of_getElem? (i := 14) (by decide +kernel))) rfl, by decide +kernel, by decide +kernel⟩
theorem zr_12_124 : zy_mr 12 124 = (1, 12, 3, mX12_w3) := rfl
theorem zv_12_124 : zy_ms 12 124 := ⟨zc_X12_w3, zy_mem (zy_t6 (List.mem_of_getElem? (i := 181) (by decide +kernel))) rfl, Or.inl (zy_mem (zy_t6 (List.mem_of_getElem? (i := 180) (by decide +kernel))) rfl)⟩
theorem zc_X12_w2 : zy_mc 2 mX12_w2 := ⟨zy_mem (zy_t6 (List.mem_of_getElem? (i := 185) (by decide +kernel))) rfl, zy_mem (zy_t1 (List.mem_of_getElem? (i := 14) (by decide +kernel))) rfl, by decide +kernel, by decide +kernel⟩
theorem zr_12_120 : zy_mr 12 120 = (1, 12, 2, mX12_w2) := rfl
theorem zv_12_120 : zy_ms 12 120 := ⟨zc_X12_w2, zy_mem (zy_t6 (List.mem_of_getElem? (i := 184) (by decide +kernel))) rfl, Or.inl (zy_mem (zy_t6 (List.mem_of_getElem? (i := 183) (by decide +kernel))) rfl)⟩
theorem zc_X12_isWord : zy_mc 1 mX12_isWord := ⟨zy_mem (zy_t6 (List.mem_of_getElem? (i := 189) (by decide +kernel))) rfl, zy_mem (zy_t1 (List.mem_of_getElem? (i := 14) (by decide +kernel))) rfl, by decide +kernel, by decide +kernel⟩
theorem zr_12_184 : zy_mr 12 184 = (0, 12, 1, mX12_isWord) := rfl
theorem zv_12_184 : zy_mv 12 184 := ⟨zc_X12_isWord, ⟨TX12, 35, rfl⟩, zy_mem (zy_t6 (List.mem_of_getElem? (i := 186) (by decide +kernel))) rfl, zy_mem (zy_t6 (List.mem_of_getElem? (i := 188) (by decide +kernel))) rfl, zy_mem (List.mem_append_left _ (List.mem_map.mpr ⟨(yX12_isWord, 35), List.mem_of_getElem? (i := 52) (by decide +kernel), rfl⟩)) rfl⟩
theorem zc_X12_isLong : zy_mc 2 mX12_isLong := ⟨zy_mem (zy_t6 (List.mem_of_getElem? (i := 193) (by decide +kernel))) rfl, zy_mem (zy_t1 (List.mem_of_getElem? (i := 14) (by decide +kernel))) rfl, by decide +kernel, by decide +kernel⟩
theorem zr_12_234 : zy_mr 12 234 = (0, 12, 2, mX12_isLong) := rfl
theorem zv_12_234 : zy_mv 12 234 := ⟨zc_X12_isLong, ⟨TX12, 35, rfl⟩, zy_mem (zy_t6 (List.mem_of_getElem? (i := 190) (by decide +kernel))) rfl, zy_mem (zy_t6 (List.mem_of_getElem? (i := 192) (by decide +kernel))) rfl, zy_mem (List.mem_append_left _ (List.mem_map.mpr ⟨(yX12_isLong, 35), List.mem_of_getElem? (i := 53) (by decide +kernel), rfl⟩)) rfl⟩
theorem zc_X12_w5 : zy_mc 5 mX12_w5 := ⟨zy_mem (zy_t6 (List.mem_of_getElem? (i := 196) (by decide +kernel))) rfl, zy_mem (zy_t1 (List.mem_of_getElem? (i := 14) (by decide +kernel))) rfl, by decide +kernel, by decide +kernel⟩
theorem zr_12_132 : zy_mr 12 132 = (1, 12, 5, mX12_w5) := rfl
theorem zv_12_132 : zy_ms 12 132 := ⟨zc_X12_w5, zy_mem (zy_t6 (List.mem_of_getElem? (i := 195) (by decide +kernel))) rfl, Or.inl (zy_mem (zy_t6 (List.mem_of_getElem? (i := 194) (by decide +kernel))) rfl)⟩
theorem zc_X12_w6 : zy_mc 6 mX12_w6 := ⟨zy_mem (zy_t6 (List.mem_of_getElem? (i := 199) (by decide +kernel))) rfl, zy_mem (zy_t1 (List.mem_of_getElem? (i := 14) (by decide +kernel))) rfl, by decide +kernel, by decide +kernel⟩
theorem zr_12_180 : zy_mr 12 180 = (1, 12, 6, mX12_w6) := rfl
theorem zv_12_180 : zy_ms 12 180 := ⟨zc_X12_w6, zy_mem (zy_t6 (List.mem_of_getElem? (i := 198) (by decide +kernel))) rfl, Or.inl (zy_mem (zy_t6 (List.mem_of_getElem? (i := 197) (by decide +kernel))) rfl)⟩
theorem zc_X12_body : zy_mc 2 mX12_body := ⟨zy_mem (zy_t6 (List.mem_of_getElem? (i := 203) (by decide +kernel))) rfl, zy_mem (zy_t1 (List.mem_of_getElem? (i := 14) (by decide +kernel))) rfl, by decide +kernel, by decide +kernel⟩
theorem zr_12_244 : zy_mr 12 244 = (0, 12, 2, mX12_body) := rfl
theorem zv_12_244 : zy_mv 12 244 := ⟨zc_X12_body, ⟨TX12, 35, rfl⟩, zy_mem (zy_t6 (List.mem_of_getElem? (i := 200) (by decide +kernel))) rfl, zy_mem (zy_t6 (List.mem_of_getElem? (i := 202) (by decide +kernel))) rfl, zy_mem (List.mem_append_left _ (List.mem_map.mpr ⟨(yX12_body, 35), List.mem_of_getElem? (i := 54) (by decide +kernel), rfl⟩)) rfl⟩
theorem zc_X12_pair : zy_mc 3 mX12_pair := ⟨zy_mem (zy_t6 (List.mem_of_getElem? (i := 207) (by decide +kernel))) rfl, zy_mem (zy_t1 (List.mem_of_getElem? (i := 14) (by decide +kernel))) rfl, by decide +kernel, by decide +kernel⟩
theorem zr_12_227 : zy_mr 12 227 = (0, 12, 3, mX12_pair) := rfl
theorem zv_12_227 : zy_mv 12 227 := ⟨zc_X12_pair, ⟨TX12, 35, rfl⟩, zy_mem (zy_t6 (List.mem_of_getElem? (i := 204) (by decide +kernel))) rfl, zy_mem (zy_t6 (List.mem_of_getElem? (i := 206) (by decide +kernel))) rfl, zy_mem (List.mem_append_left _ (List.mem_map.mpr ⟨(yX12_pair, 35), List.mem_of_getElem? (i := 55) (by decide +kernel), rfl⟩)) rfl⟩
theorem zc_X12_figure : zy_mc 3 mX12_figure := ⟨zy_mem (zy_t6 (List.mem_of_getElem? (i := 211) (by decide +kernel))) rfl, zy_mem (zy_t1 (List.mem_of_getElem? (i := 14) (by decide +kernel))) rfl, by decide +kernel, by decide +kernel⟩
theorem zr_12_216 : zy_mr 12 216 = (0, 12, 3, mX12_figure) := rfl
theorem zv_12_216 : zy_mv 12 216 := ⟨zc_X12_figure, ⟨TX12, 35, rfl⟩, zy_mem (zy_t6 (List.mem_of_getElem? (i := 208) (by decide +kernel))) rfl, zy_mem (zy_t6 (List.mem_of_getElem? (i := 210) (by decide +kernel))) rfl, zy_mem (List.mem_append_left _ (List.mem_map.mpr ⟨(yX12_figure, 35), List.mem_of_getElem? (i := 56) (by decide +kernel), rfl⟩)) rfl⟩
theorem zc_X12_worded : zy_mc 4 mX12_worded := ⟨zy_mem (zy_t6 (List.mem_of_getElem? (i := 215) (by decide +kernel))) rfl, zy_mem (zy_t1 (List.mem_of_getElem? (i := 14) (by decide +kernel))) rfl, by decide +kernel, by decide +kernel⟩
theorem zr_12_223 : zy_mr 12 223 = (0, 12, 4, mX12_worded) := rfl
theorem zv_12_223 : zy_mv 12 223 := ⟨zc_X12_worded, ⟨TX12, 35, rfl⟩, zy_mem (zy_t6 (List.mem_of_getElem? (i := 212) (by decide +kernel))) rfl, zy_mem (zy_t6 (List.mem_of_getElem? (i := 214) (by decide +kernel))) rfl, zy_mem (List.mem_append_left _ (List.mem_map.mpr ⟨(yX12_worded, 35), List.mem_of_getElem? (i := 57) (by decide +kernel), rfl⟩)) rfl⟩
theorem zc_X12_lawClause : zy_mc 1 mX12_lawClause := ⟨zy_mem (zy_t6 (List.mem_of_getElem? (i := 219) (by decide +kernel))) rfl, zy_mem (zy_t1 (List.mem_of_getElem? (i := 14) (by decide +kernel))) rfl, by decide +kernel, by decide +kernel⟩
theorem zr_12_231 : zy_mr 12 231 = (0, 12, 1, mX12_lawClause) := rfl
theorem zv_12_231 : zy_mv 12 231 := ⟨zc_X12_lawClause, ⟨TX12, 35, rfl⟩, zy_mem (zy_t6 (List.mem_of_getElem? (i := 216) (by decide +kernel))) rfl, zy_mem (zy_t6 (List.mem_of_getElem? (i := 218) (by decide +kernel))) rfl, zy_mem (List.mem_append_left _ (List.mem_map.mpr ⟨(yX12_lawClause, 35), List.mem_of_getElem? (i := 58) (by decide +kernel), rfl⟩)) rfl⟩
theorem zc_X12_summed : zy_mc 0 mX12_summed := ⟨zy_mem (zy_t6 (List.mem_of_getElem? (i := 223) (by decide +kernel))) rfl, zy_mem (zy_t1 (List.mem_of_getElem? (i := 14) (by decide +kernel))) rfl, by decide +kernel, by decide +kernel⟩
theorem zr_12_220 : zy_mr 12 220 = (0, 12, 0, mX12_summed) := rfl
theorem zv_12_220 : zy_mv 12 220 := ⟨zc_X12_summed, ⟨TX12, 35, rfl⟩, zy_mem (zy_t6 (List.mem_of_getElem? (i := 220) (by decide +kernel))) rfl, zy_mem (zy_t6 (List.mem_of_getElem? (i := 222) (by decide +kernel))) rfl, zy_mem (List.mem_append_left _ (List.mem_map.mpr ⟨(yX12_summed, 35), List.mem_of_getElem? (i := 59) (by decide +kernel), rfl⟩)) rfl⟩
theorem zc_X12_behindOne : zy_mc 0 mX12_behindOne := ⟨zy_mem (zy_t6 (List.mem_of_getElem? (i := 227) (by decide +kernel))) rfl, zy_mem (zy_t1 (List.mem_of_getElem? (i := 14) (by decide +kernel))) rfl, by decide +kernel, by decide +kernel⟩
theorem zr_12_210 : zy_mr 12 210 = (0, 12, 0, mX12_behindOne) := rfl
theorem zv_12_210 : zy_mv 12 210 := ⟨zc_X12_behindOne, ⟨TX12, 35, rfl⟩, zy_mem (zy_t6 (List.mem_of_getElem? (i := 224) (by decide +kernel))) rfl, zy_mem (zy_t6 (List.mem_of_getElem? (i := 226) (by decide +kernel))) rfl, zy_mem (List.mem_append_left _ (List.mem_map.mpr ⟨(yX12_behindOne, 35), List.mem_of_getElem? (i := 60) (by decide +kernel), rfl⟩)) rfl⟩
theorem zc_X12_betweenOf : zy_mc 0 mX12_betweenOf := ⟨zy_mem (zy_t6 (List.mem_of_getElem? (i := 231) (by decide +kernel))) rfl, zy_mem (zy_t1 (List.mem_of_getElem? (i := 14) (by decide +kernel))) rfl, by decide +kernel, by decide +kernel⟩
theorem zr_12_204 : zy_mr 12 204 = (0, 12, 0, mX12_betweenOf) := rfl
theorem zv_12_204 : zy_mv 12 204 := ⟨zc_X12_betweenOf, ⟨TX12, 35, rfl⟩, zy_mem (zy_t6 (List.mem_of_getElem? (i := 228) (by decide +kernel))) rfl, zy_mem (zy_t6 (List.mem_of_getElem? (i := 230) (by decide +kernel))) rfl, zy_mem (List.mem_append_left _ (List.mem_map.mpr ⟨(yX12_betweenOf, 35), List.mem_of_getElem? (i := 61) (by decide +kernel), rfl⟩)) rfl⟩
theorem zc_X12_openNow : zy_mc 0 mX12_openNow := ⟨zy_mem (zy_t6 (List.mem_of_getElem? (i := 235) (by decide +kernel))) rfl, zy_mem (zy_t1 (List.mem_of_getElem? (i := 14) (by decide +kernel))) rfl, by decide +kernel, by decide +kernel⟩
theorem zr_12_162 : zy_mr 12 162 = (0, 12, 0, mX12_openNow) := rfl
theorem zv_12_162 : zy_mv 12 162 := ⟨zc_X12_openNow, ⟨TX12, 35, rfl⟩, zy_mem (zy_t6 (List.mem_of_getElem? (i := 232) (by decide +kernel))) rfl, zy_mem (zy_t6 (List.mem_of_getElem? (i := 234) (by decide +kernel))) rfl, zy_mem (List.mem_append_left _ (List.mem_map.mpr ⟨(yX12_openNow, 35), List.mem_of_getElem? (i := 62) (by decide +kernel), rfl⟩)) rfl⟩
theorem zc_X12_openAt : zy_mc 0 mX12_openAt := ⟨zy_mem (zy_t6 (List.mem_of_getElem? (i := 239) (by decide +kernel))) rfl, zy_mem (zy_t1 (List.mem_of_getElem? (i := 14) (by decide +kernel))) rfl, by decide +kernel, by decide +kernel⟩
theorem zr_12_158 : zy_mr 12 158 = (0, 12, 0, mX12_openAt) := rfl
theorem zv_12_158 : zy_mv 12 158 := ⟨zc_X12_openAt, ⟨TX12, 35, rfl⟩, zy_mem (zy_t6 (List.mem_of_getElem? (i := 236) (by decide +kernel))) rfl, zy_mem (zy_t6 (List.mem_of_getElem? (i := 238) (by decide +kernel))) rfl, zy_mem (List.mem_append_left _ (List.mem_map.mpr ⟨(yX12_openAt, 35), List.mem_of_getElem? (i := 63) (by decide +kernel), rfl⟩)) rfl⟩
theorem zc_X12_isCompared : zy_mc 0 mX12_isCompared := ⟨zy_mem (zy_t7 (List.mem_of_getElem? (i := 3) (by decide +kernel))) rfl, zy_mem (zy_t1 (List.mem_of_getElem? (i := 14) (by decide +kernel))) rfl, by decide +kernel, by decide +kernel⟩
theorem zr_12_198 : zy_mr 12 198 = (0, 12, 0, mX12_isCompared) := rfl
theorem zv_12_198 : zy_mv 12 198 := ⟨zc_X12_isCompared, ⟨TX12, 35, rfl⟩, zy_mem (zy_t7 (List.mem_of_getElem? (i := 0) (by decide +kernel))) rfl, zy_mem (zy_t7 (List.mem_of_getElem? (i := 2) (by decide +kernel))) rfl, zy_mem (List.mem_append_left _ (List.mem_map.mpr ⟨(yX12_isCompared, 35), List.mem_of_getElem? (i := 64) (by decide +kernel), rfl⟩)) rfl⟩
theorem zc_X12_rank : zy_mc 1 mX12_rank := ⟨zy_mem (zy_t7 (List.mem_of_getElem? (i := 6) (by decide +kernel))) rfl, zy_mem (zy_t1 (List.mem_of_getElem? (i := 14) (by decide +kernel))) rfl, by decide +kernel, by decide +kernel⟩
theorem zr_12_148 : zy_mr 12 148 = (1, 12, 1, mX12_rank) := rfl
theorem zv_12_148 : zy_ms 12 148 := ⟨zc_X12_rank, zy_mem (zy_t7 (List.mem_of_getElem? (i := 5) (by decide +kernel))) rfl, Or.inl (zy_mem (zy_t7 (List.mem_of_getElem? (i := 4) (by decide +kernel))) rfl)⟩
theorem zc_X12_compareOf : zy_mc 0 mX12_compareOf := ⟨zy_mem (zy_t7 (List.mem_of_getElem? (i := 10) (by decide +kernel))) rfl, zy_mem (zy_t1 (List.mem_of_getElem? (i := 14) (by decide +kernel))) rfl, by decide +kernel, by decide +kernel⟩
theorem zr_12_201 : zy_mr 12 201 = (0, 12, 0, mX12_compareOf) := rfl
theorem zv_12_201 : zy_mv 12 201 := ⟨zc_X12_compareOf, ⟨TX12, 35, rfl⟩, zy_mem (zy_t7 (List.mem_of_getElem? (i := 7) (by decide +kernel))) rfl, zy_mem (zy_t7 (List.mem_of_getElem? (i := 9) (by decide +kernel))) rfl, zy_mem (List.mem_append_left _ (List.mem_map.mpr ⟨(yX12_compareOf, 35), List.mem_of_getElem? (i := 65) (by decide +kernel), rfl⟩)) rfl⟩
theorem zc_X12_settle : zy_mc 1 mX12_settle := ⟨zy_mem (zy_t7 (List.mem_of_getElem? (i := 14) (by decide +kernel))) rfl, zy_mem (zy_t1 (List.mem_of_getElem? (i := 14) (by decide +kernel))) rfl, by decide +kernel, by decide +kernel⟩
theorem zr_12_192 : zy_mr 12 192 = (0, 12, 1, mX12_settle) := rfl
theorem zv_12_192 : zy_mv 12 192 := ⟨zc_X12_settle, ⟨TX12, 35, rfl⟩, zy_mem (zy_t7 (List.mem_of_getElem? (i := 11) (by decide +kernel))) rfl, zy_mem (zy_t7 (List.mem_of_getElem? (i := 13) (by decide +kernel))) rfl, zy_mem (List.mem_append_left _ (List.mem_map.mpr ⟨(yX12_settle, 35), List.mem_of_getElem? (i := 66) (by decide +kernel), rfl⟩)) rfl⟩
theorem zc_X12_emit : zy_mc 2 mX12_emit := ⟨zy_mem (zy_t7 (List.mem_of_getElem? (i := 18) (by decide +kernel))) rfl, zy_mem (zy_t1 (List.mem_of_getElem? (i := 14) (by decide +kernel))) rfl, by decide +kernel, by decide +kernel⟩
theorem zr_12_151 : zy_mr 12 151 = (0, 12, 2, mX12_emit) := rfl
theorem zv_12_151 : zy_mv 12 151 := ⟨zc_X12_emit, ⟨TX12, 35, rfl⟩, zy_mem (zy_t7 (List.mem_of_getElem? (i := 15) (by decide +kernel))) rfl, zy_mem (zy_t7 (List.mem_of_getElem? (i := 17) (by decide +kernel))) rfl, zy_mem (List.mem_append_left _ (List.mem_map.mpr ⟨(yX12_emit, 35), List.mem_of_getElem? (i := 67) (by decide +kernel), rfl⟩)) rfl⟩
theorem zc_X12_partOf : zy_mc 1 mX12_partOf := ⟨zy_mem (zy_t7 (List.mem_of_getElem? (i := 22) (by decide +kernel))) rfl, zy_mem (zy_t1 (List.mem_of_getElem? (i := 14) (by decide +kernel))) rfl, by decide +kernel, by decide +kernel⟩
theorem zr_12_207 : zy_mr 12 207 = (0, 12, 1, mX12_partOf) := rfl
theorem zv_12_207 : zy_mv 12 207 := ⟨zc_X12_partOf, ⟨TX12, 35, rfl⟩, zy_mem (zy_t7 (List.mem_of_getElem? (i := 19) (by decide +kernel))) rfl, zy_mem (zy_t7 (List.mem_of_getElem? (i := 21) (by decide +kernel))) rfl, zy_mem (List.mem_append_left _ (List.mem_map.mpr ⟨(yX12_partOf, 35), List.mem_of_getElem? (i := 68) (by decide +kernel), rfl⟩)) rfl⟩
theorem zc_X12_endOne : zy_mc 0 mX12_endOne := ⟨zy_mem (zy_t7 (List.mem_of_getElem? (i := 26) (by decide +kernel))) rfl, zy_mem (zy_t1 (List.mem_of_getElem? (i := 14) (by decide +kernel))) rfl, by decide +kernel, by decide +kernel⟩
theorem zr_12_174 : zy_mr 12 174 = (0, 12, 0, mX12_endOne) := rfl
theorem zv_12_174 : zy_mv 12 174 := ⟨zc_X12_endOne, ⟨TX12, 35, rfl⟩, zy_mem (zy_t7 (List.mem_of_getElem? (i := 23) (by decide +kernel))) rfl, zy_mem (zy_t7 (List.mem_of_getElem? (i := 25) (by decide +kernel))) rfl, zy_mem (List.mem_append_left _ (List.mem_map.mpr ⟨(yX12_endOne, 35), List.mem_of_getElem? (i := 69) (by decide +kernel), rfl⟩)) rfl⟩
theorem zc_X12_beginOne : zy_mc 0 mX12_beginOne := ⟨zy_mem (zy_t7 (List.mem_of_getElem? (i := 30) (by decide +kernel))) rfl, zy_mem (zy_t1 (List.mem_of_getElem? (i := 14) (by decide +kernel))) rfl, by decide +kernel, by decide +kernel⟩
theorem zr_12_213 : zy_mr 12 213 = (0, 12, 0, mX12_beginOne) := rfl
theorem zv_12_213 : zy_mv 12 213 := ⟨zc_X12_beginOne, ⟨TX12, 35, rfl⟩, zy_mem (zy_t7 (List.mem_of_getElem? (i := 27) (by decide +kernel))) rfl, zy_mem (zy_t7 (List.mem_of_getElem? (i := 29) (by decide +kernel))) rfl, zy_mem (List.mem_append_left _ (List.mem_map.mpr ⟨(yX12_beginOne, 35), List.mem_of_getElem? (i := 70) (by decide +kernel), rfl⟩)) rfl⟩
theorem zc_X12_nameOf : zy_mc 0 mX12_nameOf := ⟨zy_mem (zy_t7 (List.mem_of_getElem? (i := 34) (by decide +kernel))) rfl, zy_mem (zy_t1 (List.mem_of_getElem? (i := 14) (by decide +kernel))) rfl, by decide +kernel, by decide +kernel⟩
theorem zr_12_168 : zy_mr 12 168 = (0, 12, 0, mX12_nameOf) := rfl
theorem zv_12_168 : zy_mv 12 168 := ⟨zc_X12_nameOf, ⟨TX12, 35, rfl⟩, zy_mem (zy_t7 (List.mem_of_getElem? (i := 31) (by decide +kernel))) rfl, zy_mem (zy_t7 (List.mem_of_getElem? (i := 33) (by decide +kernel))) rfl, zy_mem (List.mem_append_left _ (List.mem_map.mpr ⟨(yX12_nameOf, 35), List.mem_of_getElem? (i := 71) (by decide +kernel), rfl⟩)) rfl⟩
theorem zc_X12_isOf : zy_mc 1 mX12_isOf := ⟨zy_mem (zy_t7 (List.mem_of_getElem? (i := 38) (by decide +kernel))) rfl, zy_mem (zy_t1 (List.mem_of_getElem? (i := 14) (by decide +kernel))) rfl, by decide +kernel, by decide +kernel⟩
theorem zr_12_171 : zy_mr 12 171 = (0, 12, 1, mX12_isOf) := rfl
theorem zv_12_171 : zy_mv 12 171 := ⟨zc_X12_isOf, ⟨TX12, 35, rfl⟩, zy_mem (zy_t7 (List.mem_of_getElem? (i := 35) (by decide +kernel))) rfl, zy_mem (zy_t7 (List.mem_of_getElem? (i := 37) (by decide +kernel))) rfl, zy_mem (List.mem_append_left _ (List.mem_map.mpr ⟨(yX12_isOf, 35), List.mem_of_getElem? (i := 72) (by decide +kernel), rfl⟩)) rfl⟩
theorem zc_X12_opened : zy_mc 1 mX12_opened := ⟨zy_mem (zy_t7 (List.mem_of_getElem? (i := 42) (by decide +kernel))) rfl, zy_mem (zy_t1 (List.mem_of_getElem? (i := 14) (by decide +kernel))) rfl, by decide +kernel, by decide +kernel⟩
theorem zr_12_177 : zy_mr 12 177 = (0, 12, 1, mX12_opened) := rfl
theorem zv_12_177 : zy_mv 12 177 := ⟨zc_X12_opened, ⟨TX12, 35, rfl⟩, zy_mem (zy_t7 (List.mem_of_getElem? (i := 39) (by decide +kernel))) rfl, zy_mem (zy_t7 (List.mem_of_getElem? (i := 41) (by decide +kernel))) rfl, zy_mem (List.mem_append_left _ (List.mem_map.mpr ⟨(yX12_opened, 35), List.mem_of_getElem? (i := 73) (by decide +kernel), rfl⟩)) rfl⟩
theorem zc_X12_isAskAhead : zy_mc 0 mX12_isAskAhead := ⟨zy_mem (zy_t7 (List.mem_of_getElem? (i := 46) (by decide +kernel))) rfl, zy_mem (zy_t1 (List.mem_of_getElem? (i := 14) (by decide +kernel))) rfl, by decide +kernel, by decide +kernel⟩
theorem zr_12_188 : zy_mr 12 188 = (0, 12, 0, mX12_isAskAhead) := rfl
theorem zv_12_188 : zy_mv 12 188 := ⟨zc_X12_isAskAhead, ⟨TX12, 35, rfl⟩, zy_mem (zy_t7 (List.mem_of_getElem? (i := 43) (by decide +kernel))) rfl, zy_mem (zy_t7 (List.mem_of_getElem? (i := 45) (by decide +kernel))) rfl, zy_mem (List.mem_append_left _ (List.mem_map.mpr ⟨(yX12_isAskAhead, 35), List.mem_of_getElem? (i := 74) (by decide +kernel), rfl⟩)) rfl⟩
theorem zc_X12_canWrong : zy_mc 2 mX12_canWrong := ⟨zy_mem (zy_t7 (List.mem_of_getElem? (i := 66) (by decide +kernel))) rfl, zy_mem (zy_t1 (List.mem_of_getElem? (i := 14) (by decide +kernel))) rfl, by decide +kernel, by decide +kernel⟩
theorem zr_12_353 : zy_mr 12 353 = (0, 12, 2, mX12_canWrong) := rfl
theorem zv_12_353 : zy_mv 12 353 := ⟨zc_X12_canWrong, ⟨TX12, 35, rfl⟩, zy_mem (zy_t7 (List.mem_of_getElem? (i := 63) (by decide +kernel))) rfl, zy_mem (zy_t7 (List.mem_of_getElem? (i := 65) (by decide +kernel))) rfl, zy_mem (List.mem_append_left _ (List.mem_map.mpr ⟨(yX12_canWrong, 35), List.mem_of_getElem? (i := 75) (by decide +kernel), rfl⟩)) rfl⟩
theorem zc_X12_isAbove : zy_mc 2 mX12_isAbove := ⟨zy_mem (zy_t7 (List.mem_of_getElem? (i := 70) (by decide +kernel))) rfl, zy_mem (zy_t1 (List.mem_of_getElem? (i := 14) (by decide +kernel))) rfl, by decide +kernel, by decide +kernel⟩
theorem zr_12_350 : zy_mr 12 350 = (0, 12, 2, mX12_isAbove) := rfl
theorem zv_12_350 : zy_mv 12 350 := ⟨zc_X12_isAbove, ⟨TX12, 35, rfl⟩, zy_mem (zy_t7 (List.mem_of_getElem? (i := 67) (by decide +kernel))) rfl, zy_mem (zy_t7 (List.mem_of_getElem? (i := 69) (by decide +kernel))) rfl, zy_mem (List.mem_append_left _ (List.mem_map.mpr ⟨(yX12_isAbove, 35), List.mem_of_getElem? (i := 76) (by decide +kernel), rfl⟩)) rfl⟩
theorem zc_X12_keep : zy_mc 0 mX12_keep := ⟨zy_mem (zy_t7 (List.mem_of_getElem? (i := 74) (by decide +kernel))) rfl, zy_mem (zy_t1 (List.mem_of_getElem? (i := 14) (by decide +kernel))) rfl, by decide +kernel, by decide +kernel⟩
theorem zr_12_356 : zy_mr 12 356 = (0, 12, 0, mX12_keep) := rfl
theorem zv_12_356 : zy_mv 12 356 := ⟨zc_X12_keep, ⟨TX12, 35, rfl⟩, zy_mem (zy_t7 (List.mem_of_getElem? (i := 71) (by decide +kernel))) rfl, zy_mem (zy_t7 (List.mem_of_getElem? (i := 73) (by decide +kernel))) rfl, zy_mem (List.mem_append_left _ (List.mem_map.mpr ⟨(yX12_keep, 35), List.mem_of_getElem? (i := 77) (by decide +kernel), rfl⟩)) rfl⟩
theorem zc_X12_wrongNow : zy_mc 3 mX12_wrongNow := ⟨zy_mem (zy_t7 (List.mem_of_getElem? (i := 78) (by decide +kernel))) rfl, zy_mem (zy_t1 (List.mem_of_getElem? (i := 14) (by decide +kernel))) rfl, by decide +kernel, by decide +kernel⟩
theorem zr_12_359 : zy_mr 12 359 = (0, 12, 3, mX12_wrongNow) := rfl
theorem zv_12_359 : zy_mv 12 359 := ⟨zc_X12_wrongNow, ⟨TX12, 35, rfl⟩, zy_mem (zy_t7 (List.mem_of_getElem? (i := 75) (by decide +kernel))) rfl, zy_mem (zy_t7 (List.mem_of_getElem? (i := 77) (by decide +kernel))) rfl, zy_mem (List.mem_append_left _ (List.mem_map.mpr ⟨(yX12_wrongNow, 35), List.mem_of_getElem? (i := 78) (by decide +kernel), rfl⟩)) rfl⟩
theorem zc_X12_put : zy_mc 3 mX12_put := ⟨zy_mem (zy_t7 (List.mem_of_getElem? (i := 82) (by decide +kernel))) rfl, zy_mem (zy_t1 (List.mem_of_getElem? (i := 14) (by decide +kernel))) rfl, by decide +kernel, by decide +kernel⟩
theorem zr_12_319 : zy_mr 12 319 = (0, 12, 3, mX12_put) := rfl
theorem zv_12_319 : zy_mv 12 319 := ⟨zc_X12_put, ⟨TX12, 35, rfl⟩, zy_mem (zy_t7 (List.mem_of_getElem? (i := 79) (by decide +kernel))) rfl, zy_mem (zy_t7 (List.mem_of_getElem? (i := 81) (by decide +kernel))) rfl, zy_mem (List.mem_append_left _ (List.mem_map.mpr ⟨(yX12_put, 35), List.mem_of_getElem? (i := 79) (by decide +kernel), rfl⟩)) rfl⟩
theorem zc_X12_canSend : zy_mc 2 mX12_canSend := ⟨zy_mem (zy_t7 (List.mem_of_getElem? (i := 94) (by decide +kernel))) rfl, zy_mem (zy_t1 (List.mem_of_getElem? (i := 14) (by decide +kernel))) rfl, by decide +kernel, by decide +kernel⟩
theorem zr_12_365 : zy_mr 12 365 = (0, 12, 2, mX12_canSend) := rfl
theorem zv_12_365 : zy_mv 12 365 := ⟨zc_X12_canSend, ⟨TX12, 35, rfl⟩, zy_mem (zy_t7 (List.mem_of_getElem? (i := 91) (by decide +kernel))) rfl, zy_mem (zy_t7 (List.mem_of_getElem? (i := 93) (by decide +kernel))) rfl, zy_mem (List.mem_append_left _ (List.mem_map.mpr ⟨(yX12_canSend, 35), List.mem_of_getElem? (i := 80) (by decide +kernel), rfl⟩)) rfl⟩
theorem zc_X12_isApology : zy_mc 1 mX12_isApology := ⟨zy_mem (zy_t7 (List.mem_of_getElem? (i := 98) (by decide +kernel))) rfl, zy_mem (zy_t1 (List.mem_of_getElem? (i := 14) (by decide +kernel))) rfl, by decide +kernel, by decide +kernel⟩
theorem zr_12_362 : zy_mr 12 362 = (0, 12, 1, mX12_isApology) := rfl
theorem zv_12_362 : zy_mv 12 362 := ⟨zc_X12_isApology, ⟨TX12, 35, rfl⟩, zy_mem (zy_t7 (List.mem_of_getElem? (i := 95) (by decide +kernel))) rfl, zy_mem (zy_t7 (List.mem_of_getElem? (i := 97) (by decide +kernel))) rfl, zy_mem (List.mem_append_left _ (List.mem_map.mpr ⟨(yX12_isApology, 35), List.mem_of_getElem? (i := 81) (by decide +kernel), rfl⟩)) rfl⟩
theorem zc_X12_get : zy_mc 2 mX12_get := ⟨zy_mem (zy_t7 (List.mem_of_getElem? (i := 102) (by decide +kernel))) rfl, zy_mem (zy_t1 (List.mem_of_getElem? (i := 14) (by decide +kernel))) rfl, by decide +kernel, by decide +kernel⟩
theorem zr_12_304 : zy_mr 12 304 = (0, 12, 2, mX12_get) := rfl
theorem zv_12_304 : zy_mv 12 304 := ⟨zc_X12_get, ⟨TX12, 35, rfl⟩, zy_mem (zy_t7 (List.mem_of_getElem? (i := 99) (by decide +kernel))) rfl, zy_mem (zy_t7 (List.mem_of_getElem? (i := 101) (by decide +kernel))) rfl, zy_mem (List.mem_append_left _ (List.mem_map.mpr ⟨(yX12_get, 35), List.mem_of_getElem? (i := 82) (by decide +kernel), rfl⟩)) rfl⟩
theorem zc_X12_arePassed : zy_mc 1 mX12_arePassed := ⟨zy_mem (zy_t7 (List.mem_of_getElem? (i := 110) (by decide +kernel))) rfl, zy_mem (zy_t1 (List.mem_of_getElem? (i := 14) (by decide +kernel))) rfl, by decide +kernel, by decide +kernel⟩
theorem zr_12_371 : zy_mr 12 371 = (0, 12, 1, mX12_arePassed) := rfl
theorem zv_12_371 : zy_mv 12 371 := ⟨zc_X12_arePassed, ⟨TX12, 35, rfl⟩, zy_mem (zy_t7 (List.mem_of_getElem? (i := 107) (by decide +kernel))) rfl, zy_mem (zy_t7 (List.mem_of_getElem? (i := 109) (by decide +kernel))) rfl, zy_mem (List.mem_append_left _ (List.mem_map.mpr ⟨(yX12_arePassed, 35), List.mem_of_getElem? (i := 83) (by decide +kernel), rfl⟩)) rfl⟩
theorem zc_X12_pass : zy_mc 0 mX12_pass := ⟨zy_mem (zy_t7 (List.mem_of_getElem? (i := 114) (by decide +kernel))) rfl, zy_mem (zy_t1 (List.mem_of_getElem? (i := 14) (by decide +kernel))) rfl, by decide +kernel, by decide +kernel⟩
theorem zr_12_368 : zy_mr 12 368 = (0, 12, 0, mX12_pass) := rfl
theorem zv_12_368 : zy_mv 12 368 := ⟨zc_X12_pass, ⟨TX12, 35, rfl⟩, zy_mem (zy_t7 (List.mem_of_getElem? (i := 111) (by decide +kernel))) rfl, zy_mem (zy_t7 (List.mem_of_getElem? (i := 113) (by decide +kernel))) rfl, zy_mem (List.mem_append_left _ (List.mem_map.mpr ⟨(yX12_pass, 35), List.mem_of_getElem? (i := 84) (by decide +kernel), rfl⟩)) rfl⟩
theorem zc_X12_goUp : zy_mc 1 mX12_goUp := ⟨zy_mem (zy_t7 (List.mem_of_getElem? (i := 118) (by decide +kernel))) rfl, zy_mem (zy_t1 (List.mem_of_getElem? (i := 14) (by decide +kernel))) rfl, by decide +kernel, by decide +kernel⟩
theorem zr_12_341 : zy_mr 12 341 = (0, 12, 1, mX12_goUp) := rfl
theorem zv_12_341 : zy_mv 12 341 := ⟨zc_X12_goUp, ⟨TX12, 35, rfl⟩, zy_mem (zy_t7 (List.mem_of_getElem? (i := 115) (by decide +kernel))) rfl, zy_mem (zy_t7 (List.mem_of_getElem? (i := 117) (by decide +kernel))) rfl, zy_mem (List.mem_append_left _ (List.mem_map.mpr ⟨(yX12_goUp, 35), List.mem_of_getElem? (i := 85) (by decide +kernel), rfl⟩)) rfl⟩
theorem zc_X12_nameApology : zy_mc 2 mX12_nameApology := ⟨zy_mem (zy_t7 (List.mem_of_getElem? (i := 122) (by decide +kernel))) rfl, zy_mem (zy_t1 (List.mem_of_getElem? (i := 14) (by decide +kernel))) rfl, by decide +kernel, by decide +kernel⟩
theorem zr_12_316 : zy_mr 12 316 = (0, 12, 2, mX12_nameApology) := rfl
theorem zv_12_316 : zy_mv 12 316 := ⟨zc_X12_nameApology, ⟨TX12, 35, rfl⟩, zy_mem (zy_t7 (List.mem_of_getElem? (i := 119) (by decide +kernel))) rfl, zy_mem (zy_t7 (List.mem_of_getElem? (i := 121) (by decide +kernel))) rfl, zy_mem (List.mem_append_left _ (List.mem_map.mpr ⟨(yX12_nameApology, 35), List.mem_of_getElem? (i := 86) (by decide +kernel), rfl⟩)) rfl⟩
theorem zc_X12_name : zy_mc 4 mX12_name := ⟨zy_mem (zy_t7 (List.mem_of_getElem? (i := 126) (by decide +kernel))) rfl, zy_mem (zy_t1 (List.mem_of_getElem? (i := 14) (by decide +kernel))) rfl, by decide +kernel, by decide +kernel⟩
theorem zr_12_297 : zy_mr 12 297 = (0, 12, 4, mX12_name) := rfl
theorem zv_12_297 : zy_mv 12 297 := ⟨zc_X12_name, ⟨TX12, 35, rfl⟩, zy_mem (zy_t7 (List.mem_of_getElem? (i := 123) (by decide +kernel))) rfl, zy_mem (zy_t7 (List.mem_of_getElem? (i := 125) (by decide +kernel))) rfl, zy_mem (List.mem_append_left _ (List.mem_map.mpr ⟨(yX12_name, 35), List.mem_of_getElem? (i := 87) (by decide +kernel), rfl⟩)) rfl⟩
theorem zc_X12_rankOf : zy_mc 1 mX12_rankOf := ⟨zy_mem (zy_t7 (List.mem_of_getElem? (i := 130) (by decide +kernel))) rfl, zy_mem (zy_t1 (List.mem_of_getElem? (i := 14) (by decide +kernel))) rfl, by decide +kernel, by decide +kernel⟩
theorem zr_12_262 : zy_mr 12 262 = (0, 12, 1, mX12_rankOf) := rfl
theorem zv_12_262 : zy_mv 12 262 := ⟨zc_X12_rankOf, ⟨TX12, 35, rfl⟩, zy_mem (zy_t7 (List.mem_of_getElem? (i := 127) (by decide +kernel))) rfl, zy_mem (zy_t7 (List.mem_of_getElem? (i := 129) (by decide +kernel))) rfl, zy_mem (List.mem_append_left _ (List.mem_map.mpr ⟨(yX12_rankOf, 35), List.mem_of_getElem? (i := 88) (by decide +kernel), rfl⟩)) rfl⟩
theorem zc_X12_deskOf : zy_mc 2 mX12_deskOf := ⟨zy_mem (zy_t7 (List.mem_of_getElem? (i := 134) (by decide +kernel))) rfl, zy_mem (zy_t1 (List.mem_of_getElem? (i := 14) (by decide +kernel))) rfl, by decide +kernel, by decide +kernel⟩
theorem zr_12_307 : zy_mr 12 307 = (0, 12, 2, mX12_deskOf) := rfl
theorem zv_12_307 : zy_mv 12 307 := ⟨zc_X12_deskOf, ⟨TX12, 35, rfl⟩, zy_mem (zy_t7 (List.mem_of_getElem? (i := 131) (by decide +kernel))) rfl, zy_mem (zy_t7 (List.mem_of_getElem? (i := 133) (by decide +kernel))) rfl, zy_mem (List.mem_append_left _ (List.mem_map.mpr ⟨(yX12_deskOf, 35), List.mem_of_getElem? (i := 89) (by decide +kernel), rfl⟩)) rfl⟩
theorem zc_X12_addsBy : zy_mc 1 mX12_addsBy := ⟨zy_mem (zy_t7 (List.mem_of_getElem? (i := 138) (by decide +kernel))) rfl, zy_mem (zy_t1 (List.mem_of_getElem? (i := 14) (by decide +kernel))) rfl, by decide +kernel, by decide +kernel⟩
theorem zr_12_301 : zy_mr 12 301 = (0, 12, 1, mX12_addsBy) := rfl
theorem zv_12_301 : zy_mv 12 301 := ⟨zc_X12_addsBy, ⟨TX12, 35, rfl⟩, zy_mem (zy_t7 (List.mem_of_getElem? (i := 135) (by decide +kernel))) rfl, zy_mem (zy_t7 (List.mem_of_getElem? (i := 137) (by decide +kernel))) rfl, zy_mem (List.mem_append_left _ (List.mem_map.mpr ⟨(yX12_addsBy, 35), List.mem_of_getElem? (i := 90) (by decide +kernel), rfl⟩)) rfl⟩
theorem zc_X12_says : zy_mc 4 mX12_says := ⟨zy_mem (zy_t7 (List.mem_of_getElem? (i := 142) (by decide +kernel))) rfl, zy_mem (zy_t1 (List.mem_of_getElem? (i := 14) (by decide +kernel))) rfl, by decide +kernel, by decide +kernel⟩
theorem zr_12_293 : zy_mr 12 293 = (0, 12, 4, mX12_says) := rfl
theorem zv_12_293 : zy_mv 12 293 := ⟨zc_X12_says, ⟨TX12, 35, rfl⟩, zy_mem (zy_t7 (List.mem_of_getElem? (i := 139) (by decide +kernel))) rfl, zy_mem (zy_t7 (List.mem_of_getElem? (i := 141) (by decide +kernel))) rfl, zy_mem (List.mem_append_left _ (List.mem_map.mpr ⟨(yX12_says, 35), List.mem_of_getElem? (i := 91) (by decide +kernel), rfl⟩)) rfl⟩
theorem zc_X12_summedUp : zy_mc 2 mX12_summedUp := ⟨zy_mem (zy_t7 (List.mem_of_getElem? (i := 146) (by decide +kernel))) rfl, zy_mem (zy_t1 (List.mem_of_getElem? (i := 14) (by decide +kernel))) rfl, by decide +kernel, by decide +kernel⟩
theorem zr_12_286 : zy_mr 12 286 = (0, 12, 2, mX12_summedUp) := rfl
theorem zv_12_286 : zy_mv 12 286 := ⟨zc_X12_summedUp, ⟨TX12, 35, rfl⟩, zy_mem (zy_t7 (List.mem_of_getElem? (i := 143) (by decide +kernel))) rfl, zy_mem (zy_t7 (List.mem_of_getElem? (i := 145) (by decide +kernel))) rfl, zy_mem (List.mem_append_left _ (List.mem_map.mpr ⟨(yX12_summedUp, 35), List.mem_of_getElem? (i := 92) (by decide +kernel), rfl⟩)) rfl⟩
theorem zc_X12_ranksOf : zy_mc 1 mX12_ranksOf := ⟨zy_mem (zy_t7 (List.mem_of_getElem? (i := 150) (by decide +kernel))) rfl, zy_mem (zy_t1 (List.mem_of_getElem? (i := 14) (by decide +kernel))) rfl, by decide +kernel, by decide +kernel⟩
theorem zr_12_267 : zy_mr 12 267 = (0, 12, 1, mX12_ranksOf) := rfl
theorem zv_12_267 : zy_mv 12 267 := ⟨zc_X12_ranksOf, ⟨TX12, 35, rfl⟩, zy_mem (zy_t7 (List.mem_of_getElem? (i := 147) (by decide +kernel))) rfl, zy_mem (zy_t7 (List.mem_of_getElem? (i := 149) (by decide +kernel))) rfl, zy_mem (List.mem_append_left _ (List.mem_map.mpr ⟨(yX12_ranksOf, 35), List.mem_of_getElem? (i := 93) (by decide +kernel), rfl⟩)) rfl⟩
theorem zc_X12_halved : zy_mc 2 mX12_halved := ⟨zy_mem (zy_t7 (List.mem_of_getElem? (i := 153) (by decide +kernel))) rfl, zy_mem (zy_t1 (List.mem_of_getElem? (i := 14) (by decide +kernel))) rfl, by decide +kernel, by decide +kernel⟩
theorem zr_12_270 : zy_mr 12 270 = (1, 12, 2, mX12_halved) := rfl
theorem zv_12_270 : zy_ms 12 270 := ⟨zc_X12_halved, zy_mem (zy_t7 (List.mem_of_getElem? (i := 152) (by decide +kernel))) rfl, Or.inl (zy_mem (zy_t7 (List.mem_of_getElem? (i := 151) (by decide +kernel))) rfl)⟩
theorem zc_X12_two : zy_mc 3 mX12_two := ⟨zy_mem (zy_t7 (List.mem_of_getElem? (i := 157) (by decide +kernel))) rfl, zy_mem (zy_t1 (List.mem_of_getElem? (i := 14) (by decide +kernel))) rfl, by decide +kernel, by decide +kernel⟩
theorem zr_12_274 : zy_mr 12 274 = (1, 12, 3, mX12_two) := rfl
theorem zv_12_274 : zy_ms 12 274 := ⟨zc_X12_two, zy_mem (zy_t7 (List.mem_of_getElem? (i := 156) (by decide +kernel))) rfl, Or.inl (zy_mem (zy_t7 (List.mem_of_getElem? (i := 155) (by decide +kernel))) rfl)⟩
theorem zc_X12_clip : zy_mc 1 mX12_clip := ⟨zy_mem (zy_t7 (List.mem_of_getElem? (i := 160) (by decide +kernel))) rfl, zy_mem (zy_t1 (List.mem_of_getElem? (i := 14) (by decide +kernel))) rfl, by decide +kernel, by decide +kernel⟩
theorem zr_12_258 : zy_mr 12 258 = (1, 12, 1, mX12_clip) := rfl
theorem zv_12_258 : zy_ms 12 258 := ⟨zc_X12_clip, zy_mem (zy_t7 (List.mem_of_getElem? (i := 159) (by decide +kernel))) rfl, Or.inl (zy_mem (zy_t7 (List.mem_of_getElem? (i := 158) (by decide +kernel))) rfl)⟩
theorem zc_X12_isAsked : zy_mc 3 mX12_isAsked := ⟨zy_mem (zy_t7 (List.mem_of_getElem? (i := 165) (by decide +kernel))) rfl, zy_mem (zy_t1 (List.mem_of_getElem? (i := 14) (by decide +kernel))) rfl, by decide +kernel, by decide +kernel⟩
theorem zr_12_278 : zy_mr 12 278 = (1, 12, 3, mX12_isAsked) := rfl
theorem zv_12_278 : zy_ms 12 278 := ⟨zc_X12_isAsked, zy_mem (zy_t7 (List.mem_of_getElem? (i := 164) (by decide +kernel))) rfl, Or.inl (zy_mem (zy_t7 (List.mem_of_getElem? (i := 163) (by decide +kernel))) rfl)⟩
theorem zc_X12_joined : zy_mc 3 mX12_joined := ⟨zy_mem (zy_t7 (List.mem_of_getElem? (i := 168) (by decide +kernel))) rfl, zy_mem (zy_t1 (List.mem_of_getElem? (i := 14) (by decide +kernel))) rfl, by decide +kernel, by decide +kernel⟩
theorem zr_12_282 : zy_mr 12 282 = (1, 12, 3, mX12_joined) := rfl
theorem zv_12_282 : zy_ms 12 282 := ⟨zc_X12_joined, zy_mem (zy_t7 (List.mem_of_getElem? (i := 167) (by decide +kernel))) rfl, Or.inl (zy_mem (zy_t7 (List.mem_of_getElem? (i := 166) (by decide +kernel))) rfl)⟩
theorem zc_X12_cut : zy_mc 3 mX12_cut := ⟨zy_mem (zy_t7 (List.mem_of_getElem? (i := 171) (by decide +kernel))) rfl, zy_mem (zy_t1 (List.mem_of_getElem? (i := 14) (by decide +kernel))) rfl, by decide +kernel, by decide +kernel⟩
theorem zr_12_289 : zy_mr 12 289 = (1, 12, 3, mX12_cut) := rfl
theorem zv_12_289 : zy_ms 12 289 := ⟨zc_X12_cut, zy_mem (zy_t7 (List.mem_of_getElem? (i := 170) (by decide +kernel))) rfl, Or.inl (zy_mem (zy_t7 (List.mem_of_getElem? (i := 169) (by decide +kernel))) rfl)⟩
theorem zc_X12_anew : zy_mc 0 mX12_anew := ⟨zy_mem (zy_t7 (List.mem_of_getElem? (i := 175) (by decide +kernel))) rfl, zy_mem (zy_t1 (List.mem_of_getElem? (i := 14) (by decide +kernel))) rfl, by decide +kernel, by decide +kernel⟩
theorem zr_12_323 : zy_mr 12 323 = (0, 12, 0, mX12_anew) := rfl
theorem zv_12_323 : zy_mv 12 323 := ⟨zc_X12_anew, ⟨TX12, 35, rfl⟩, zy_mem (zy_t7 (List.mem_of_getElem? (i := 172) (by decide +kernel))) rfl, zy_mem (zy_t7 (List.mem_of_getElem? (i := 174) (by decide +kernel))) rfl, zy_mem (List.mem_append_left _ (List.mem_map.mpr ⟨(yX12_anew, 35), List.mem_of_getElem? (i := 94) (by decide +kernel), rfl⟩)) rfl⟩
theorem zc_X12_write : zy_mc 2 mX12_write := ⟨zy_mem (zy_t7 (List.mem_of_getElem? (i := 182) (by decide +kernel))) rfl, zy_mem (zy_t1 (List.mem_of_getElem? (i := 14) (by decide +kernel))) rfl, by decide +kernel, by decide +kernel⟩
theorem zr_12_329 : zy_mr 12 329 = (0, 12, 2, mX12_write) := rfl
theorem zv_12_329 : zy_mv 12 329 := ⟨zc_X12_write, ⟨TX12, 35, rfl⟩, zy_mem (zy_t7 (List.mem_of_getElem? (i := 179) (by decide +kernel))) rfl, zy_mem (zy_t7 (List.mem_of_getElem? (i := 181) (by decide +kernel))) rfl, zy_mem (List.mem_append_left _ (List.mem_map.mpr ⟨(yX12_write, 35), List.mem_of_getElem? (i := 95) (by decide +kernel), rfl⟩)) rfl⟩
theorem zc_X12_goDown : zy_mc 1 mX12_goDown := ⟨zy_mem (zy_t7 (List.mem_of_getElem? (i := 186) (by decide +kernel))) rfl, zy_mem (zy_t1 (List.mem_of_getElem? (i := 14) (by decide +kernel))) rfl, by decide +kernel, by decide +kernel⟩
theorem zr_12_344 : zy_mr 12 344 = (0, 12, 1, mX12_goDown) := rfl
theorem zv_12_344 : zy_mv 12 344 := ⟨zc_X12_goDown, ⟨TX12, 35, rfl⟩, zy_mem (zy_t7 (List.mem_of_getElem? (i := 183) (by decide +kernel))) rfl, zy_mem (zy_t7 (List.mem_of_getElem? (i := 185) (by decide +kernel))) rfl, zy_mem (List.mem_append_left _ (List.mem_map.mpr ⟨(yX12_goDown, 35), List.mem_of_getElem? (i := 96) (by decide +kernel), rfl⟩)) rfl⟩
theorem zc_X12_downTo : zy_mc 2 mX12_downTo := ⟨zy_mem (zy_t7 (List.mem_of_getElem? (i := 190) (by decide +kernel))) rfl, zy_mem (zy_t1 (List.mem_of_getElem? (i := 14) (by decide +kernel))) rfl, by decide +kernel, by decide +kernel⟩
theorem zr_12_335 : zy_mr 12 335 = (0, 12, 2, mX12_downTo) := rfl
theorem zv_12_335 : zy_mv 12 335 := ⟨zc_X12_downTo, ⟨TX12, 35, rfl⟩, zy_mem (zy_t7 (List.mem_of_getElem? (i := 187) (by decide +kernel))) rfl, zy_mem (zy_t7 (List.mem_of_getElem? (i := 189) (by decide +kernel))) rfl, zy_mem (List.mem_append_left _ (List.mem_map.mpr ⟨(yX12_downTo, 35), List.mem_of_getElem? (i := 97) (by decide +kernel), rfl⟩)) rfl⟩
theorem zc_X12_finish : zy_mc 2 mX12_finish := ⟨zy_mem (zy_t7 (List.mem_of_getElem? (i := 194) (by decide +kernel))) rfl, zy_mem (zy_t1 (List.mem_of_getElem? (i := 14) (by decide +kernel))) rfl, by decide +kernel, by decide +kernel⟩
theorem zr_12_338 : zy_mr 12 338 = (0, 12, 2, mX12_finish) := rfl
theorem zv_12_338 : zy_mv 12 338 := ⟨zc_X12_finish, ⟨TX12, 35, rfl⟩, zy_mem (zy_t7 (List.mem_of_getElem? (i := 191) (by decide +kernel))) rfl, zy_mem (zy_t7 (List.mem_of_getElem? (i := 193) (by decide +kernel))) rfl, zy_mem (List.mem_append_left _ (List.mem_map.mpr ⟨(yX12_finish, 35), List.mem_of_getElem? (i := 98) (by decide +kernel), rfl⟩)) rfl⟩
theorem zc_X12_merge : zy_mc 2 mX12_merge := ⟨zy_mem (zy_t7 (List.mem_of_getElem? (i := 198) (by decide +kernel))) rfl, zy_mem (zy_t1 (List.mem_of_getElem? (i := 14) (by decide +kernel))) rfl, by decide +kernel, by decide +kernel⟩
theorem zr_12_347 : zy_mr 12 347 = (0, 12, 2, mX12_merge) := rfl
theorem zv_12_347 : zy_mv 12 347 := ⟨zc_X12_merge, ⟨TX12, 35, rfl⟩, zy_mem (zy_t7 (List.mem_of_getElem? (i := 195) (by decide +kernel))) rfl, zy_mem (zy_t7 (List.mem_of_getElem? (i := 197) (by decide +kernel))) rfl, zy_mem (List.mem_append_left _ (List.mem_map.mpr ⟨(yX12_merge, 35), List.mem_of_getElem? (i := 99) (by decide +kernel), rfl⟩)) rfl⟩
theorem zc_X12_isPlayed : zy_mc 1 mX12_isPlayed := ⟨zy_mem (zy_t7 (List.mem_of_getElem? (i := 206) (by decide +kernel))) rfl, zy_mem (zy_t1 (List.mem_of_getElem? (i := 14) (by decide +kernel))) rfl, by decide +kernel, by decide +kernel⟩
theorem zr_12_389 : zy_mr 12 389 = (0, 12, 1, mX12_isPlayed) := rfl
theorem zv_12_389 : zy_mv 12 389 := ⟨zc_X12_isPlayed, ⟨TX12, 35, rfl⟩, zy_mem (zy_t7 (List.mem_of_getElem? (i := 203) (by decide +kernel))) rfl, zy_mem (zy_t7 (List.mem_of_getElem? (i := 205) (by decide +kernel))) rfl, zy_mem (List.mem_append_left _ (List.mem_map.mpr ⟨(yX12_isPlayed, 35), List.mem_of_getElem? (i := 100) (by decide +kernel), rfl⟩)) rfl⟩
theorem zc_X12_officer : zy_mc 2 mX12_officer := ⟨zy_mem (zy_t6 (List.mem_of_getElem? (i := 115) (by decide +kernel))) rfl, zy_mem (zy_t1 (List.mem_of_getElem? (i := 14) (by decide +kernel))) rfl, by decide +kernel, by decide +kernel⟩
theorem zr_12_374 : zy_mr 12 374 = (0, 12, 2, mX12_officer) := rfl
theorem zv_12_374 : zy_mv 12 374 := ⟨zc_X12_officer, ⟨TX12, 35, rfl⟩, zy_mem (zy_t7 (List.mem_of_getElem? (i := 207) (by decide +kernel))) rfl, zy_mem (zy_t6 (List.mem_of_getElem? (i := 113) (by decide +kernel))) rfl, zy_mem (zy_t6 (List.mem_of_getElem? (i := 114) (by decide +kernel))) rfl⟩
theorem zc_X12_cousin : zy_mc 2 mX12_cousin := ⟨zy_mem (zy_t6 (List.mem_of_getElem? (i := 126) (by decide +kernel))) rfl, zy_mem (zy_t1 (List.mem_of_getElem? (i := 14) (by decide +kernel))) rfl, by decide +kernel, by decide +kernel⟩
theorem zr_12_377 : zy_mr 12 377 = (0, 12, 2, mX12_cousin) := rfl
theorem zv_12_377 : zy_mv 12 377 := ⟨zc_X12_cousin, ⟨TX12, 35, rfl⟩, zy_mem (zy_t7 (List.mem_of_getElem? (i := 208) (by decide +kernel))) rfl, zy_mem (zy_t6 (List.mem_of_getElem? (i := 124) (by decide +kernel))) rfl, zy_mem (zy_t6 (List.mem_of_getElem? (i := 125) (by decide +kernel))) rfl⟩
theorem zc_X12_wrong : zy_mc 3 mX12_wrong := ⟨zy_mem (zy_t7 (List.mem_of_getElem? (i := 62) (by decide +kernel))) rfl, zy_mem (zy_t1 (List.mem_of_getElem? (i := 14) (by decide +kernel))) rfl, by decide +kernel, by decide +kernel⟩
theorem zr_12_380 : zy_mr 12 380 = (0, 12, 3, mX12_wrong) := rfl
theorem zv_12_380 : zy_mv 12 380 := ⟨zc_X12_wrong, ⟨TX12, 35, rfl⟩, zy_mem (zy_t7 (List.mem_of_getElem? (i := 209) (by decide +kernel))) rfl, zy_mem (zy_t7 (List.mem_of_getElem? (i := 60) (by decide +kernel))) rfl, zy_mem (zy_t7 (List.mem_of_getElem? (i := 61) (by decide +kernel))) rfl⟩
theorem zc_X12_away : zy_mc 2 mX12_away := ⟨zy_mem (zy_t7 (List.mem_of_getElem? (i := 86) (by decide +kernel))) rfl, zy_mem (zy_t1 (List.mem_of_getElem? (i := 14) (by decide +kernel))) rfl, by decide +kernel, by decide +kernel⟩
theorem zr_12_383 : zy_mr 12 383 = (0, 12, 2, mX12_away) := rfl
theorem zv_12_383 : zy_mv 12 383 := ⟨zc_X12_away, ⟨TX12, 35, rfl⟩, zy_mem (zy_t7 (List.mem_of_getElem? (i := 210) (by decide +kernel))) rfl, zy_mem (zy_t7 (List.mem_of_getElem? (i := 84) (by decide +kernel))) rfl, zy_mem (zy_t7 (List.mem_of_getElem? (i := 85) (by decide +kernel))) rfl⟩
theorem zc_X12_sideways : zy_mc 2 mX12_sideways := ⟨zy_mem (zy_t7 (List.mem_of_getElem? (i := 90) (by decide +kernel))) rfl, zy_mem (zy_t1 (List.mem_of_getElem? (i := 14) (by decide +kernel))) rfl, by decide +kernel, by decide +kernel⟩
theorem zr_12_386 : zy_mr 12 386 = (0, 12, 2, mX12_sideways) := rfl
theorem zv_12_386 : zy_mv 12 386 := ⟨zc_X12_sideways, ⟨TX12, 35, rfl⟩, zy_mem (zy_t7 (List.mem_of_getElem? (i := 211) (by decide +kernel))) rfl, zy_mem (zy_t7 (List.mem_of_getElem? (i := 88) (by decide +kernel))) rfl, zy_mem (zy_t7 (List.mem_of_getElem? (i := 89) (by decide +kernel))) rfl⟩
theorem zc_X12_happens : zy_mc 1 mX12_happens := ⟨zy_mem (zy_t7 (List.mem_of_getElem? (i := 219) (by decide +kernel))) rfl, zy_mem (zy_t1 (List.mem_of_getElem? (i := 14) (by decide +kernel))) rfl, by decide +kernel, by decide +kernel⟩
theorem zr_12_392 : zy_mr 12 392 = (0, 12, 1, mX12_happens) := rfl
theorem zv_12_392 : zy_mv 12 392 := ⟨zc_X12_happens, ⟨TX12, 35, rfl⟩, zy_mem (zy_t7 (List.mem_of_getElem? (i := 216) (by decide +kernel))) rfl, zy_mem (zy_t7 (List.mem_of_getElem? (i := 218) (by decide +kernel))) rfl, zy_mem (List.mem_append_left _ (List.mem_map.mpr ⟨(yX12_happens, 35), List.mem_of_getElem? (i := 101) (by decide +kernel), rfl⟩)) rfl⟩
theorem zc_X12_addsOf : zy_mc 2 mX12_addsOf := ⟨zy_mem (zy_t7 (List.mem_of_getElem? (i := 227) (by decide +kernel))) rfl, zy_mem (zy_t1 (List.mem_of_getElem? (i := 14) (by decide +kernel))) rfl, by decide +kernel, by decide +kernel⟩
theorem zr_12_395 : zy_mr 12 395 = (0, 12, 2, mX12_addsOf) := rfl
theorem zv_12_395 : zy_mv 12 395 := ⟨zc_X12_addsOf, ⟨TX12, 35, rfl⟩, zy_mem (zy_t7 (List.mem_of_getElem? (i := 224) (by decide +kernel))) rfl, zy_mem (zy_t7 (List.mem_of_getElem? (i := 226) (by decide +kernel))) rfl, zy_mem (List.mem_append_left _ (List.mem_map.mpr ⟨(yX12_addsOf, 35), List.mem_of_getElem? (i := 102) (by decide +kernel), rfl⟩)) rfl⟩
theorem zc_X12_belowOf : zy_mc 1 mX12_belowOf := ⟨zy_mem (zy_t7 (List.mem_of_getElem? (i := 231) (by decide +kernel))) rfl, zy_mem (zy_t1 (List.mem_of_getElem? (i := 14) (by decide +kernel))) rfl, by decide +kernel, by decide +kernel⟩
theorem zr_12_398 : zy_mr 12 398 = (0, 12, 1, mX12_belowOf) := rfl
theorem zv_12_398 : zy_mv 12 398 := ⟨zc_X12_belowOf, ⟨TX12, 35, rfl⟩, zy_mem (zy_t7 (List.mem_of_getElem? (i := 228) (by decide +kernel))) rfl, zy_mem (zy_t7 (List.mem_of_getElem? (i := 230) (by decide +kernel))) rfl, zy_mem (List.mem_append_left _ (List.mem_map.mpr ⟨(yX12_belowOf, 35), List.mem_of_getElem? (i := 103) (by decide +kernel), rfl⟩)) rfl⟩
theorem zc_X12_book : zy_mc 2 mX12_book := ⟨zy_mem (zy_t8 (List.mem_of_getElem? (i := 3) (by decide +kernel))) rfl, zy_mem (zy_t1 (List.mem_of_getElem? (i := 14) (by decide +kernel))) rfl, by decide +kernel, by decide +kernel⟩
theorem zr_12_402 : zy_mr 12 402 = (0, 12, 2, mX12_book) := rfl
theorem zv_12_402 : zy_mv 12 402 := ⟨zc_X12_book, ⟨TX12, 35, rfl⟩, zy_mem (zy_t8 (List.mem_of_getElem? (i := 9) (by decide +kernel))) rfl, zy_mem (zy_t8 (List.mem_of_getElem? (i := 1) (by decide +kernel))) rfl, zy_mem (zy_t8 (List.mem_of_getElem? (i := 2) (by decide +kernel))) rfl⟩
theorem zc_X12_setAside : zy_mc 0 mX12_setAside := ⟨zy_mem (zy_t8 (List.mem_of_getElem? (i := 33) (by decide +kernel))) rfl, zy_mem (zy_t1 (List.mem_of_getElem? (i := 14) (by decide +kernel))) rfl, by decide +kernel, by decide +kernel⟩
theorem zr_12_405 : zy_mr 12 405 = (0, 12, 0, mX12_setAside) := rfl
theorem zv_12_405 : zy_mv 12 405 := ⟨zc_X12_setAside, ⟨TX12, 35, rfl⟩, zy_mem (zy_t8 (List.mem_of_getElem? (i := 30) (by decide +kernel))) rfl, zy_mem (zy_t8 (List.mem_of_getElem? (i := 32) (by decide +kernel))) rfl, zy_mem (List.mem_append_left _ (List.mem_map.mpr ⟨(yX12_setAside, 35), List.mem_of_getElem? (i := 104) (by decide +kernel), rfl⟩)) rfl⟩
theorem zc_X12_putBack : zy_mc 0 mX12_putBack := ⟨zy_mem (zy_t8 (List.mem_of_getElem? (i := 37) (by decide +kernel))) rfl, zy_mem (zy_t1 (List.mem_of_getElem? (i := 14) (by decide +kernel))) rfl, by decide +kernel, by decide +kernel⟩
theorem zr_12_408 : zy_mr 12 408 = (0, 12, 0, mX12_putBack) := rfl
theorem zv_12_408 : zy_mv 12 408 := ⟨zc_X12_putBack, ⟨TX12, 35, rfl⟩, zy_mem (zy_t8 (List.mem_of_getElem? (i := 34) (by decide +kernel))) rfl, zy_mem (zy_t8 (List.mem_of_getElem? (i := 36) (by decide +kernel))) rfl, zy_mem (List.mem_append_left _ (List.mem_map.mpr ⟨(yX12_putBack, 35), List.mem_of_getElem? (i := 105) (by decide +kernel), rfl⟩)) rfl⟩
theorem zc_X12_meetOf : zy_mc 2 mX12_meetOf := ⟨zy_mem (zy_t8 (List.mem_of_getElem? (i := 49) (by decide +kernel))) rfl, zy_mem (zy_t1 (List.mem_of_getElem? (i := 14) (by decide +kernel))) rfl, by decide +kernel, by decide +kernel⟩
theorem zr_12_411 : zy_mr 12 411 = (0, 12, 2, mX12_meetOf) := rfl
theorem zv_12_411 : zy_mv 12 411 := ⟨zc_X12_meetOf, ⟨TX12, 35, rfl⟩, zy_mem (zy_t8 (List.mem_of_getElem? (i := 46) (by decide +kernel))) rfl, zy_mem (zy_t8 (List.mem_of_getElem? (i := 48) (by decide +kernel))) rfl, zy_mem (List.mem_append_left _ (List.mem_map.mpr ⟨(yX12_meetOf, 35), List.mem_of_getElem? (i := 106) (by decide +kernel), rfl⟩)) rfl⟩
theorem zc_X12_stepsOf : zy_mc 2 mX12_stepsOf := ⟨zy_mem (zy_t8 (List.mem_of_getElem? (i := 57) (by decide +kernel))) rfl, zy_mem (zy_t1 (List.mem_of_getElem? (i := 14) (by decide +kernel))) rfl, by decide +kernel, by decide +kernel⟩
theorem zr_12_414 : zy_mr 12 414 = (0, 12, 2, mX12_stepsOf) := rfl
theorem zv_12_414 : zy_mv 12 414 := ⟨zc_X12_stepsOf, ⟨TX12, 35, rfl⟩, zy_mem (zy_t8 (List.mem_of_getElem? (i := 54) (by decide +kernel))) rfl, zy_mem (zy_t8 (List.mem_of_getElem? (i := 56) (by decide +kernel))) rfl, zy_mem (List.mem_append_left _ (List.mem_map.mpr ⟨(yX12_stepsOf, 35), List.mem_of_getElem? (i := 107) (by decide +kernel), rfl⟩)) rfl⟩
theorem zc_X12_layRoute : zy_mc 2 mX12_layRoute := ⟨zy_mem (zy_t8 (List.mem_of_getElem? (i := 65) (by decide +kernel))) rfl, zy_mem (zy_t1 (List.mem_of_getElem? (i := 14) (by decide +kernel))) rfl, by decide +kernel, by decide +kernel⟩
theorem zr_12_440 : zy_mr 12 440 = (0, 12, 2, mX12_layRoute) := rfl
theorem zv_12_440 : zy_mv 12 440 := ⟨zc_X12_layRoute, ⟨TX12, 35, rfl⟩, zy_mem (zy_t8 (List.mem_of_getElem? (i := 62) (by decide +kernel))) rfl, zy_mem (zy_t8 (List.mem_of_getElem? (i := 64) (by decide +kernel))) rfl, zy_mem (List.mem_append_left _ (List.mem_map.mpr ⟨(yX12_layRoute, 35), List.mem_of_getElem? (i := 108) (by decide +kernel), rfl⟩)) rfl⟩
theorem zc_X12_layDays : zy_mc 1 mX12_layDays := ⟨zy_mem (zy_t8 (List.mem_of_getElem? (i := 69) (by decide +kernel))) rfl, zy_mem (zy_t1 (List.mem_of_getElem? (i := 14) (by decide +kernel))) rfl, by decide +kernel, by decide +kernel⟩
theorem zr_12_427 : zy_mr 12 427 = (0, 12, 1, mX12_layDays) := rfl
theorem zv_12_427 : zy_mv 12 427 := ⟨zc_X12_layDays, ⟨TX12, 35, rfl⟩, zy_mem (zy_t8 (List.mem_of_getElem? (i := 66) (by decide +kernel))) rfl, zy_mem (zy_t8 (List.mem_of_getElem? (i := 68) (by decide +kernel))) rfl, zy_mem (List.mem_append_left _ (List.mem_map.mpr ⟨(yX12_layDays, 35), List.mem_of_getElem? (i := 109) (by decide +kernel), rfl⟩)) rfl⟩
theorem zc_X12_daysOf : zy_mc 3 mX12_daysOf := ⟨zy_mem (zy_t8 (List.mem_of_getElem? (i := 74) (by decide +kernel))) rfl, zy_mem (zy_t1 (List.mem_of_getElem? (i := 14) (by decide +kernel))) rfl, by decide +kernel, by decide +kernel⟩
theorem zr_12_418 : zy_mr 12 418 = (0, 12, 3, mX12_daysOf) := rfl
theorem zv_12_418 : zy_mv 12 418 := ⟨zc_X12_daysOf, ⟨TX12, 35, rfl⟩, zy_mem (zy_t8 (List.mem_of_getElem? (i := 71) (by decide +kernel))) rfl, zy_mem (zy_t8 (List.mem_of_getElem? (i := 73) (by decide +kernel))) rfl, zy_mem (List.mem_append_left _ (List.mem_map.mpr ⟨(yX12_daysOf, 35), List.mem_of_getElem? (i := 110) (by decide +kernel), rfl⟩)) rfl⟩
theorem zc_X12_nextOf : zy_mc 3 mX12_nextOf := ⟨zy_mem (zy_t8 (List.mem_of_getElem? (i := 78) (by decide +kernel))) rfl, zy_mem (zy_t1 (List.mem_of_getElem? (i := 14) (by decide +kernel))) rfl, by decide +kernel, by decide +kernel⟩
theorem zr_12_430 : zy_mr 12 430 = (0, 12, 3, mX12_nextOf) := rfl
theorem zv_12_430 : zy_mv 12 430 := ⟨zc_X12_nextOf, ⟨TX12, 35, rfl⟩, zy_mem (zy_t8 (List.mem_of_getElem? (i := 75) (by decide +kernel))) rfl, zy_mem (zy_t8 (List.mem_of_getElem? (i := 77) (by decide +kernel))) rfl, zy_mem (List.mem_append_left _ (List.mem_map.mpr ⟨(yX12_nextOf, 35), List.mem_of_getElem? (i := 111) (by decide +kernel), rfl⟩)) rfl⟩
theorem zc_X12_takeWay : zy_mc 1 mX12_takeWay := ⟨zy_mem (zy_t8 (List.mem_of_getElem? (i := 82) (by decide +kernel))) rfl, zy_mem (zy_t1 (List.mem_of_getElem? (i := 14) (by decide +kernel))) rfl, by decide +kernel, by decide +kernel⟩
theorem zr_12_433 : zy_mr 12 433 = (0, 12, 1, mX12_takeWay) := rfl
theorem zv_12_433 : zy_mv 12 433 := ⟨zc_X12_takeWay, ⟨TX12, 35, rfl⟩, zy_mem (zy_t8 (List.mem_of_getElem? (i := 79) (by decide +kernel))) rfl, zy_mem (zy_t8 (List.mem_of_getElem? (i := 81) (by decide +kernel))) rfl, zy_mem (List.mem_append_left _ (List.mem_map.mpr ⟨(yX12_takeWay, 35), List.mem_of_getElem? (i := 112) (by decide +kernel), rfl⟩)) rfl⟩
theorem zc_X12_sizeBehind : zy_mc 5 mX12_sizeBehind := ⟨zy_mem (zy_t8 (List.mem_of_getElem? (i := 86) (by decide +kernel))) rfl, zy_mem (zy_t1 (List.mem_of_getElem? (i := 14) (by decide +kernel))) rfl, by decide +kernel, by decide +kernel⟩
theorem zr_12_436 : zy_mr 12 436 = (0, 12, 5, mX12_sizeBehind) := rfl
theorem zv_12_436 : zy_mv 12 436 := ⟨zc_X12_sizeBehind, ⟨TX12, 35, rfl⟩, zy_mem (zy_t8 (List.mem_of_getElem? (i := 83) (by decide +kernel))) rfl, zy_mem (zy_t8 (List.mem_of_getElem? (i := 85) (by decide +kernel))) rfl, zy_mem (List.mem_append_left _ (List.mem_map.mpr ⟨(yX12_sizeBehind, 35), List.mem_of_getElem? (i := 113) (by decide +kernel), rfl⟩)) rfl⟩
theorem zc_X12_laySets : zy_mc 1 mX12_laySets := ⟨zy_mem (zy_t8 (List.mem_of_getElem? (i := 98) (by decide +kernel))) rfl, zy_mem (zy_t1 (List.mem_of_getElem? (i := 14) (by decide +kernel))) rfl, by decide +kernel, by decide +kernel⟩
theorem zr_12_446 : zy_mr 12 446 = (0, 12, 1, mX12_laySets) := rfl
theorem zv_12_446 : zy_mv 12 446 := ⟨zc_X12_laySets, ⟨TX12, 35, rfl⟩, zy_mem (zy_t8 (List.mem_of_getElem? (i := 95) (by decide +kernel))) rfl, zy_mem (zy_t8 (List.mem_of_getElem? (i := 97) (by decide +kernel))) rfl, zy_mem (List.mem_append_left _ (List.mem_map.mpr ⟨(yX12_laySets, 35), List.mem_of_getElem? (i := 114) (by decide +kernel), rfl⟩)) rfl⟩
theorem zc_X12_bits : zy_mc 1 mX12_bits := ⟨zy_mem (zy_t8 (List.mem_of_getElem? (i := 109) (by decide +kernel))) rfl, zy_mem (zy_t1 (List.mem_of_getElem? (i := 14) (by decide +kernel))) rfl, by decide +kernel, by decide +kernel⟩
theorem zr_12_449 : zy_mr 12 449 = (1, 12, 1, mX12_bits) := rfl
theorem zv_12_449 : zy_ms 12 449 := ⟨zc_X12_bits, zy_mem (zy_t8 (List.mem_of_getElem? (i := 108) (by decide +kernel))) rfl, Or.inl (zy_mem (zy_t8 (List.mem_of_getElem? (i := 107) (by decide +kernel))) rfl)⟩
theorem zc_X12_weightOf : zy_mc 1 mX12_weightOf := ⟨zy_mem (zy_t8 (List.mem_of_getElem? (i := 125) (by decide +kernel))) rfl, zy_mem (zy_t1 (List.mem_of_getElem? (i := 14) (by decide +kernel))) rfl, by decide +kernel, by decide +kernel⟩
theorem zr_12_452 : zy_mr 12 452 = (0, 12, 1, mX12_weightOf) := rfl
theorem zv_12_452 : zy_mv 12 452 := ⟨zc_X12_weightOf, ⟨TX12, 35, rfl⟩, zy_mem (zy_t8 (List.mem_of_getElem? (i := 122) (by decide +kernel))) rfl, zy_mem (zy_t8 (List.mem_of_getElem? (i := 124) (by decide +kernel))) rfl, zy_mem (List.mem_append_left _ (List.mem_map.mpr ⟨(yX12_weightOf, 35), List.mem_of_getElem? (i := 115) (by decide +kernel), rfl⟩)) rfl⟩
theorem zc_X12_areApart : zy_mc 1 mX12_areApart := ⟨zy_mem (zy_t8 (List.mem_of_getElem? (i := 129) (by decide +kernel))) rfl, zy_mem (zy_t1 (List.mem_of_getElem? (i := 14) (by decide +kernel))) rfl, by decide +kernel, by decide +kernel⟩
theorem zr_12_455 : zy_mr 12 455 = (0, 12, 1, mX12_areApart) := rfl
theorem zv_12_455 : zy_mv 12 455 := ⟨zc_X12_areApart, ⟨TX12, 35, rfl⟩, zy_mem (zy_t8 (List.mem_of_getElem? (i := 126) (by decide +kernel))) rfl, zy_mem (zy_t8 (List.mem_of_getElem? (i := 128) (by decide +kernel))) rfl, zy_mem (List.mem_append_left _ (List.mem_map.mpr ⟨(yX12_areApart, 35), List.mem_of_getElem? (i := 116) (by decide +kernel), rfl⟩)) rfl⟩
theorem zc_X12_standFor : zy_mc 1 mX12_standFor := ⟨zy_mem (zy_t8 (List.mem_of_getElem? (i := 149) (by decide +kernel))) rfl, zy_mem (zy_t1 (List.mem_of_getElem? (i := 14) (by decide +kernel))) rfl, by decide +kernel, by decide +kernel⟩
theorem zr_12_458 : zy_mr 12 458 = (0, 12, 1, mX12_standFor) := rfl
theorem zv_12_458 : zy_mv 12 458 := ⟨zc_X12_standFor, ⟨TX12, 35, rfl⟩, zy_mem (zy_t8 (List.mem_of_getElem? (i := 146) (by decide +kernel))) rfl, zy_mem (zy_t8 (List.mem_of_getElem? (i := 148) (by decide +kernel))) rfl, zy_mem (List.mem_append_left _ (List.mem_map.mpr ⟨(yX12_standFor, 35), List.mem_of_getElem? (i := 117) (by decide +kernel), rfl⟩)) rfl⟩
theorem zk_2_90 : Cond.constantLong (zy_on 2) 90 (zy_kl 2 90) ∈ zy_T := zy_mem (zy_t4 (List.mem_of_getElem? (i := 119) (by decide +kernel))) rfl
theorem zl_2_90 : zy_kl 2 90 = 1000000 := rfl
theorem zk_2_93 : Cond.constantLong (zy_on 2) 93 (zy_kl 2 93) ∈ zy_T := zy_mem (zy_t4 (List.mem_of_getElem? (i := 121) (by decide +kernel))) rfl
theorem zl_2_93 : zy_kl 2 93 = (-1000000) := rfl
theorem zk_12_115 : Cond.constantLong (zy_on 12) 115 (zy_kl 12 115) ∈ zy_T := zy_mem (zy_t6 (List.mem_of_getElem? (i := 165) (by decide +kernel))) rfl
theorem zl_12_115 : zy_kl 12 115 = 1152921504606846976 := rfl
theorem zk_12_265 : Cond.constantLong (zy_on 12) 265 (zy_kl 12 265) ∈ zy_T := zy_mem (zy_t7 (List.mem_of_getElem? (i := 154) (by decide +kernel))) rfl
theorem zl_12_265 : zy_kl 12 265 = 2 := rfl
theorem zk_12_254 : Cond.constantLong (zy_on 12) 254 (zy_kl 12 254) ∈ zy_T := zy_mem (zy_t7 (List.mem_of_getElem? (i := 161) (by decide +kernel))) rfl
theorem zl_12_254 : zy_kl 12 254 = 1000000 := rfl
theorem zk_12_256 : Cond.constantLong (zy_on 12) 256 (zy_kl 12 256) ∈ zy_T := zy_mem (zy_t7 (List.mem_of_getElem? (i := 162) (by decide +kernel))) rfl
theorem zl_12_256 : zy_kl 12 256 = (-1000000) := rfl
theorem zk_12_310 : Cond.constantLong (zy_on 12) 310 (zy_kl 12 310) ∈ zy_T := zy_mem (zy_t7 (List.mem_of_getElem? (i := 176) (by decide +kernel))) rfl
theorem zl_12_310 : zy_kl 12 310 = 421 := rfl
theorem zk_12_312 : Cond.constantLong (zy_on 12) 312 (zy_kl 12 312) ∈ zy_T := zy_mem (zy_t7 (List.mem_of_getElem? (i := 177) (by decide +kernel))) rfl
theorem zl_12_312 : zy_kl 12 312 = 307 := rfl
theorem zk_12_314 : Cond.constantLong (zy_on 12) 314 (zy_kl 12 314) ∈ zy_T := zy_mem (zy_t7 (List.mem_of_getElem? (i := 178) (by decide +kernel))) rfl
theorem zl_12_314 : zy_kl 12 314 = 30539 := rfl
theorem zk_2_92 : Cond.constant (zy_on 2) 92 (1000000) ∈ zy_T := zy_mem (zy_t4 (List.mem_of_getElem? (i := 120) (by decide +kernel))) rfl
theorem zk_2_95 : Cond.constant (zy_on 2) 95 (-1000000) ∈ zy_T := zy_mem (zy_t4 (List.mem_of_getElem? (i := 122) (by decide +kernel))) rfl
theorem zk_8_62 : Cond.constant (zy_on 8) 62 (1048576) ∈ zy_T := zy_mem (zy_t5 (List.mem_of_getElem? (i := 120) (by decide +kernel))) rfl
theorem zk_12_107 : Cond.constant (zy_on 12) 107 (99999) ∈ zy_T := zy_mem (zy_t6 (List.mem_of_getElem? (i := 161) (by decide +kernel))) rfl
theorem zk_12_401 : Cond.constant (zy_on 12) 401 (40000) ∈ zy_T := zy_mem (zy_t8 (List.mem_of_getElem? (i := 4) (by decide +kernel))) rfl
theorem zk_12_417 : Cond.constant (zy_on 12) 417 (1000000000) ∈ zy_T := zy_mem (zy_t8 (List.mem_of_getElem? (i := 70) (by decide +kernel))) rfl
