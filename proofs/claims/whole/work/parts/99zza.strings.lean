/-! ===== printed: the methods of String that spelling asks ===== -/
def zj_coder : zm_Me := (yJ0_coder_7d493, cJ0_coder_7d493, 1, (some .byte))
theorem zj_c_coder : zy_mc 0 zj_coder := ⟨zy_mem (zy_t3 (List.mem_of_getElem? (i := 54) (by decide +kernel))) rfl, zy_mem (zy_t1 (List.mem_of_getElem? (i := 16) (by decide +kernel))) rfl, by decide +kernel, by decide +kernel⟩
theorem dJ0_coder_7d493_0 : decode cJ0_coder_7d493 0 = .ok (.getstatic 38, 3) := by decide +kernel
theorem dJ0_coder_7d493_3 : decode cJ0_coder_7d493 3 = .ok (.ifCond .eq 10, 3) := by decide +kernel
theorem dJ0_coder_7d493_6 : decode cJ0_coder_7d493 6 = .ok (.aload_n 0, 1) := by decide +kernel
theorem dJ0_coder_7d493_7 : decode cJ0_coder_7d493 7 = .ok (.getfield 15, 3) := by decide +kernel
theorem dJ0_coder_7d493_10 : decode cJ0_coder_7d493 10 = .ok (.goto 4, 3) := by decide +kernel
theorem dJ0_coder_7d493_13 : decode cJ0_coder_7d493 13 = .ok (.iconst 1, 1) := by decide +kernel
theorem dJ0_coder_7d493_14 : decode cJ0_coder_7d493 14 = .ok (.ireturn, 1) := by decide +kernel
def zj_length : zm_Me := (yJ0_length_8abf5, cJ0_length_8abf5, 1, (some .int))
theorem zj_c_length : zy_mc 0 zj_length := ⟨zy_mem (zy_t3 (List.mem_of_getElem? (i := 50) (by decide +kernel))) rfl, zy_mem (zy_t1 (List.mem_of_getElem? (i := 16) (by decide +kernel))) rfl, by decide +kernel, by decide +kernel⟩
theorem dJ0_length_8abf5_0 : decode cJ0_length_8abf5 0 = .ok (.aload_n 0, 1) := by decide +kernel
theorem dJ0_length_8abf5_1 : decode cJ0_length_8abf5 1 = .ok (.getfield 9, 3) := by decide +kernel
theorem dJ0_length_8abf5_4 : decode cJ0_length_8abf5 4 = .ok (.arraylength, 1) := by decide +kernel
theorem dJ0_length_8abf5_5 : decode cJ0_length_8abf5 5 = .ok (.aload_n 0, 1) := by decide +kernel
theorem dJ0_length_8abf5_6 : decode cJ0_length_8abf5 6 = .ok (.invokevirtual 335, 3) := by decide +kernel
theorem dJ0_length_8abf5_9 : decode cJ0_length_8abf5 9 = .ok (.ishr, 1) := by decide +kernel
theorem dJ0_length_8abf5_10 : decode cJ0_length_8abf5 10 = .ok (.ireturn, 1) := by decide +kernel
def zj_isLatin1 : zm_Me := (yJ0_isLatin1_aae02, cJ0_isLatin1_aae02, 1, (some .boolean))
theorem zj_c_isLatin1 : zy_mc 0 zj_isLatin1 := ⟨zy_mem (zy_t3 (List.mem_of_getElem? (i := 64) (by decide +kernel))) rfl, zy_mem (zy_t1 (List.mem_of_getElem? (i := 16) (by decide +kernel))) rfl, by decide +kernel, by decide +kernel⟩
theorem dJ0_isLatin1_aae02_0 : decode cJ0_isLatin1_aae02 0 = .ok (.getstatic 38, 3) := by decide +kernel
theorem dJ0_isLatin1_aae02_3 : decode cJ0_isLatin1_aae02 3 = .ok (.ifCond .eq 14, 3) := by decide +kernel
theorem dJ0_isLatin1_aae02_6 : decode cJ0_isLatin1_aae02 6 = .ok (.aload_n 0, 1) := by decide +kernel
theorem dJ0_isLatin1_aae02_7 : decode cJ0_isLatin1_aae02 7 = .ok (.getfield 15, 3) := by decide +kernel
theorem dJ0_isLatin1_aae02_10 : decode cJ0_isLatin1_aae02 10 = .ok (.ifCond .ne 7, 3) := by decide +kernel
theorem dJ0_isLatin1_aae02_13 : decode cJ0_isLatin1_aae02 13 = .ok (.iconst 1, 1) := by decide +kernel
theorem dJ0_isLatin1_aae02_14 : decode cJ0_isLatin1_aae02 14 = .ok (.goto 4, 3) := by decide +kernel
theorem dJ0_isLatin1_aae02_17 : decode cJ0_isLatin1_aae02 17 = .ok (.iconst 0, 1) := by decide +kernel
theorem dJ0_isLatin1_aae02_18 : decode cJ0_isLatin1_aae02 18 = .ok (.ireturn, 1) := by decide +kernel
def zj_pcheck : zm_Me := (yJ3_checkIndex_8e157, cJ3_checkIndex_8e157, 3, (some .int))
theorem zj_c_pcheck : zy_mc 3 zj_pcheck := ⟨zy_mem (zy_t3 (List.mem_of_getElem? (i := 75) (by decide +kernel))) rfl, zy_mem (zy_t1 (List.mem_of_getElem? (i := 18) (by decide +kernel))) rfl, by decide +kernel, by decide +kernel⟩
theorem dJ3_checkIndex_8e157_0 : decode cJ3_checkIndex_8e157 0 = .ok (.iload_n 0, 1) := by decide +kernel
theorem dJ3_checkIndex_8e157_1 : decode cJ3_checkIndex_8e157 1 = .ok (.ifCond .lt 8, 3) := by decide +kernel
theorem dJ3_checkIndex_8e157_4 : decode cJ3_checkIndex_8e157 4 = .ok (.iload_n 0, 1) := by decide +kernel
theorem dJ3_checkIndex_8e157_5 : decode cJ3_checkIndex_8e157 5 = .ok (.iload_n 1, 1) := by decide +kernel
theorem dJ3_checkIndex_8e157_6 : decode cJ3_checkIndex_8e157 6 = .ok (.if_icmp .lt 10, 3) := by decide +kernel
theorem dJ3_checkIndex_8e157_9 : decode cJ3_checkIndex_8e157 9 = .ok (.aload_n 2, 1) := by decide +kernel
theorem dJ3_checkIndex_8e157_10 : decode cJ3_checkIndex_8e157 10 = .ok (.iload_n 0, 1) := by decide +kernel
theorem dJ3_checkIndex_8e157_11 : decode cJ3_checkIndex_8e157 11 = .ok (.iload_n 1, 1) := by decide +kernel
theorem dJ3_checkIndex_8e157_12 : decode cJ3_checkIndex_8e157 12 = .ok (.invokestatic 95, 3) := by decide +kernel
theorem dJ3_checkIndex_8e157_15 : decode cJ3_checkIndex_8e157 15 = .ok (.athrow, 1) := by decide +kernel
theorem dJ3_checkIndex_8e157_16 : decode cJ3_checkIndex_8e157 16 = .ok (.iload_n 0, 1) := by decide +kernel
theorem dJ3_checkIndex_8e157_17 : decode cJ3_checkIndex_8e157 17 = .ok (.ireturn, 1) := by decide +kernel
def zj_scheck : zm_Me := (yJ0_checkIndex_df160, cJ0_checkIndex_df160, 2, none)
theorem zj_c_scheck : zy_mc 2 zj_scheck := ⟨zy_mem (zy_t3 (List.mem_of_getElem? (i := 70) (by decide +kernel))) rfl, zy_mem (zy_t1 (List.mem_of_getElem? (i := 16) (by decide +kernel))) rfl, by decide +kernel, by decide +kernel⟩
theorem dJ0_checkIndex_df160_0 : decode cJ0_checkIndex_df160 0 = .ok (.iload_n 0, 1) := by decide +kernel
theorem dJ0_checkIndex_df160_1 : decode cJ0_checkIndex_df160 1 = .ok (.iload_n 1, 1) := by decide +kernel
theorem dJ0_checkIndex_df160_2 : decode cJ0_checkIndex_df160 2 = .ok (.getstatic 1053, 3) := by decide +kernel
theorem dJ0_checkIndex_df160_5 : decode cJ0_checkIndex_df160 5 = .ok (.invokestatic 1059, 3) := by decide +kernel
theorem dJ0_checkIndex_df160_8 : decode cJ0_checkIndex_df160 8 = .ok (.pop, 1) := by decide +kernel
theorem dJ0_checkIndex_df160_9 : decode cJ0_checkIndex_df160 9 = .ok (.return_, 1) := by decide +kernel
def zj_lcharAt : zm_Me := (yJ1_charAt_3b067, cJ1_charAt_3b067, 2, (some .char))
theorem zj_c_lcharAt : zy_mc 2 zj_lcharAt := ⟨zy_mem (zy_t3 (List.mem_of_getElem? (i := 67) (by decide +kernel))) rfl, zy_mem (zy_t1 (List.mem_of_getElem? (i := 17) (by decide +kernel))) rfl, by decide +kernel, by decide +kernel⟩
theorem dJ1_charAt_3b067_0 : decode cJ1_charAt_3b067 0 = .ok (.iload_n 1, 1) := by decide +kernel
theorem dJ1_charAt_3b067_1 : decode cJ1_charAt_3b067 1 = .ok (.aload_n 0, 1) := by decide +kernel
theorem dJ1_charAt_3b067_2 : decode cJ1_charAt_3b067 2 = .ok (.arraylength, 1) := by decide +kernel
theorem dJ1_charAt_3b067_3 : decode cJ1_charAt_3b067 3 = .ok (.invokestatic 9, 3) := by decide +kernel
theorem dJ1_charAt_3b067_6 : decode cJ1_charAt_3b067 6 = .ok (.aload_n 0, 1) := by decide +kernel
theorem dJ1_charAt_3b067_7 : decode cJ1_charAt_3b067 7 = .ok (.iload_n 1, 1) := by decide +kernel
theorem dJ1_charAt_3b067_8 : decode cJ1_charAt_3b067 8 = .ok (.baload, 1) := by decide +kernel
theorem dJ1_charAt_3b067_9 : decode cJ1_charAt_3b067 9 = .ok (.sipush 255, 3) := by decide +kernel
theorem dJ1_charAt_3b067_12 : decode cJ1_charAt_3b067 12 = .ok (.iand, 1) := by decide +kernel
theorem dJ1_charAt_3b067_13 : decode cJ1_charAt_3b067 13 = .ok (.i2c, 1) := by decide +kernel
theorem dJ1_charAt_3b067_14 : decode cJ1_charAt_3b067 14 = .ok (.ireturn, 1) := by decide +kernel
def zj_charAt : zm_Me := (yJ0_charAt_5068e, cJ0_charAt_5068e, 2, (some .char))
theorem zj_c_charAt : zy_mc 1 zj_charAt := ⟨zy_mem (zy_t3 (List.mem_of_getElem? (i := 60) (by decide +kernel))) rfl, zy_mem (zy_t1 (List.mem_of_getElem? (i := 16) (by decide +kernel))) rfl, by decide +kernel, by decide +kernel⟩
theorem dJ0_charAt_5068e_0 : decode cJ0_charAt_5068e 0 = .ok (.aload_n 0, 1) := by decide +kernel
theorem dJ0_charAt_5068e_1 : decode cJ0_charAt_5068e 1 = .ok (.invokevirtual 492, 3) := by decide +kernel
theorem dJ0_charAt_5068e_4 : decode cJ0_charAt_5068e 4 = .ok (.ifCond .eq 12, 3) := by decide +kernel
theorem dJ0_charAt_5068e_7 : decode cJ0_charAt_5068e 7 = .ok (.aload_n 0, 1) := by decide +kernel
theorem dJ0_charAt_5068e_8 : decode cJ0_charAt_5068e 8 = .ok (.getfield 9, 3) := by decide +kernel
theorem dJ0_charAt_5068e_11 : decode cJ0_charAt_5068e 11 = .ok (.iload_n 1, 1) := by decide +kernel
theorem dJ0_charAt_5068e_12 : decode cJ0_charAt_5068e 12 = .ok (.invokestatic 495, 3) := by decide +kernel
theorem dJ0_charAt_5068e_15 : decode cJ0_charAt_5068e 15 = .ok (.ireturn, 1) := by decide +kernel
theorem dJ0_charAt_5068e_16 : decode cJ0_charAt_5068e 16 = .ok (.aload_n 0, 1) := by decide +kernel
theorem dJ0_charAt_5068e_17 : decode cJ0_charAt_5068e 17 = .ok (.getfield 9, 3) := by decide +kernel
theorem dJ0_charAt_5068e_20 : decode cJ0_charAt_5068e 20 = .ok (.iload_n 1, 1) := by decide +kernel
theorem dJ0_charAt_5068e_21 : decode cJ0_charAt_5068e 21 = .ok (.invokestatic 498, 3) := by decide +kernel
theorem dJ0_charAt_5068e_24 : decode cJ0_charAt_5068e 24 = .ok (.ireturn, 1) := by decide +kernel
theorem dX5_isSpelled_0 : decode cX5_isSpelled 0 = .ok (.aload_n 0, 1) := by decide +kernel
theorem dX5_isSpelled_1 : decode cX5_isSpelled 1 = .ok (.invokevirtual 112, 3) := by decide +kernel
theorem dX5_isSpelled_4 : decode cX5_isSpelled 4 = .ok (.iload_n 3, 1) := by decide +kernel
theorem dX5_isSpelled_5 : decode cX5_isSpelled 5 = .ok (.iload_n 2, 1) := by decide +kernel
theorem dX5_isSpelled_6 : decode cX5_isSpelled 6 = .ok (.isub, 1) := by decide +kernel
theorem dX5_isSpelled_7 : decode cX5_isSpelled 7 = .ok (.if_icmp .eq 5, 3) := by decide +kernel
theorem dX5_isSpelled_10 : decode cX5_isSpelled 10 = .ok (.iconst 0, 1) := by decide +kernel
theorem dX5_isSpelled_11 : decode cX5_isSpelled 11 = .ok (.ireturn, 1) := by decide +kernel
theorem dX5_isSpelled_12 : decode cX5_isSpelled 12 = .ok (.iload_n 2, 1) := by decide +kernel
theorem dX5_isSpelled_13 : decode cX5_isSpelled 13 = .ok (.istore 4, 2) := by decide +kernel
theorem dX5_isSpelled_15 : decode cX5_isSpelled 15 = .ok (.iload 4, 2) := by decide +kernel
theorem dX5_isSpelled_17 : decode cX5_isSpelled 17 = .ok (.iload_n 3, 1) := by decide +kernel
theorem dX5_isSpelled_18 : decode cX5_isSpelled 18 = .ok (.if_icmp .ge 26, 3) := by decide +kernel
theorem dX5_isSpelled_21 : decode cX5_isSpelled 21 = .ok (.aload_n 0, 1) := by decide +kernel
theorem dX5_isSpelled_22 : decode cX5_isSpelled 22 = .ok (.iload 4, 2) := by decide +kernel
theorem dX5_isSpelled_24 : decode cX5_isSpelled 24 = .ok (.iload_n 2, 1) := by decide +kernel
theorem dX5_isSpelled_25 : decode cX5_isSpelled 25 = .ok (.isub, 1) := by decide +kernel
theorem dX5_isSpelled_26 : decode cX5_isSpelled 26 = .ok (.invokevirtual 118, 3) := by decide +kernel
theorem dX5_isSpelled_29 : decode cX5_isSpelled 29 = .ok (.aload_n 1, 1) := by decide +kernel
theorem dX5_isSpelled_30 : decode cX5_isSpelled 30 = .ok (.iload 4, 2) := by decide +kernel
theorem dX5_isSpelled_32 : decode cX5_isSpelled 32 = .ok (.caload, 1) := by decide +kernel
theorem dX5_isSpelled_33 : decode cX5_isSpelled 33 = .ok (.if_icmp .eq 5, 3) := by decide +kernel
theorem dX5_isSpelled_36 : decode cX5_isSpelled 36 = .ok (.iconst 0, 1) := by decide +kernel
theorem dX5_isSpelled_37 : decode cX5_isSpelled 37 = .ok (.ireturn, 1) := by decide +kernel
theorem dX5_isSpelled_38 : decode cX5_isSpelled 38 = .ok (.iinc 4 1, 3) := by decide +kernel
theorem dX5_isSpelled_41 : decode cX5_isSpelled 41 = .ok (.goto (-26), 3) := by decide +kernel
theorem dX5_isSpelled_44 : decode cX5_isSpelled 44 = .ok (.iconst 1, 1) := by decide +kernel
theorem dX5_isSpelled_45 : decode cX5_isSpelled 45 = .ok (.ireturn, 1) := by decide +kernel
theorem dX5_wordFrom_0 : decode cX5_wordFrom 0 = .ok (.iconst 0, 1) := by decide +kernel
theorem dX5_wordFrom_1 : decode cX5_wordFrom 1 = .ok (.istore_n 3, 1) := by decide +kernel
theorem dX5_wordFrom_2 : decode cX5_wordFrom 2 = .ok (.iload_n 3, 1) := by decide +kernel
theorem dX5_wordFrom_3 : decode cX5_wordFrom 3 = .ok (.getstatic 98, 3) := by decide +kernel
theorem dX5_wordFrom_6 : decode cX5_wordFrom 6 = .ok (.arraylength, 1) := by decide +kernel
theorem dX5_wordFrom_7 : decode cX5_wordFrom 7 = .ok (.if_icmp .ge 32, 3) := by decide +kernel
theorem dX5_wordFrom_10 : decode cX5_wordFrom 10 = .ok (.getstatic 98, 3) := by decide +kernel
theorem dX5_wordFrom_13 : decode cX5_wordFrom 13 = .ok (.iload_n 3, 1) := by decide +kernel
theorem dX5_wordFrom_14 : decode cX5_wordFrom 14 = .ok (.aaload, 1) := by decide +kernel
theorem dX5_wordFrom_15 : decode cX5_wordFrom 15 = .ok (.getfield 101, 3) := by decide +kernel
theorem dX5_wordFrom_18 : decode cX5_wordFrom 18 = .ok (.aload_n 0, 1) := by decide +kernel
theorem dX5_wordFrom_19 : decode cX5_wordFrom 19 = .ok (.iload_n 1, 1) := by decide +kernel
theorem dX5_wordFrom_20 : decode cX5_wordFrom 20 = .ok (.iload_n 2, 1) := by decide +kernel
theorem dX5_wordFrom_21 : decode cX5_wordFrom 21 = .ok (.invokestatic 105, 3) := by decide +kernel
theorem dX5_wordFrom_24 : decode cX5_wordFrom 24 = .ok (.ifCond .eq 9, 3) := by decide +kernel
theorem dX5_wordFrom_27 : decode cX5_wordFrom 27 = .ok (.getstatic 98, 3) := by decide +kernel
theorem dX5_wordFrom_30 : decode cX5_wordFrom 30 = .ok (.iload_n 3, 1) := by decide +kernel
theorem dX5_wordFrom_31 : decode cX5_wordFrom 31 = .ok (.aaload, 1) := by decide +kernel
theorem dX5_wordFrom_32 : decode cX5_wordFrom 32 = .ok (.areturn, 1) := by decide +kernel
theorem dX5_wordFrom_33 : decode cX5_wordFrom 33 = .ok (.iinc 3 1, 3) := by decide +kernel
theorem dX5_wordFrom_36 : decode cX5_wordFrom 36 = .ok (.goto (-34), 3) := by decide +kernel
theorem dX5_wordFrom_39 : decode cX5_wordFrom 39 = .ok (.getstatic 109, 3) := by decide +kernel
theorem dX5_wordFrom_42 : decode cX5_wordFrom 42 = .ok (.areturn, 1) := by decide +kernel
theorem zj_l_RX5_112 : Cond.methodLink RX5 112 zj_length.1 ∈ zy_T := zy_mem (zy_t3 (List.mem_of_getElem? (i := 47) (by decide +kernel))) rfl
theorem zj_l_RX5_118 : Cond.methodLink RX5 118 zj_charAt.1 ∈ zy_T := zy_mem (zy_t3 (List.mem_of_getElem? (i := 57) (by decide +kernel))) rfl
theorem zj_l_RJ0_335 : Cond.methodLink RJ0 335 zj_coder.1 ∈ zy_T := zy_mem (zy_t3 (List.mem_of_getElem? (i := 51) (by decide +kernel))) rfl
theorem zj_l_RJ0_492 : Cond.methodLink RJ0 492 zj_isLatin1.1 ∈ zy_T := zy_mem (zy_t3 (List.mem_of_getElem? (i := 61) (by decide +kernel))) rfl
theorem zj_l_RJ0_495 : Cond.methodLink RJ0 495 zj_lcharAt.1 ∈ zy_T := zy_mem (zy_t3 (List.mem_of_getElem? (i := 65) (by decide +kernel))) rfl
theorem zj_l_RJ1_9 : Cond.methodLink RJ1 9 zj_scheck.1 ∈ zy_T := zy_mem (zy_t3 (List.mem_of_getElem? (i := 68) (by decide +kernel))) rfl
theorem zj_l_RJ0_1059 : Cond.methodLink RJ0 1059 zj_pcheck.1 ∈ zy_T := zy_mem (zy_t3 (List.mem_of_getElem? (i := 73) (by decide +kernel))) rfl
theorem zj_i_coder : Cond.instanceMethod zj_coder.1 ∈ zy_T := zy_mem (zy_t3 (List.mem_of_getElem? (i := 52) (by decide +kernel))) rfl
theorem zj_s_coder : Cond.selects zj_coder.1.cls zj_coder.1 zj_coder.1 ∈ zy_T := zy_mem (zy_t3 (List.mem_of_getElem? (i := 53) (by decide +kernel))) rfl
theorem zj_i_length : Cond.instanceMethod zj_length.1 ∈ zy_T := zy_mem (zy_t3 (List.mem_of_getElem? (i := 48) (by decide +kernel))) rfl
theorem zj_s_length : Cond.selects zj_length.1.cls zj_length.1 zj_length.1 ∈ zy_T := zy_mem (zy_t3 (List.mem_of_getElem? (i := 49) (by decide +kernel))) rfl
theorem zj_i_isLatin1 : Cond.instanceMethod zj_isLatin1.1 ∈ zy_T := zy_mem (zy_t3 (List.mem_of_getElem? (i := 62) (by decide +kernel))) rfl
theorem zj_s_isLatin1 : Cond.selects zj_isLatin1.1.cls zj_isLatin1.1 zj_isLatin1.1 ∈ zy_T := zy_mem (zy_t3 (List.mem_of_getElem? (i := 63) (by decide +kernel))) rfl
theorem zj_i_charAt : Cond.instanceMethod zj_charAt.1 ∈ zy_T := zy_mem (zy_t3 (List.mem_of_getElem? (i := 58) (by decide +kernel))) rfl
theorem zj_s_charAt : Cond.selects zj_charAt.1.cls zj_charAt.1 zj_charAt.1 ∈ zy_T := zy_mem (zy_t3 (List.mem_of_getElem? (i := 59) (by decide +kernel))) rfl
theorem zj_t_lcharAt : Cond.static zj_lcharAt.1 ∈ zy_T := zy_mem (zy_t3 (List.mem_of_getElem? (i := 66) (by decide +kernel))) rfl
theorem zj_t_scheck : Cond.static zj_scheck.1 ∈ zy_T := zy_mem (zy_t3 (List.mem_of_getElem? (i := 69) (by decide +kernel))) rfl
theorem zj_t_pcheck : Cond.static zj_pcheck.1 ∈ zy_T := zy_mem (zy_t3 (List.mem_of_getElem? (i := 74) (by decide +kernel))) rfl
theorem zj_f_RJ0_38 : Cond.fieldLink RJ0 38 "java/lang/String" "COMPACT_STRINGS" "Z" ∈ zy_T := zy_mem (zy_t3 (List.mem_of_getElem? (i := 55) (by decide +kernel))) rfl
theorem zj_f_RJ0_15 : Cond.fieldLink RJ0 15 "java/lang/String" "coder" "B" ∈ zy_T := zy_mem (zy_t8 (List.mem_of_getElem? (i := 180) (by decide +kernel))) rfl
theorem zj_f_RJ0_9 : Cond.fieldLink RJ0 9 "java/lang/String" "value" "[B" ∈ zy_T := zy_mem (zy_t8 (List.mem_of_getElem? (i := 179) (by decide +kernel))) rfl
theorem zj_f_RJ0_1053 : Cond.fieldLink RJ0 1053 "jdk/internal/util/Preconditions" "SIOOBE_FORMATTER" "Ljava/util/function/BiFunction;" ∈ zy_T := zy_mem (zy_t3 (List.mem_of_getElem? (i := 71) (by decide +kernel))) rfl
theorem zj_f_RX5_98 : Cond.fieldLink RX5 98 "ApologyUp$Reader" "WORDS" "[LApologyUp$Word;" ∈ zy_T := zy_mem (zy_t3 (List.mem_of_getElem? (i := 42) (by decide +kernel))) rfl
theorem zj_f_RX5_101 : Cond.fieldLink RX5 101 "ApologyUp$Word" "spelling" "Ljava/lang/String;" ∈ zy_T := zy_mem (zy_t8 (List.mem_of_getElem? (i := 178) (by decide +kernel))) rfl
theorem zj_f_RX5_109 : Cond.fieldLink RX5 109 "ApologyUp$Word" "UNKNOWN" "LApologyUp$Word;" ∈ zy_T := zy_mem (zy_t3 (List.mem_of_getElem? (i := 95) (by decide +kernel))) rfl
theorem zj_l_isSp : Cond.methodLink RX5 105 mX5_isSpelled.1 ∈ zy_T := zy_mem (zy_t3 (List.mem_of_getElem? (i := 44) (by decide +kernel))) rfl
theorem zj_t_isSp : Cond.static mX5_isSpelled.1 ∈ zy_T := zy_mem (zy_t3 (List.mem_of_getElem? (i := 45) (by decide +kernel))) rfl
