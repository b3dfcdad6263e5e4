/-! literal places -/
theorem zu_0 : Int32.toNatClampNeg 0 = 0 := rfl
theorem zu_1 : Int32.toNatClampNeg 1 = 1 := rfl
theorem zu_2 : Int32.toNatClampNeg 2 = 2 := rfl
theorem zu_3 : Int32.toNatClampNeg 3 = 3 := rfl
theorem zu_4 : Int32.toNatClampNeg 4 = 4 := rfl
theorem zu_5 : Int32.toNatClampNeg 5 = 5 := rfl
theorem zu_6 : Int32.toNatClampNeg 6 = 6 := rfl
theorem zu_7 : Int32.toNatClampNeg 7 = 7 := rfl
theorem zu_8 : Int32.toNatClampNeg 8 = 8 := rfl
theorem zu_9 : Int32.toNatClampNeg 9 = 9 := rfl
theorem zu_10 : Int32.toNatClampNeg 10 = 10 := rfl
theorem zu_11 : Int32.toNatClampNeg 11 = 11 := rfl
theorem zu_12 : Int32.toNatClampNeg 12 = 12 := rfl
theorem zu_13 : Int32.toNatClampNeg 13 = 13 := rfl
theorem zu_14 : Int32.toNatClampNeg 14 = 14 := rfl
theorem zu_15 : Int32.toNatClampNeg 15 = 15 := rfl
theorem zu_16 : Int32.toNatClampNeg 16 = 16 := rfl
theorem zu_17 : Int32.toNatClampNeg 17 = 17 := rfl
theorem zu_18 : Int32.toNatClampNeg 18 = 18 := rfl
theorem zu_19 : Int32.toNatClampNeg 19 = 19 := rfl
theorem zu_20 : Int32.toNatClampNeg 20 = 20 := rfl
theorem zu_21 : Int32.toNatClampNeg 21 = 21 := rfl
theorem zu_22 : Int32.toNatClampNeg 22 = 22 := rfl
theorem zu_23 : Int32.toNatClampNeg 23 = 23 := rfl
theorem zu_24 : Int32.toNatClampNeg 24 = 24 := rfl
theorem zu_25 : Int32.toNatClampNeg 25 = 25 := rfl
theorem zu_26 : Int32.toNatClampNeg 26 = 26 := rfl
theorem zu_27 : Int32.toNatClampNeg 27 = 27 := rfl
theorem zu_28 : Int32.toNatClampNeg 28 = 28 := rfl
theorem zu_29 : Int32.toNatClampNeg 29 = 29 := rfl
theorem zu_30 : Int32.toNatClampNeg 30 = 30 := rfl
theorem zu_90 : Int32.toNatClampNeg 90 = 90 := rfl
theorem zv_0_9 : vp_in 0 9 = True := eq_true (vp_in_nI (n := 0) (by decide) (by decide))
theorem zv_1_9 : vp_in 1 9 = True := eq_true (vp_in_nI (n := 1) (by decide) (by decide))
theorem zv_2_9 : vp_in 2 9 = True := eq_true (vp_in_nI (n := 2) (by decide) (by decide))
theorem zv_3_9 : vp_in 3 9 = True := eq_true (vp_in_nI (n := 3) (by decide) (by decide))
theorem zv_4_9 : vp_in 4 9 = True := eq_true (vp_in_nI (n := 4) (by decide) (by decide))
theorem zv_5_9 : vp_in 5 9 = True := eq_true (vp_in_nI (n := 5) (by decide) (by decide))
theorem zv_6_9 : vp_in 6 9 = True := eq_true (vp_in_nI (n := 6) (by decide) (by decide))
theorem zv_7_9 : vp_in 7 9 = True := eq_true (vp_in_nI (n := 7) (by decide) (by decide))
theorem zv_8_9 : vp_in 8 9 = True := eq_true (vp_in_nI (n := 8) (by decide) (by decide))
theorem zv_0_330 : vp_in 0 330 = True := eq_true (vp_in_nI (n := 0) (by decide) (by decide))
theorem zv_0_4544 : vp_in 0 4544 = True := eq_true (vp_in_nI (n := 0) (by decide) (by decide))
theorem zv_1_4544 : vp_in 1 4544 = True := eq_true (vp_in_nI (n := 1) (by decide) (by decide))
theorem zv_2_4544 : vp_in 2 4544 = True := eq_true (vp_in_nI (n := 2) (by decide) (by decide))
theorem zv_3_4544 : vp_in 3 4544 = True := eq_true (vp_in_nI (n := 3) (by decide) (by decide))
theorem zv_4_4544 : vp_in 4 4544 = True := eq_true (vp_in_nI (n := 4) (by decide) (by decide))
theorem zv_5_4544 : vp_in 5 4544 = True := eq_true (vp_in_nI (n := 5) (by decide) (by decide))
theorem zv_6_4544 : vp_in 6 4544 = True := eq_true (vp_in_nI (n := 6) (by decide) (by decide))
theorem zv_7_4544 : vp_in 7 4544 = True := eq_true (vp_in_nI (n := 7) (by decide) (by decide))
theorem zv_8_4544 : vp_in 8 4544 = True := eq_true (vp_in_nI (n := 8) (by decide) (by decide))
theorem zv_9_4544 : vp_in 9 4544 = True := eq_true (vp_in_nI (n := 9) (by decide) (by decide))
theorem zv_10_4544 : vp_in 10 4544 = True := eq_true (vp_in_nI (n := 10) (by decide) (by decide))
theorem zv_11_4544 : vp_in 11 4544 = True := eq_true (vp_in_nI (n := 11) (by decide) (by decide))
theorem zv_12_4544 : vp_in 12 4544 = True := eq_true (vp_in_nI (n := 12) (by decide) (by decide))
theorem zv_13_4544 : vp_in 13 4544 = True := eq_true (vp_in_nI (n := 13) (by decide) (by decide))
theorem zv_14_4544 : vp_in 14 4544 = True := eq_true (vp_in_nI (n := 14) (by decide) (by decide))
theorem zv_15_4544 : vp_in 15 4544 = True := eq_true (vp_in_nI (n := 15) (by decide) (by decide))
theorem zv_16_4544 : vp_in 16 4544 = True := eq_true (vp_in_nI (n := 16) (by decide) (by decide))
theorem zv_17_4544 : vp_in 17 4544 = True := eq_true (vp_in_nI (n := 17) (by decide) (by decide))
theorem zv_18_4544 : vp_in 18 4544 = True := eq_true (vp_in_nI (n := 18) (by decide) (by decide))
theorem zv_19_4544 : vp_in 19 4544 = True := eq_true (vp_in_nI (n := 19) (by decide) (by decide))
theorem zv_20_4544 : vp_in 20 4544 = True := eq_true (vp_in_nI (n := 20) (by decide) (by decide))
theorem zv_21_4544 : vp_in 21 4544 = True := eq_true (vp_in_nI (n := 21) (by decide) (by decide))
theorem zv_22_4544 : vp_in 22 4544 = True := eq_true (vp_in_nI (n := 22) (by decide) (by decide))
theorem zv_23_4544 : vp_in 23 4544 = True := eq_true (vp_in_nI (n := 23) (by decide) (by decide))
theorem zv_24_4544 : vp_in 24 4544 = True := eq_true (vp_in_nI (n := 24) (by decide) (by decide))
theorem zv_25_4544 : vp_in 25 4544 = True := eq_true (vp_in_nI (n := 25) (by decide) (by decide))
theorem zv_26_4544 : vp_in 26 4544 = True := eq_true (vp_in_nI (n := 26) (by decide) (by decide))
theorem zv_27_4544 : vp_in 27 4544 = True := eq_true (vp_in_nI (n := 27) (by decide) (by decide))
theorem zv_28_4544 : vp_in 28 4544 = True := eq_true (vp_in_nI (n := 28) (by decide) (by decide))
theorem zv_29_4544 : vp_in 29 4544 = True := eq_true (vp_in_nI (n := 29) (by decide) (by decide))
theorem zv_0_11 : vp_in 0 11 = True := eq_true (vp_in_nI (n := 0) (by decide) (by decide))
theorem zv_1_11 : vp_in 1 11 = True := eq_true (vp_in_nI (n := 1) (by decide) (by decide))
theorem zv_0_160 : vp_in 0 160 = True := eq_true (vp_in_nI (n := 0) (by decide) (by decide))
