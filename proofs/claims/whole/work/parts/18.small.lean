/-! Small rows: literals, calls. -/
theorem tn_0 : Int32.toNatClampNeg 0 = 0 := by decide
theorem tn_1 : Int32.toNatClampNeg 1 = 1 := by decide
theorem tn_2 : Int32.toNatClampNeg 2 = 2 := by decide
theorem tn_3 : Int32.toNatClampNeg 3 = 3 := by decide
theorem tn_4 : Int32.toNatClampNeg 4 = 4 := by decide
theorem tn_5 : Int32.toNatClampNeg 5 = 5 := by decide
theorem tn_6 : Int32.toNatClampNeg 6 = 6 := by decide
theorem tn_7 : Int32.toNatClampNeg 7 = 7 := by decide
theorem tn_8 : Int32.toNatClampNeg 8 = 8 := by decide
theorem tn_9 : Int32.toNatClampNeg 9 = 9 := by decide
theorem tn_10 : Int32.toNatClampNeg 10 = 10 := by decide
theorem tn_11 : Int32.toNatClampNeg 11 = 11 := by decide
theorem tn_12 : Int32.toNatClampNeg 12 = 12 := by decide
theorem tn_13 : Int32.toNatClampNeg 13 = 13 := by decide
theorem tn_14 : Int32.toNatClampNeg 14 = 14 := by decide
theorem tn_15 : Int32.toNatClampNeg 15 = 15 := by decide
theorem tn_16 : Int32.toNatClampNeg 16 = 16 := by decide
theorem tn_17 : Int32.toNatClampNeg 17 = 17 := by decide
theorem tn_18 : Int32.toNatClampNeg 18 = 18 := by decide
theorem tn_19 : Int32.toNatClampNeg 19 = 19 := by decide
theorem tn_20 : Int32.toNatClampNeg 20 = 20 := by decide
theorem tn_21 : Int32.toNatClampNeg 21 = 21 := by decide
theorem tn_22 : Int32.toNatClampNeg 22 = 22 := by decide
theorem tn_23 : Int32.toNatClampNeg 23 = 23 := by decide
theorem tn_24 : Int32.toNatClampNeg 24 = 24 := by decide
theorem tn_25 : Int32.toNatClampNeg 25 = 25 := by decide
theorem tn_26 : Int32.toNatClampNeg 26 = 26 := by decide
theorem tn_27 : Int32.toNatClampNeg 27 = 27 := by decide
theorem tn_28 : Int32.toNatClampNeg 28 = 28 := by decide
theorem tn_29 : Int32.toNatClampNeg 29 = 29 := by decide
theorem tn_30 : Int32.toNatClampNeg 30 = 30 := by decide
theorem tn_31 : Int32.toNatClampNeg 31 = 31 := by decide
theorem tn_32 : Int32.toNatClampNeg 32 = 32 := by decide
theorem tn_33 : Int32.toNatClampNeg 33 = 33 := by decide
theorem tn_34 : Int32.toNatClampNeg 34 = 34 := by decide
theorem tn_35 : Int32.toNatClampNeg 35 = 35 := by decide
theorem tn_36 : Int32.toNatClampNeg 36 = 36 := by decide
theorem tn_37 : Int32.toNatClampNeg 37 = 37 := by decide
theorem tn_38 : Int32.toNatClampNeg 38 = 38 := by decide
theorem tn_39 : Int32.toNatClampNeg 39 = 39 := by decide
theorem tn_40 : Int32.toNatClampNeg 40 = 40 := by decide
theorem tn_41 : Int32.toNatClampNeg 41 = 41 := by decide
theorem tn_42 : Int32.toNatClampNeg 42 = 42 := by decide
theorem tn_43 : Int32.toNatClampNeg 43 = 43 := by decide
theorem tn_44 : Int32.toNatClampNeg 44 = 44 := by decide
theorem tn_45 : Int32.toNatClampNeg 45 = 45 := by decide
theorem tn_46 : Int32.toNatClampNeg 46 = 46 := by decide
theorem tn_47 : Int32.toNatClampNeg 47 = 47 := by decide
theorem tn_48 : Int32.toNatClampNeg 48 = 48 := by decide
theorem tn_49 : Int32.toNatClampNeg 49 = 49 := by decide
theorem tn_50 : Int32.toNatClampNeg 50 = 50 := by decide
theorem tn_51 : Int32.toNatClampNeg 51 = 51 := by decide
theorem tn_52 : Int32.toNatClampNeg 52 = 52 := by decide
theorem tn_53 : Int32.toNatClampNeg 53 = 53 := by decide
theorem tn_54 : Int32.toNatClampNeg 54 = 54 := by decide
theorem tn_55 : Int32.toNatClampNeg 55 = 55 := by decide
theorem tn_56 : Int32.toNatClampNeg 56 = 56 := by decide
theorem tn_57 : Int32.toNatClampNeg 57 = 57 := by decide
theorem tn_58 : Int32.toNatClampNeg 58 = 58 := by decide
theorem tn_59 : Int32.toNatClampNeg 59 = 59 := by decide
theorem tn_61 : Int32.toNatClampNeg 61 = 61 := by decide
theorem tn_64 : Int32.toNatClampNeg 64 = 64 := by decide
theorem tn_65 : Int32.toNatClampNeg 65 = 65 := by decide
theorem tn_77 : Int32.toNatClampNeg 77 = 77 := by decide
theorem tn_99 : Int32.toNatClampNeg 99 = 99 := by decide
theorem tn_100 : Int32.toNatClampNeg 100 = 100 := by decide
theorem tn_108 : Int32.toNatClampNeg 108 = 108 := by decide
theorem tn_119 : Int32.toNatClampNeg 119 = 119 := by decide
theorem tn_124 : Int32.toNatClampNeg 124 = 124 := by decide
theorem tn_127 : Int32.toNatClampNeg 127 = 127 := by decide
theorem tn_130 : Int32.toNatClampNeg 130 = 130 := by decide
theorem tn_140 : Int32.toNatClampNeg 140 = 140 := by decide
theorem tn_169 : Int32.toNatClampNeg 169 = 169 := by decide
theorem tn_177 : Int32.toNatClampNeg 177 = 177 := by decide
theorem tn_182 : Int32.toNatClampNeg 182 = 182 := by decide
theorem tn_187 : Int32.toNatClampNeg 187 = 187 := by decide
theorem tn_192 : Int32.toNatClampNeg 192 = 192 := by decide
theorem tn_200 : Int32.toNatClampNeg 200 = 200 := by decide
theorem tn_255 : Int32.toNatClampNeg 255 = 255 := by decide
theorem tn_455 : Int32.toNatClampNeg 455 = 455 := by decide
theorem tn_892 : Int32.toNatClampNeg 892 = 892 := by decide
theorem tn_999 : Int32.toNatClampNeg 999 = 999 := by decide
theorem tn_2197 : Int32.toNatClampNeg 2197 = 2197 := by decide
theorem vi_0_5 : vp_in 0 5 = True := eq_true (by unfold vp_in; decide)
theorem vi_0_6 : vp_in 0 6 = True := eq_true (by unfold vp_in; decide)
theorem vi_0_10 : vp_in 0 10 = True := eq_true (by unfold vp_in; decide)
theorem vi_0_12 : vp_in 0 12 = True := eq_true (by unfold vp_in; decide)
theorem vi_0_20 : vp_in 0 20 = True := eq_true (by unfold vp_in; decide)
theorem vi_0_41 : vp_in 0 41 = True := eq_true (by unfold vp_in; decide)
theorem vi_0_50 : vp_in 0 50 = True := eq_true (by unfold vp_in; decide)
theorem vi_0_64 : vp_in 0 64 = True := eq_true (by unfold vp_in; decide)
theorem vi_0_100 : vp_in 0 100 = True := eq_true (by unfold vp_in; decide)
theorem vi_0_130 : vp_in 0 130 = True := eq_true (by unfold vp_in; decide)
theorem vi_0_455 : vp_in 0 455 = True := eq_true (by unfold vp_in; decide)
theorem vi_0_892 : vp_in 0 892 = True := eq_true (by unfold vp_in; decide)
theorem vi_1_5 : vp_in 1 5 = True := eq_true (by unfold vp_in; decide)
theorem vi_1_6 : vp_in 1 6 = True := eq_true (by unfold vp_in; decide)
theorem vi_1_10 : vp_in 1 10 = True := eq_true (by unfold vp_in; decide)
theorem vi_1_12 : vp_in 1 12 = True := eq_true (by unfold vp_in; decide)
theorem vi_1_20 : vp_in 1 20 = True := eq_true (by unfold vp_in; decide)
theorem vi_1_41 : vp_in 1 41 = True := eq_true (by unfold vp_in; decide)
theorem vi_1_50 : vp_in 1 50 = True := eq_true (by unfold vp_in; decide)
theorem vi_1_64 : vp_in 1 64 = True := eq_true (by unfold vp_in; decide)
theorem vi_1_100 : vp_in 1 100 = True := eq_true (by unfold vp_in; decide)
theorem vi_1_130 : vp_in 1 130 = True := eq_true (by unfold vp_in; decide)
theorem vi_1_455 : vp_in 1 455 = True := eq_true (by unfold vp_in; decide)
theorem vi_1_892 : vp_in 1 892 = True := eq_true (by unfold vp_in; decide)
theorem vi_2_5 : vp_in 2 5 = True := eq_true (by unfold vp_in; decide)
theorem vi_2_6 : vp_in 2 6 = True := eq_true (by unfold vp_in; decide)
theorem vi_2_10 : vp_in 2 10 = True := eq_true (by unfold vp_in; decide)
theorem vi_2_12 : vp_in 2 12 = True := eq_true (by unfold vp_in; decide)
theorem vi_2_20 : vp_in 2 20 = True := eq_true (by unfold vp_in; decide)
theorem vi_2_41 : vp_in 2 41 = True := eq_true (by unfold vp_in; decide)
theorem vi_2_50 : vp_in 2 50 = True := eq_true (by unfold vp_in; decide)
theorem vi_2_64 : vp_in 2 64 = True := eq_true (by unfold vp_in; decide)
theorem vi_2_100 : vp_in 2 100 = True := eq_true (by unfold vp_in; decide)
theorem vi_2_130 : vp_in 2 130 = True := eq_true (by unfold vp_in; decide)
theorem vi_2_455 : vp_in 2 455 = True := eq_true (by unfold vp_in; decide)
theorem vi_2_892 : vp_in 2 892 = True := eq_true (by unfold vp_in; decide)
theorem vi_3_5 : vp_in 3 5 = True := eq_true (by unfold vp_in; decide)
theorem vi_3_6 : vp_in 3 6 = True := eq_true (by unfold vp_in; decide)
theorem vi_3_10 : vp_in 3 10 = True := eq_true (by unfold vp_in; decide)
theorem vi_3_12 : vp_in 3 12 = True := eq_true (by unfold vp_in; decide)
theorem vi_3_20 : vp_in 3 20 = True := eq_true (by unfold vp_in; decide)
theorem vi_3_41 : vp_in 3 41 = True := eq_true (by unfold vp_in; decide)
theorem vi_3_50 : vp_in 3 50 = True := eq_true (by unfold vp_in; decide)
theorem vi_3_64 : vp_in 3 64 = True := eq_true (by unfold vp_in; decide)
theorem vi_3_100 : vp_in 3 100 = True := eq_true (by unfold vp_in; decide)
theorem vi_3_130 : vp_in 3 130 = True := eq_true (by unfold vp_in; decide)
theorem vi_3_455 : vp_in 3 455 = True := eq_true (by unfold vp_in; decide)
theorem vi_3_892 : vp_in 3 892 = True := eq_true (by unfold vp_in; decide)
theorem vi_4_5 : vp_in 4 5 = True := eq_true (by unfold vp_in; decide)
theorem vi_4_6 : vp_in 4 6 = True := eq_true (by unfold vp_in; decide)
theorem vi_4_10 : vp_in 4 10 = True := eq_true (by unfold vp_in; decide)
theorem vi_4_12 : vp_in 4 12 = True := eq_true (by unfold vp_in; decide)
theorem vi_4_20 : vp_in 4 20 = True := eq_true (by unfold vp_in; decide)
theorem vi_4_41 : vp_in 4 41 = True := eq_true (by unfold vp_in; decide)
theorem vi_4_50 : vp_in 4 50 = True := eq_true (by unfold vp_in; decide)
theorem vi_4_64 : vp_in 4 64 = True := eq_true (by unfold vp_in; decide)
theorem vi_4_100 : vp_in 4 100 = True := eq_true (by unfold vp_in; decide)
theorem vi_4_130 : vp_in 4 130 = True := eq_true (by unfold vp_in; decide)
theorem vi_4_455 : vp_in 4 455 = True := eq_true (by unfold vp_in; decide)
theorem vi_4_892 : vp_in 4 892 = True := eq_true (by unfold vp_in; decide)
theorem vi_5_6 : vp_in 5 6 = True := eq_true (by unfold vp_in; decide)
theorem vi_5_10 : vp_in 5 10 = True := eq_true (by unfold vp_in; decide)
theorem vi_5_12 : vp_in 5 12 = True := eq_true (by unfold vp_in; decide)
theorem vi_5_20 : vp_in 5 20 = True := eq_true (by unfold vp_in; decide)
theorem vi_5_41 : vp_in 5 41 = True := eq_true (by unfold vp_in; decide)
theorem vi_5_50 : vp_in 5 50 = True := eq_true (by unfold vp_in; decide)
theorem vi_5_64 : vp_in 5 64 = True := eq_true (by unfold vp_in; decide)
theorem vi_5_100 : vp_in 5 100 = True := eq_true (by unfold vp_in; decide)
theorem vi_5_130 : vp_in 5 130 = True := eq_true (by unfold vp_in; decide)
theorem vi_5_455 : vp_in 5 455 = True := eq_true (by unfold vp_in; decide)
theorem vi_5_892 : vp_in 5 892 = True := eq_true (by unfold vp_in; decide)
theorem vi_6_10 : vp_in 6 10 = True := eq_true (by unfold vp_in; decide)
theorem vi_6_12 : vp_in 6 12 = True := eq_true (by unfold vp_in; decide)
theorem vi_6_20 : vp_in 6 20 = True := eq_true (by unfold vp_in; decide)
theorem vi_6_41 : vp_in 6 41 = True := eq_true (by unfold vp_in; decide)
theorem vi_6_50 : vp_in 6 50 = True := eq_true (by unfold vp_in; decide)
theorem vi_6_64 : vp_in 6 64 = True := eq_true (by unfold vp_in; decide)
theorem vi_6_100 : vp_in 6 100 = True := eq_true (by unfold vp_in; decide)
theorem vi_6_130 : vp_in 6 130 = True := eq_true (by unfold vp_in; decide)
theorem vi_6_455 : vp_in 6 455 = True := eq_true (by unfold vp_in; decide)
theorem vi_6_892 : vp_in 6 892 = True := eq_true (by unfold vp_in; decide)
theorem vi_7_10 : vp_in 7 10 = True := eq_true (by unfold vp_in; decide)
theorem vi_7_12 : vp_in 7 12 = True := eq_true (by unfold vp_in; decide)
theorem vi_7_20 : vp_in 7 20 = True := eq_true (by unfold vp_in; decide)
theorem vi_7_41 : vp_in 7 41 = True := eq_true (by unfold vp_in; decide)
theorem vi_7_50 : vp_in 7 50 = True := eq_true (by unfold vp_in; decide)
theorem vi_7_64 : vp_in 7 64 = True := eq_true (by unfold vp_in; decide)
theorem vi_7_100 : vp_in 7 100 = True := eq_true (by unfold vp_in; decide)
theorem vi_7_130 : vp_in 7 130 = True := eq_true (by unfold vp_in; decide)
theorem vi_7_455 : vp_in 7 455 = True := eq_true (by unfold vp_in; decide)
theorem vi_7_892 : vp_in 7 892 = True := eq_true (by unfold vp_in; decide)
theorem vi_8_10 : vp_in 8 10 = True := eq_true (by unfold vp_in; decide)
theorem vi_8_12 : vp_in 8 12 = True := eq_true (by unfold vp_in; decide)
theorem vi_8_20 : vp_in 8 20 = True := eq_true (by unfold vp_in; decide)
theorem vi_8_41 : vp_in 8 41 = True := eq_true (by unfold vp_in; decide)
theorem vi_8_50 : vp_in 8 50 = True := eq_true (by unfold vp_in; decide)
theorem vi_8_64 : vp_in 8 64 = True := eq_true (by unfold vp_in; decide)
theorem vi_8_100 : vp_in 8 100 = True := eq_true (by unfold vp_in; decide)
theorem vi_8_130 : vp_in 8 130 = True := eq_true (by unfold vp_in; decide)
theorem vi_8_455 : vp_in 8 455 = True := eq_true (by unfold vp_in; decide)
theorem vi_8_892 : vp_in 8 892 = True := eq_true (by unfold vp_in; decide)
theorem vi_9_10 : vp_in 9 10 = True := eq_true (by unfold vp_in; decide)
theorem vi_9_12 : vp_in 9 12 = True := eq_true (by unfold vp_in; decide)
theorem vi_9_20 : vp_in 9 20 = True := eq_true (by unfold vp_in; decide)
theorem vi_9_41 : vp_in 9 41 = True := eq_true (by unfold vp_in; decide)
theorem vi_9_50 : vp_in 9 50 = True := eq_true (by unfold vp_in; decide)
theorem vi_9_64 : vp_in 9 64 = True := eq_true (by unfold vp_in; decide)
theorem vi_9_100 : vp_in 9 100 = True := eq_true (by unfold vp_in; decide)
theorem vi_9_130 : vp_in 9 130 = True := eq_true (by unfold vp_in; decide)
theorem vi_9_455 : vp_in 9 455 = True := eq_true (by unfold vp_in; decide)
theorem vi_9_892 : vp_in 9 892 = True := eq_true (by unfold vp_in; decide)
theorem vi_10_12 : vp_in 10 12 = True := eq_true (by unfold vp_in; decide)
theorem vi_10_20 : vp_in 10 20 = True := eq_true (by unfold vp_in; decide)
theorem vi_10_41 : vp_in 10 41 = True := eq_true (by unfold vp_in; decide)
theorem vi_10_50 : vp_in 10 50 = True := eq_true (by unfold vp_in; decide)
theorem vi_10_64 : vp_in 10 64 = True := eq_true (by unfold vp_in; decide)
theorem vi_10_100 : vp_in 10 100 = True := eq_true (by unfold vp_in; decide)
theorem vi_10_130 : vp_in 10 130 = True := eq_true (by unfold vp_in; decide)
theorem vi_10_455 : vp_in 10 455 = True := eq_true (by unfold vp_in; decide)
theorem vi_10_892 : vp_in 10 892 = True := eq_true (by unfold vp_in; decide)
theorem vi_11_12 : vp_in 11 12 = True := eq_true (by unfold vp_in; decide)
theorem vi_11_20 : vp_in 11 20 = True := eq_true (by unfold vp_in; decide)
theorem vi_11_41 : vp_in 11 41 = True := eq_true (by unfold vp_in; decide)
theorem vi_11_50 : vp_in 11 50 = True := eq_true (by unfold vp_in; decide)
theorem vi_11_64 : vp_in 11 64 = True := eq_true (by unfold vp_in; decide)
theorem vi_11_100 : vp_in 11 100 = True := eq_true (by unfold vp_in; decide)
theorem vi_11_130 : vp_in 11 130 = True := eq_true (by unfold vp_in; decide)
theorem vi_11_455 : vp_in 11 455 = True := eq_true (by unfold vp_in; decide)
theorem vi_11_892 : vp_in 11 892 = True := eq_true (by unfold vp_in; decide)
theorem vi_12_20 : vp_in 12 20 = True := eq_true (by unfold vp_in; decide)
theorem vi_12_41 : vp_in 12 41 = True := eq_true (by unfold vp_in; decide)
theorem vi_12_50 : vp_in 12 50 = True := eq_true (by unfold vp_in; decide)
theorem vi_12_64 : vp_in 12 64 = True := eq_true (by unfold vp_in; decide)
theorem vi_12_100 : vp_in 12 100 = True := eq_true (by unfold vp_in; decide)
theorem vi_12_130 : vp_in 12 130 = True := eq_true (by unfold vp_in; decide)
theorem vi_12_455 : vp_in 12 455 = True := eq_true (by unfold vp_in; decide)
theorem vi_12_892 : vp_in 12 892 = True := eq_true (by unfold vp_in; decide)
theorem vi_13_20 : vp_in 13 20 = True := eq_true (by unfold vp_in; decide)
theorem vi_13_41 : vp_in 13 41 = True := eq_true (by unfold vp_in; decide)
theorem vi_13_50 : vp_in 13 50 = True := eq_true (by unfold vp_in; decide)
theorem vi_13_64 : vp_in 13 64 = True := eq_true (by unfold vp_in; decide)
theorem vi_13_100 : vp_in 13 100 = True := eq_true (by unfold vp_in; decide)
theorem vi_13_130 : vp_in 13 130 = True := eq_true (by unfold vp_in; decide)
theorem vi_13_455 : vp_in 13 455 = True := eq_true (by unfold vp_in; decide)
theorem vi_13_892 : vp_in 13 892 = True := eq_true (by unfold vp_in; decide)
theorem vi_14_20 : vp_in 14 20 = True := eq_true (by unfold vp_in; decide)
theorem vi_14_41 : vp_in 14 41 = True := eq_true (by unfold vp_in; decide)
theorem vi_14_50 : vp_in 14 50 = True := eq_true (by unfold vp_in; decide)
theorem vi_14_64 : vp_in 14 64 = True := eq_true (by unfold vp_in; decide)
theorem vi_14_100 : vp_in 14 100 = True := eq_true (by unfold vp_in; decide)
theorem vi_14_130 : vp_in 14 130 = True := eq_true (by unfold vp_in; decide)
theorem vi_14_455 : vp_in 14 455 = True := eq_true (by unfold vp_in; decide)
theorem vi_14_892 : vp_in 14 892 = True := eq_true (by unfold vp_in; decide)
theorem vi_15_20 : vp_in 15 20 = True := eq_true (by unfold vp_in; decide)
theorem vi_15_41 : vp_in 15 41 = True := eq_true (by unfold vp_in; decide)
theorem vi_15_50 : vp_in 15 50 = True := eq_true (by unfold vp_in; decide)
theorem vi_15_64 : vp_in 15 64 = True := eq_true (by unfold vp_in; decide)
theorem vi_15_100 : vp_in 15 100 = True := eq_true (by unfold vp_in; decide)
theorem vi_15_130 : vp_in 15 130 = True := eq_true (by unfold vp_in; decide)
theorem vi_15_455 : vp_in 15 455 = True := eq_true (by unfold vp_in; decide)
theorem vi_15_892 : vp_in 15 892 = True := eq_true (by unfold vp_in; decide)
theorem vi_16_20 : vp_in 16 20 = True := eq_true (by unfold vp_in; decide)
theorem vi_16_41 : vp_in 16 41 = True := eq_true (by unfold vp_in; decide)
theorem vi_16_50 : vp_in 16 50 = True := eq_true (by unfold vp_in; decide)
theorem vi_16_64 : vp_in 16 64 = True := eq_true (by unfold vp_in; decide)
theorem vi_16_100 : vp_in 16 100 = True := eq_true (by unfold vp_in; decide)
theorem vi_16_130 : vp_in 16 130 = True := eq_true (by unfold vp_in; decide)
theorem vi_16_455 : vp_in 16 455 = True := eq_true (by unfold vp_in; decide)
theorem vi_16_892 : vp_in 16 892 = True := eq_true (by unfold vp_in; decide)
theorem vi_17_20 : vp_in 17 20 = True := eq_true (by unfold vp_in; decide)
theorem vi_17_41 : vp_in 17 41 = True := eq_true (by unfold vp_in; decide)
theorem vi_17_50 : vp_in 17 50 = True := eq_true (by unfold vp_in; decide)
theorem vi_17_64 : vp_in 17 64 = True := eq_true (by unfold vp_in; decide)
theorem vi_17_100 : vp_in 17 100 = True := eq_true (by unfold vp_in; decide)
theorem vi_17_130 : vp_in 17 130 = True := eq_true (by unfold vp_in; decide)
theorem vi_17_455 : vp_in 17 455 = True := eq_true (by unfold vp_in; decide)
theorem vi_17_892 : vp_in 17 892 = True := eq_true (by unfold vp_in; decide)
theorem vi_18_20 : vp_in 18 20 = True := eq_true (by unfold vp_in; decide)
theorem vi_18_41 : vp_in 18 41 = True := eq_true (by unfold vp_in; decide)
theorem vi_18_50 : vp_in 18 50 = True := eq_true (by unfold vp_in; decide)
theorem vi_18_64 : vp_in 18 64 = True := eq_true (by unfold vp_in; decide)
theorem vi_18_100 : vp_in 18 100 = True := eq_true (by unfold vp_in; decide)
theorem vi_18_130 : vp_in 18 130 = True := eq_true (by unfold vp_in; decide)
theorem vi_18_455 : vp_in 18 455 = True := eq_true (by unfold vp_in; decide)
theorem vi_18_892 : vp_in 18 892 = True := eq_true (by unfold vp_in; decide)
theorem vi_19_20 : vp_in 19 20 = True := eq_true (by unfold vp_in; decide)
theorem vi_19_41 : vp_in 19 41 = True := eq_true (by unfold vp_in; decide)
theorem vi_19_50 : vp_in 19 50 = True := eq_true (by unfold vp_in; decide)
theorem vi_19_64 : vp_in 19 64 = True := eq_true (by unfold vp_in; decide)
theorem vi_19_100 : vp_in 19 100 = True := eq_true (by unfold vp_in; decide)
theorem vi_19_130 : vp_in 19 130 = True := eq_true (by unfold vp_in; decide)
theorem vi_19_455 : vp_in 19 455 = True := eq_true (by unfold vp_in; decide)
theorem vi_19_892 : vp_in 19 892 = True := eq_true (by unfold vp_in; decide)
theorem vi_20_41 : vp_in 20 41 = True := eq_true (by unfold vp_in; decide)
theorem vi_20_50 : vp_in 20 50 = True := eq_true (by unfold vp_in; decide)
theorem vi_20_64 : vp_in 20 64 = True := eq_true (by unfold vp_in; decide)
theorem vi_20_100 : vp_in 20 100 = True := eq_true (by unfold vp_in; decide)
theorem vi_20_130 : vp_in 20 130 = True := eq_true (by unfold vp_in; decide)
theorem vi_20_455 : vp_in 20 455 = True := eq_true (by unfold vp_in; decide)
theorem vi_20_892 : vp_in 20 892 = True := eq_true (by unfold vp_in; decide)
theorem vi_21_41 : vp_in 21 41 = True := eq_true (by unfold vp_in; decide)
theorem vi_21_50 : vp_in 21 50 = True := eq_true (by unfold vp_in; decide)
theorem vi_21_64 : vp_in 21 64 = True := eq_true (by unfold vp_in; decide)
theorem vi_21_100 : vp_in 21 100 = True := eq_true (by unfold vp_in; decide)
theorem vi_21_130 : vp_in 21 130 = True := eq_true (by unfold vp_in; decide)
theorem vi_21_455 : vp_in 21 455 = True := eq_true (by unfold vp_in; decide)
theorem vi_21_892 : vp_in 21 892 = True := eq_true (by unfold vp_in; decide)
theorem vi_22_41 : vp_in 22 41 = True := eq_true (by unfold vp_in; decide)
theorem vi_22_50 : vp_in 22 50 = True := eq_true (by unfold vp_in; decide)
theorem vi_22_64 : vp_in 22 64 = True := eq_true (by unfold vp_in; decide)
theorem vi_22_100 : vp_in 22 100 = True := eq_true (by unfold vp_in; decide)
theorem vi_22_130 : vp_in 22 130 = True := eq_true (by unfold vp_in; decide)
theorem vi_22_455 : vp_in 22 455 = True := eq_true (by unfold vp_in; decide)
theorem vi_22_892 : vp_in 22 892 = True := eq_true (by unfold vp_in; decide)
theorem vi_23_41 : vp_in 23 41 = True := eq_true (by unfold vp_in; decide)
theorem vi_23_50 : vp_in 23 50 = True := eq_true (by unfold vp_in; decide)
theorem vi_23_64 : vp_in 23 64 = True := eq_true (by unfold vp_in; decide)
theorem vi_23_100 : vp_in 23 100 = True := eq_true (by unfold vp_in; decide)
theorem vi_23_130 : vp_in 23 130 = True := eq_true (by unfold vp_in; decide)
theorem vi_23_455 : vp_in 23 455 = True := eq_true (by unfold vp_in; decide)
theorem vi_23_892 : vp_in 23 892 = True := eq_true (by unfold vp_in; decide)
theorem vi_24_41 : vp_in 24 41 = True := eq_true (by unfold vp_in; decide)
theorem vi_24_50 : vp_in 24 50 = True := eq_true (by unfold vp_in; decide)
theorem vi_24_64 : vp_in 24 64 = True := eq_true (by unfold vp_in; decide)
theorem vi_24_100 : vp_in 24 100 = True := eq_true (by unfold vp_in; decide)
theorem vi_24_130 : vp_in 24 130 = True := eq_true (by unfold vp_in; decide)
theorem vi_24_455 : vp_in 24 455 = True := eq_true (by unfold vp_in; decide)
theorem vi_24_892 : vp_in 24 892 = True := eq_true (by unfold vp_in; decide)
theorem vi_25_41 : vp_in 25 41 = True := eq_true (by unfold vp_in; decide)
theorem vi_25_50 : vp_in 25 50 = True := eq_true (by unfold vp_in; decide)
theorem vi_25_64 : vp_in 25 64 = True := eq_true (by unfold vp_in; decide)
theorem vi_25_100 : vp_in 25 100 = True := eq_true (by unfold vp_in; decide)
theorem vi_25_130 : vp_in 25 130 = True := eq_true (by unfold vp_in; decide)
theorem vi_25_455 : vp_in 25 455 = True := eq_true (by unfold vp_in; decide)
theorem vi_25_892 : vp_in 25 892 = True := eq_true (by unfold vp_in; decide)
theorem vi_26_41 : vp_in 26 41 = True := eq_true (by unfold vp_in; decide)
theorem vi_26_50 : vp_in 26 50 = True := eq_true (by unfold vp_in; decide)
theorem vi_26_64 : vp_in 26 64 = True := eq_true (by unfold vp_in; decide)
theorem vi_26_100 : vp_in 26 100 = True := eq_true (by unfold vp_in; decide)
theorem vi_26_130 : vp_in 26 130 = True := eq_true (by unfold vp_in; decide)
theorem vi_26_455 : vp_in 26 455 = True := eq_true (by unfold vp_in; decide)
theorem vi_26_892 : vp_in 26 892 = True := eq_true (by unfold vp_in; decide)
theorem vi_27_41 : vp_in 27 41 = True := eq_true (by unfold vp_in; decide)
theorem vi_27_50 : vp_in 27 50 = True := eq_true (by unfold vp_in; decide)
theorem vi_27_64 : vp_in 27 64 = True := eq_true (by unfold vp_in; decide)
theorem vi_27_100 : vp_in 27 100 = True := eq_true (by unfold vp_in; decide)
theorem vi_27_130 : vp_in 27 130 = True := eq_true (by unfold vp_in; decide)
theorem vi_27_455 : vp_in 27 455 = True := eq_true (by unfold vp_in; decide)
theorem vi_27_892 : vp_in 27 892 = True := eq_true (by unfold vp_in; decide)
theorem vi_28_41 : vp_in 28 41 = True := eq_true (by unfold vp_in; decide)
theorem vi_28_50 : vp_in 28 50 = True := eq_true (by unfold vp_in; decide)
theorem vi_28_64 : vp_in 28 64 = True := eq_true (by unfold vp_in; decide)
theorem vi_28_100 : vp_in 28 100 = True := eq_true (by unfold vp_in; decide)
theorem vi_28_130 : vp_in 28 130 = True := eq_true (by unfold vp_in; decide)
theorem vi_28_455 : vp_in 28 455 = True := eq_true (by unfold vp_in; decide)
theorem vi_28_892 : vp_in 28 892 = True := eq_true (by unfold vp_in; decide)
theorem vi_29_41 : vp_in 29 41 = True := eq_true (by unfold vp_in; decide)
theorem vi_29_50 : vp_in 29 50 = True := eq_true (by unfold vp_in; decide)
theorem vi_29_64 : vp_in 29 64 = True := eq_true (by unfold vp_in; decide)
theorem vi_29_100 : vp_in 29 100 = True := eq_true (by unfold vp_in; decide)
theorem vi_29_130 : vp_in 29 130 = True := eq_true (by unfold vp_in; decide)
theorem vi_29_455 : vp_in 29 455 = True := eq_true (by unfold vp_in; decide)
theorem vi_29_892 : vp_in 29 892 = True := eq_true (by unfold vp_in; decide)
theorem vi_30_41 : vp_in 30 41 = True := eq_true (by unfold vp_in; decide)
theorem vi_30_50 : vp_in 30 50 = True := eq_true (by unfold vp_in; decide)
theorem vi_30_64 : vp_in 30 64 = True := eq_true (by unfold vp_in; decide)
theorem vi_30_100 : vp_in 30 100 = True := eq_true (by unfold vp_in; decide)
theorem vi_30_130 : vp_in 30 130 = True := eq_true (by unfold vp_in; decide)
theorem vi_30_455 : vp_in 30 455 = True := eq_true (by unfold vp_in; decide)
theorem vi_30_892 : vp_in 30 892 = True := eq_true (by unfold vp_in; decide)
theorem vi_31_41 : vp_in 31 41 = True := eq_true (by unfold vp_in; decide)
theorem vi_31_50 : vp_in 31 50 = True := eq_true (by unfold vp_in; decide)
theorem vi_31_64 : vp_in 31 64 = True := eq_true (by unfold vp_in; decide)
theorem vi_31_100 : vp_in 31 100 = True := eq_true (by unfold vp_in; decide)
theorem vi_31_130 : vp_in 31 130 = True := eq_true (by unfold vp_in; decide)
theorem vi_31_455 : vp_in 31 455 = True := eq_true (by unfold vp_in; decide)
theorem vi_31_892 : vp_in 31 892 = True := eq_true (by unfold vp_in; decide)
theorem vi_32_41 : vp_in 32 41 = True := eq_true (by unfold vp_in; decide)
theorem vi_32_50 : vp_in 32 50 = True := eq_true (by unfold vp_in; decide)
theorem vi_32_64 : vp_in 32 64 = True := eq_true (by unfold vp_in; decide)
theorem vi_32_100 : vp_in 32 100 = True := eq_true (by unfold vp_in; decide)
theorem vi_32_130 : vp_in 32 130 = True := eq_true (by unfold vp_in; decide)
theorem vi_32_455 : vp_in 32 455 = True := eq_true (by unfold vp_in; decide)
theorem vi_32_892 : vp_in 32 892 = True := eq_true (by unfold vp_in; decide)
theorem vi_33_41 : vp_in 33 41 = True := eq_true (by unfold vp_in; decide)
theorem vi_33_50 : vp_in 33 50 = True := eq_true (by unfold vp_in; decide)
theorem vi_33_64 : vp_in 33 64 = True := eq_true (by unfold vp_in; decide)
theorem vi_33_100 : vp_in 33 100 = True := eq_true (by unfold vp_in; decide)
theorem vi_33_130 : vp_in 33 130 = True := eq_true (by unfold vp_in; decide)
theorem vi_33_455 : vp_in 33 455 = True := eq_true (by unfold vp_in; decide)
theorem vi_33_892 : vp_in 33 892 = True := eq_true (by unfold vp_in; decide)
theorem vi_34_41 : vp_in 34 41 = True := eq_true (by unfold vp_in; decide)
theorem vi_34_50 : vp_in 34 50 = True := eq_true (by unfold vp_in; decide)
theorem vi_34_64 : vp_in 34 64 = True := eq_true (by unfold vp_in; decide)
theorem vi_34_100 : vp_in 34 100 = True := eq_true (by unfold vp_in; decide)
theorem vi_34_130 : vp_in 34 130 = True := eq_true (by unfold vp_in; decide)
theorem vi_34_455 : vp_in 34 455 = True := eq_true (by unfold vp_in; decide)
theorem vi_34_892 : vp_in 34 892 = True := eq_true (by unfold vp_in; decide)
theorem vi_35_41 : vp_in 35 41 = True := eq_true (by unfold vp_in; decide)
theorem vi_35_50 : vp_in 35 50 = True := eq_true (by unfold vp_in; decide)
theorem vi_35_64 : vp_in 35 64 = True := eq_true (by unfold vp_in; decide)
theorem vi_35_100 : vp_in 35 100 = True := eq_true (by unfold vp_in; decide)
theorem vi_35_130 : vp_in 35 130 = True := eq_true (by unfold vp_in; decide)
theorem vi_35_455 : vp_in 35 455 = True := eq_true (by unfold vp_in; decide)
theorem vi_35_892 : vp_in 35 892 = True := eq_true (by unfold vp_in; decide)
theorem vi_36_41 : vp_in 36 41 = True := eq_true (by unfold vp_in; decide)
theorem vi_36_50 : vp_in 36 50 = True := eq_true (by unfold vp_in; decide)
theorem vi_36_64 : vp_in 36 64 = True := eq_true (by unfold vp_in; decide)
theorem vi_36_100 : vp_in 36 100 = True := eq_true (by unfold vp_in; decide)
theorem vi_36_130 : vp_in 36 130 = True := eq_true (by unfold vp_in; decide)
theorem vi_36_455 : vp_in 36 455 = True := eq_true (by unfold vp_in; decide)
theorem vi_36_892 : vp_in 36 892 = True := eq_true (by unfold vp_in; decide)
theorem vi_37_41 : vp_in 37 41 = True := eq_true (by unfold vp_in; decide)
theorem vi_37_50 : vp_in 37 50 = True := eq_true (by unfold vp_in; decide)
theorem vi_37_64 : vp_in 37 64 = True := eq_true (by unfold vp_in; decide)
theorem vi_37_100 : vp_in 37 100 = True := eq_true (by unfold vp_in; decide)
theorem vi_37_130 : vp_in 37 130 = True := eq_true (by unfold vp_in; decide)
theorem vi_37_455 : vp_in 37 455 = True := eq_true (by unfold vp_in; decide)
theorem vi_37_892 : vp_in 37 892 = True := eq_true (by unfold vp_in; decide)
theorem vi_38_41 : vp_in 38 41 = True := eq_true (by unfold vp_in; decide)
theorem vi_38_50 : vp_in 38 50 = True := eq_true (by unfold vp_in; decide)
theorem vi_38_64 : vp_in 38 64 = True := eq_true (by unfold vp_in; decide)
theorem vi_38_100 : vp_in 38 100 = True := eq_true (by unfold vp_in; decide)
theorem vi_38_130 : vp_in 38 130 = True := eq_true (by unfold vp_in; decide)
theorem vi_38_455 : vp_in 38 455 = True := eq_true (by unfold vp_in; decide)
theorem vi_38_892 : vp_in 38 892 = True := eq_true (by unfold vp_in; decide)
theorem vi_39_41 : vp_in 39 41 = True := eq_true (by unfold vp_in; decide)
theorem vi_39_50 : vp_in 39 50 = True := eq_true (by unfold vp_in; decide)
theorem vi_39_64 : vp_in 39 64 = True := eq_true (by unfold vp_in; decide)
theorem vi_39_100 : vp_in 39 100 = True := eq_true (by unfold vp_in; decide)
theorem vi_39_130 : vp_in 39 130 = True := eq_true (by unfold vp_in; decide)
theorem vi_39_455 : vp_in 39 455 = True := eq_true (by unfold vp_in; decide)
theorem vi_39_892 : vp_in 39 892 = True := eq_true (by unfold vp_in; decide)
theorem vi_40_41 : vp_in 40 41 = True := eq_true (by unfold vp_in; decide)
theorem vi_40_50 : vp_in 40 50 = True := eq_true (by unfold vp_in; decide)
theorem vi_40_64 : vp_in 40 64 = True := eq_true (by unfold vp_in; decide)
theorem vi_40_100 : vp_in 40 100 = True := eq_true (by unfold vp_in; decide)
theorem vi_40_130 : vp_in 40 130 = True := eq_true (by unfold vp_in; decide)
theorem vi_40_455 : vp_in 40 455 = True := eq_true (by unfold vp_in; decide)
theorem vi_40_892 : vp_in 40 892 = True := eq_true (by unfold vp_in; decide)
theorem vi_41_50 : vp_in 41 50 = True := eq_true (by unfold vp_in; decide)
theorem vi_41_64 : vp_in 41 64 = True := eq_true (by unfold vp_in; decide)
theorem vi_41_100 : vp_in 41 100 = True := eq_true (by unfold vp_in; decide)
theorem vi_41_130 : vp_in 41 130 = True := eq_true (by unfold vp_in; decide)
theorem vi_41_455 : vp_in 41 455 = True := eq_true (by unfold vp_in; decide)
theorem vi_41_892 : vp_in 41 892 = True := eq_true (by unfold vp_in; decide)
theorem vi_42_50 : vp_in 42 50 = True := eq_true (by unfold vp_in; decide)
theorem vi_42_64 : vp_in 42 64 = True := eq_true (by unfold vp_in; decide)
theorem vi_42_100 : vp_in 42 100 = True := eq_true (by unfold vp_in; decide)
theorem vi_42_130 : vp_in 42 130 = True := eq_true (by unfold vp_in; decide)
theorem vi_42_455 : vp_in 42 455 = True := eq_true (by unfold vp_in; decide)
theorem vi_42_892 : vp_in 42 892 = True := eq_true (by unfold vp_in; decide)
theorem vi_43_50 : vp_in 43 50 = True := eq_true (by unfold vp_in; decide)
theorem vi_43_64 : vp_in 43 64 = True := eq_true (by unfold vp_in; decide)
theorem vi_43_100 : vp_in 43 100 = True := eq_true (by unfold vp_in; decide)
theorem vi_43_130 : vp_in 43 130 = True := eq_true (by unfold vp_in; decide)
theorem vi_43_455 : vp_in 43 455 = True := eq_true (by unfold vp_in; decide)
theorem vi_43_892 : vp_in 43 892 = True := eq_true (by unfold vp_in; decide)
theorem vi_44_50 : vp_in 44 50 = True := eq_true (by unfold vp_in; decide)
theorem vi_44_64 : vp_in 44 64 = True := eq_true (by unfold vp_in; decide)
theorem vi_44_100 : vp_in 44 100 = True := eq_true (by unfold vp_in; decide)
theorem vi_44_130 : vp_in 44 130 = True := eq_true (by unfold vp_in; decide)
theorem vi_44_455 : vp_in 44 455 = True := eq_true (by unfold vp_in; decide)
theorem vi_44_892 : vp_in 44 892 = True := eq_true (by unfold vp_in; decide)
theorem vi_45_50 : vp_in 45 50 = True := eq_true (by unfold vp_in; decide)
theorem vi_45_64 : vp_in 45 64 = True := eq_true (by unfold vp_in; decide)
theorem vi_45_100 : vp_in 45 100 = True := eq_true (by unfold vp_in; decide)
theorem vi_45_130 : vp_in 45 130 = True := eq_true (by unfold vp_in; decide)
theorem vi_45_455 : vp_in 45 455 = True := eq_true (by unfold vp_in; decide)
theorem vi_45_892 : vp_in 45 892 = True := eq_true (by unfold vp_in; decide)
theorem vi_46_50 : vp_in 46 50 = True := eq_true (by unfold vp_in; decide)
theorem vi_46_64 : vp_in 46 64 = True := eq_true (by unfold vp_in; decide)
theorem vi_46_100 : vp_in 46 100 = True := eq_true (by unfold vp_in; decide)
theorem vi_46_130 : vp_in 46 130 = True := eq_true (by unfold vp_in; decide)
theorem vi_46_455 : vp_in 46 455 = True := eq_true (by unfold vp_in; decide)
theorem vi_46_892 : vp_in 46 892 = True := eq_true (by unfold vp_in; decide)
theorem vi_47_50 : vp_in 47 50 = True := eq_true (by unfold vp_in; decide)
theorem vi_47_64 : vp_in 47 64 = True := eq_true (by unfold vp_in; decide)
theorem vi_47_100 : vp_in 47 100 = True := eq_true (by unfold vp_in; decide)
theorem vi_47_130 : vp_in 47 130 = True := eq_true (by unfold vp_in; decide)
theorem vi_47_455 : vp_in 47 455 = True := eq_true (by unfold vp_in; decide)
theorem vi_47_892 : vp_in 47 892 = True := eq_true (by unfold vp_in; decide)
theorem vi_48_50 : vp_in 48 50 = True := eq_true (by unfold vp_in; decide)
theorem vi_48_64 : vp_in 48 64 = True := eq_true (by unfold vp_in; decide)
theorem vi_48_100 : vp_in 48 100 = True := eq_true (by unfold vp_in; decide)
theorem vi_48_130 : vp_in 48 130 = True := eq_true (by unfold vp_in; decide)
theorem vi_48_455 : vp_in 48 455 = True := eq_true (by unfold vp_in; decide)
theorem vi_48_892 : vp_in 48 892 = True := eq_true (by unfold vp_in; decide)
theorem vi_49_50 : vp_in 49 50 = True := eq_true (by unfold vp_in; decide)
theorem vi_49_64 : vp_in 49 64 = True := eq_true (by unfold vp_in; decide)
theorem vi_49_100 : vp_in 49 100 = True := eq_true (by unfold vp_in; decide)
theorem vi_49_130 : vp_in 49 130 = True := eq_true (by unfold vp_in; decide)
theorem vi_49_455 : vp_in 49 455 = True := eq_true (by unfold vp_in; decide)
theorem vi_49_892 : vp_in 49 892 = True := eq_true (by unfold vp_in; decide)
theorem vi_50_64 : vp_in 50 64 = True := eq_true (by unfold vp_in; decide)
theorem vi_50_100 : vp_in 50 100 = True := eq_true (by unfold vp_in; decide)
theorem vi_50_130 : vp_in 50 130 = True := eq_true (by unfold vp_in; decide)
theorem vi_50_455 : vp_in 50 455 = True := eq_true (by unfold vp_in; decide)
theorem vi_50_892 : vp_in 50 892 = True := eq_true (by unfold vp_in; decide)
theorem vi_51_64 : vp_in 51 64 = True := eq_true (by unfold vp_in; decide)
theorem vi_51_100 : vp_in 51 100 = True := eq_true (by unfold vp_in; decide)
theorem vi_51_130 : vp_in 51 130 = True := eq_true (by unfold vp_in; decide)
theorem vi_51_455 : vp_in 51 455 = True := eq_true (by unfold vp_in; decide)
theorem vi_51_892 : vp_in 51 892 = True := eq_true (by unfold vp_in; decide)
theorem vi_52_64 : vp_in 52 64 = True := eq_true (by unfold vp_in; decide)
theorem vi_52_100 : vp_in 52 100 = True := eq_true (by unfold vp_in; decide)
theorem vi_52_130 : vp_in 52 130 = True := eq_true (by unfold vp_in; decide)
theorem vi_52_455 : vp_in 52 455 = True := eq_true (by unfold vp_in; decide)
theorem vi_52_892 : vp_in 52 892 = True := eq_true (by unfold vp_in; decide)
theorem vi_53_64 : vp_in 53 64 = True := eq_true (by unfold vp_in; decide)
theorem vi_53_100 : vp_in 53 100 = True := eq_true (by unfold vp_in; decide)
theorem vi_53_130 : vp_in 53 130 = True := eq_true (by unfold vp_in; decide)
theorem vi_53_455 : vp_in 53 455 = True := eq_true (by unfold vp_in; decide)
theorem vi_53_892 : vp_in 53 892 = True := eq_true (by unfold vp_in; decide)
theorem vi_54_64 : vp_in 54 64 = True := eq_true (by unfold vp_in; decide)
theorem vi_54_100 : vp_in 54 100 = True := eq_true (by unfold vp_in; decide)
theorem vi_54_130 : vp_in 54 130 = True := eq_true (by unfold vp_in; decide)
theorem vi_54_455 : vp_in 54 455 = True := eq_true (by unfold vp_in; decide)
theorem vi_54_892 : vp_in 54 892 = True := eq_true (by unfold vp_in; decide)
theorem vi_55_64 : vp_in 55 64 = True := eq_true (by unfold vp_in; decide)
theorem vi_55_100 : vp_in 55 100 = True := eq_true (by unfold vp_in; decide)
theorem vi_55_130 : vp_in 55 130 = True := eq_true (by unfold vp_in; decide)
theorem vi_55_455 : vp_in 55 455 = True := eq_true (by unfold vp_in; decide)
theorem vi_55_892 : vp_in 55 892 = True := eq_true (by unfold vp_in; decide)
theorem vi_56_64 : vp_in 56 64 = True := eq_true (by unfold vp_in; decide)
theorem vi_56_100 : vp_in 56 100 = True := eq_true (by unfold vp_in; decide)
theorem vi_56_130 : vp_in 56 130 = True := eq_true (by unfold vp_in; decide)
theorem vi_56_455 : vp_in 56 455 = True := eq_true (by unfold vp_in; decide)
theorem vi_56_892 : vp_in 56 892 = True := eq_true (by unfold vp_in; decide)
theorem vi_57_64 : vp_in 57 64 = True := eq_true (by unfold vp_in; decide)
theorem vi_57_100 : vp_in 57 100 = True := eq_true (by unfold vp_in; decide)
theorem vi_57_130 : vp_in 57 130 = True := eq_true (by unfold vp_in; decide)
theorem vi_57_455 : vp_in 57 455 = True := eq_true (by unfold vp_in; decide)
theorem vi_57_892 : vp_in 57 892 = True := eq_true (by unfold vp_in; decide)
theorem vi_58_64 : vp_in 58 64 = True := eq_true (by unfold vp_in; decide)
theorem vi_58_100 : vp_in 58 100 = True := eq_true (by unfold vp_in; decide)
theorem vi_58_130 : vp_in 58 130 = True := eq_true (by unfold vp_in; decide)
theorem vi_58_455 : vp_in 58 455 = True := eq_true (by unfold vp_in; decide)
theorem vi_58_892 : vp_in 58 892 = True := eq_true (by unfold vp_in; decide)
theorem vi_59_64 : vp_in 59 64 = True := eq_true (by unfold vp_in; decide)
theorem vi_59_100 : vp_in 59 100 = True := eq_true (by unfold vp_in; decide)
theorem vi_59_130 : vp_in 59 130 = True := eq_true (by unfold vp_in; decide)
theorem vi_59_455 : vp_in 59 455 = True := eq_true (by unfold vp_in; decide)
theorem vi_59_892 : vp_in 59 892 = True := eq_true (by unfold vp_in; decide)
theorem vi_61_892 : vp_in 61 892 = True := eq_true (by unfold vp_in; decide)
theorem vi_64_892 : vp_in 64 892 = True := eq_true (by unfold vp_in; decide)
theorem vi_65_892 : vp_in 65 892 = True := eq_true (by unfold vp_in; decide)
theorem vi_77_892 : vp_in 77 892 = True := eq_true (by unfold vp_in; decide)
theorem vi_99_892 : vp_in 99 892 = True := eq_true (by unfold vp_in; decide)
theorem vi_100_892 : vp_in 100 892 = True := eq_true (by unfold vp_in; decide)
theorem vi_108_892 : vp_in 108 892 = True := eq_true (by unfold vp_in; decide)
theorem vi_119_892 : vp_in 119 892 = True := eq_true (by unfold vp_in; decide)
theorem vi_124_892 : vp_in 124 892 = True := eq_true (by unfold vp_in; decide)
theorem vi_127_892 : vp_in 127 892 = True := eq_true (by unfold vp_in; decide)
theorem vi_130_892 : vp_in 130 892 = True := eq_true (by unfold vp_in; decide)
theorem vi_140_892 : vp_in 140 892 = True := eq_true (by unfold vp_in; decide)
theorem vi_169_892 : vp_in 169 892 = True := eq_true (by unfold vp_in; decide)
theorem vi_177_892 : vp_in 177 892 = True := eq_true (by unfold vp_in; decide)
theorem vi_182_892 : vp_in 182 892 = True := eq_true (by unfold vp_in; decide)
theorem vi_187_892 : vp_in 187 892 = True := eq_true (by unfold vp_in; decide)
theorem vi_192_892 : vp_in 192 892 = True := eq_true (by unfold vp_in; decide)
theorem vi_200_892 : vp_in 200 892 = True := eq_true (by unfold vp_in; decide)
theorem vi_255_892 : vp_in 255 892 = True := eq_true (by unfold vp_in; decide)
theorem vi_455_892 : vp_in 455 892 = True := eq_true (by unfold vp_in; decide)
theorem am_gol {O : am_O} {d m : Nat} {as : List Value} {h : am_H} {P : am_P} (M : am_M) (L : am_L) (bud : Nat) (hM : am_pg m = M) (hL : am_l0 M.1 as = L) (hbu : M.2.1 = bud) (hsz : am_sz as ≤ M.1) (hW : ∀ J : am_J, (∀ (p : Nat) (q : Nat × List am_A), am_find M.2.2 p = some q → ∀ (u : Nat) (L : am_L) (st : List Value) (h : am_H), am_B O (am_run O am_pg d) J P bud q.1 q.2 u L st h → J p u L st h) → J 0 0 L [] h) : am_run O am_pg (d + 1) m as h P := by
  subst hL
  subst hbu
  exact am_go M hM hsz hW
theorem e_call0 {C : am_C} {m : Nat} {k : am_K} {L : am_L} {as r : List Value} {h : am_H} : am_call C 0 0 m k 0 L as r h = (r.length ≤ 4 ∧ C m as h fun x h' => k 0 L (x.toList ++ r) h') := by
  simp only [am_call, Nat.add_zero, Nat.le_refl, true_and]
theorem e_len0 : (([] : List Value).length ≤ 4) = True := eq_true (by decide)
theorem e_len1 {x : Value} : ([x].length ≤ 4) = True := eq_true (Nat.le_of_ble_eq_true rfl)
theorem e_len2 {x y : Value} : ([x, y].length ≤ 4) = True := eq_true (Nat.le_of_ble_eq_true rfl)
theorem e_len3 {x y z : Value} : ([x, y, z].length ≤ 4) = True := eq_true (Nat.le_of_ble_eq_true rfl)
theorem e_len4 {x y z v : Value} : ([x, y, z, v].length ≤ 4) = True := eq_true (Nat.le_of_ble_eq_true rfl)
theorem e_tl1 {x : Value} {r : List Value} : (some x).toList ++ r = x :: r := rfl
theorem e_tl0 {r : List Value} : (none : Option Value).toList ++ r = r := rfl
theorem up_s {α : Type} {f : Nat → α} {k : Nat} {v : α} : va_up f k v k = v := if_pos rfl
theorem up_n {α : Type} {f : Nat → α} {k j : Nat} {v : α} (h : j ≠ k) : va_up f k v j = f j := if_neg h
theorem up2_s {f : Nat → Int32} {k : Nat} {v : Int32} : upd f k v k = v := if_pos rfl
theorem up2_n {f : Nat → Int32} {k j : Nat} {v : Int32} (h : j ≠ k) : upd f k v j = f j := if_neg h
theorem z01 : ((0 : Int32) = 0 ∨ (0 : Int32) = 1) = True := eq_true (Or.inl rfl)
theorem z11 : ((1 : Int32) = 0 ∨ (1 : Int32) = 1) = True := eq_true (Or.inr rfl)
theorem z10 : ((1 : Int32) = 0) = False := eq_false (by decide)
theorem z00 : ((0 : Int32) = 0) = True := eq_true rfl
theorem up_id {α : Type} {f : Nat → α} {k : Nat} : va_up f k (f k) = f := by
  funext j
  unfold va_up
  split
  · rename_i h; rw [h]
  · rfl
theorem up_up {α : Type} {f : Nat → α} {k : Nat} {v w : α} : va_up (va_up f k v) k w = va_up f k w := by
  funext j
  unfold va_up
  split <;> rfl
theorem nz_2 : ((2 : Int32) = 0) = False := eq_false (by decide)
theorem nz_3 : ((3 : Int32) = 0) = False := eq_false (by decide)
theorem nz_4 : ((4 : Int32) = 0) = False := eq_false (by decide)
theorem nz_7 : ((7 : Int32) = 0) = False := eq_false (by decide)
theorem nz_8 : ((8 : Int32) = 0) = False := eq_false (by decide)
theorem nz_10 : ((10 : Int32) = 0) = False := eq_false (by decide)
theorem nz_13 : ((13 : Int32) = 0) = False := eq_false (by decide)
theorem nz_32 : ((32 : Int32) = 0) = False := eq_false (by decide)
theorem nz_169 : ((169 : Int32) = 0) = False := eq_false (by decide)
theorem nz_L10 : ((10 : Int64) = 0) = False := eq_false (by decide)
theorem nI_l0 : nI 0 = 0 := by decide
theorem nI_l1 : nI 1 = 1 := by decide
theorem nI_l2 : nI 2 = 2 := by decide
theorem nI_l3 : nI 3 = 3 := by decide
theorem nI_l4 : nI 4 = 4 := by decide
theorem nI_l5 : nI 5 = 5 := by decide
theorem nI_l6 : nI 6 = 6 := by decide
theorem nI_l100 : nI 100 = 100 := by decide
theorem nI_l108 : nI 108 = 108 := by decide
theorem nI_l115 : nI 115 = 115 := by decide
theorem nI_l119 : nI 119 = 119 := by decide
theorem e_sw0 {K : Nat → Prop} {d : Nat} {x : Int32} : am_sw K d x [] = K d := rfl
theorem e_sw1 {K : Nat → Prop} {d c p : Nat} {x : Int32} {t : List (Nat × Nat)} : am_sw K d x ((c, p) :: t) = ((x = nI c → K p) ∧ (¬ x = nI c → am_sw K d x t)) := rfl
