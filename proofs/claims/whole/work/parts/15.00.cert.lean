/-! The check of methods 0 .. -/
set_option maxRecDepth 100000 in
theorem ck_0 : am_mok am_md am_pg 196 0 [[(1, []), (3, [[925, 82, 83]]), (1, []), (3, []), (2, [[142]]), (3, [[926, 0]]), (1, []), (3, []), (2, [[142]]), (3, [[927, 0]]), (1, []), (2, []), (2, [[142]]), (3, [[928, 0]]), (1, []), (2, []), (2, [[142]]), (3, [[935, 0]]), (1, []), (2, []), (2, [[986]]), (3, [[936, 0]]), (1, []), (3, []), (2, [[235]]), (3, [[937, 0]]), (1, []), (3, []), (2, [[235]]), (3, [[938, 0]]), (1, []), (3, []), (2, [[142]]), (3, [[939, 0]]), (1, []), (2, []), (2, [[142]]), (3, [[940, 0]]), (1, []), (3, [[926, 0]]), (2, []), (1, []), (1, []), (1, []), (3, [[926, 0]]), (1, []), (1, []), (1, []), (1, []), (3, [[926, 0]]), (1, []), (1, []), (1, []), (1, []), (3, [[926, 0]]), (1, []), (2, []), (1, []), (1, [])]] = true := by decide +kernel
set_option maxRecDepth 100000 in
theorem cm_k0 : am_mk am_md am_pg 0 := ⟨am_in_mem (j := 924) (by decide +kernel), am_in_mem (j := 60) (by decide +kernel), ⟨by decide +kernel, by decide +kernel⟩, by decide +kernel⟩
set_option maxRecDepth 100000 in
theorem ck_1 : am_mok am_md am_pg 196 1 [[(1, []), (1, []), (3, []), (1, []), (1, []), (3, []), (1, []), (3, [])], [(1, [])], [(1, [])]] = true := by decide +kernel
set_option maxRecDepth 100000 in
theorem cm_k1 : am_mk am_md am_pg 1 := ⟨am_in_mem (j := 993) (by decide +kernel), am_in_mem (j := 60) (by decide +kernel), ⟨by decide +kernel, by decide +kernel⟩, by decide +kernel⟩
set_option maxRecDepth 100000 in
theorem ck_2 : am_mok am_md am_pg 196 2 [[(1, []), (1, []), (1, []), (3, [[926, 0]]), (2, []), (1, []), (1, []), (1, []), (3, [[991, 992]]), (1, [])]] = true := by decide +kernel
set_option maxRecDepth 100000 in
theorem cm_k2 : am_mk am_md am_pg 2 := ⟨am_in_mem (j := 1068) (by decide +kernel), am_in_mem (j := 60) (by decide +kernel), ⟨by decide +kernel, by decide +kernel⟩, by decide +kernel⟩
set_option maxRecDepth 100000 in
theorem ck_3 : am_mok am_md am_pg 196 3 [[(1, []), (1, []), (2, []), (3, [[991, 992]]), (1, [])]] = true := by decide +kernel
set_option maxRecDepth 100000 in
theorem cm_k3 : am_mk am_md am_pg 3 := ⟨am_in_mem (j := 1060) (by decide +kernel), am_in_mem (j := 60) (by decide +kernel), ⟨by decide +kernel, by decide +kernel⟩, by decide +kernel⟩
set_option maxRecDepth 100000 in
theorem ck_4 : am_mok am_md am_pg 196 4 [[(1, []), (1, []), (2, []), (3, [[991, 992]]), (3, []), (2, []), (1, [])], [(1, []), (3, [[926, 0]]), (2, []), (1, []), (2, []), (3, []), (2, []), (1, [])], [(1, []), (3, [[926, 0]]), (2, []), (1, []), (3, [[926, 0]]), (2, []), (1, []), (1, []), (1, []), (1, []), (1, []), (3, [[926, 0]]), (2, []), (1, []), (1, []), (1, []), (1, []), (1, []), (1, []), (3, [[926, 0]]), (2, []), (1, []), (1, [])]] = true := by decide +kernel
set_option maxRecDepth 100000 in
theorem cm_k4 : am_mk am_md am_pg 4 := ⟨am_in_mem (j := 990) (by decide +kernel), am_in_mem (j := 60) (by decide +kernel), ⟨by decide +kernel, by decide +kernel⟩, by decide +kernel⟩
set_option maxRecDepth 100000 in
theorem ck_5 : am_mok am_md am_pg 196 5 [[(1, []), (3, [[931, 0]]), (1, []), (3, [[932, 0]]), (3, []), (1, []), (3, [[926, 0]]), (2, []), (1, []), (3, [[931, 0]]), (1, []), (1, []), (3, [])], [(1, [])], [(1, [])]] = true := by decide +kernel
set_option maxRecDepth 100000 in
theorem cm_k5 : am_mk am_md am_pg 5 := ⟨am_in_mem (j := 1005) (by decide +kernel), am_in_mem (j := 60) (by decide +kernel), ⟨by decide +kernel, by decide +kernel⟩, by decide +kernel⟩
set_option maxRecDepth 100000 in
theorem ck_6 : am_mok am_md am_pg 196 6 [[(1, []), (1, []), (3, [[933, 0]]), (3, []), (1, []), (3, [[1002, 1004, 20]]), (1, []), (3, [])], [(1, []), (3, [])], [(1, [])], [(3, [[933, 0]]), (1, []), (1, []), (3, [[931, 0]]), (1, []), (3, [[933, 0]]), (3, []), (1, []), (3, [])], [(1, [])], [(1, []), (3, [[931, 0]]), (1, [])]] = true := by decide +kernel
set_option maxRecDepth 100000 in
theorem cm_k6 : am_mk am_md am_pg 6 := ⟨am_in_mem (j := 1020) (by decide +kernel), am_in_mem (j := 60) (by decide +kernel), ⟨by decide +kernel, by decide +kernel⟩, by decide +kernel⟩
set_option maxRecDepth 100000 in
theorem ck_7 : am_mok am_md am_pg 196 7 [[(1, []), (1, [])], [(1, []), (1, []), (3, [[1015, 314, 315]]), (3, []), (1, []), (1, []), (1, []), (3, [[1016, 324, 325]]), (3, [[1017, 1019, 23]]), (3, []), (3, [])], [(1, [])]] = true := by decide +kernel
set_option maxRecDepth 100000 in
theorem cm_k7 : am_mk am_md am_pg 7 := ⟨am_in_mem (j := 1014) (by decide +kernel), am_in_mem (j := 60) (by decide +kernel), ⟨by decide +kernel, by decide +kernel⟩, by decide +kernel⟩
set_option maxRecDepth 100000 in
theorem ck_8 : am_mok am_md am_pg 196 8 [[(1, []), (1, []), (3, [[933, 0]]), (3, []), (1, []), (3, [[1002, 1004, 20]]), (2, []), (2, []), (3, [[991, 992]]), (3, [])], [(1, []), (3, [])], [(1, [])], [(3, [[933, 0]]), (1, []), (1, []), (1, []), (1, [])], [(1, []), (1, []), (3, []), (1, []), (3, [[933, 0]]), (3, []), (1, []), (3, [[1002, 1004, 20]]), (2, []), (2, []), (3, [[991, 992]]), (3, []), (1, []), (3, []), (1, []), (3, [])], [(2, []), (1, []), (1, []), (1, []), (3, [[1002, 1004, 20]]), (1, []), (2, []), (1, []), (1, []), (1, []), (1, []), (3, [[931, 0]]), (1, []), (1, []), (3, [[931, 0]]), (3, []), (3, [])], [(1, []), (1, [])]] = true := by decide +kernel
set_option maxRecDepth 100000 in
theorem cm_k8 : am_mk am_md am_pg 8 := ⟨am_in_mem (j := 1024) (by decide +kernel), am_in_mem (j := 60) (by decide +kernel), ⟨by decide +kernel, by decide +kernel⟩, by decide +kernel⟩
set_option maxRecDepth 100000 in
theorem ck_9 : am_mok am_md am_pg 196 9 [[(1, []), (1, [])], [(1, []), (1, []), (3, [[1015, 314, 315]]), (3, []), (1, []), (3, [[1002, 1004, 20]]), (1, []), (1, []), (3, [[1016, 324, 325]]), (3, []), (1, []), (1, []), (3, [[931, 0]]), (1, []), (1, []), (3, [[931, 0]]), (1, []), (1, [])], [(3, []), (3, [])], [(1, []), (1, [])]] = true := by decide +kernel
set_option maxRecDepth 100000 in
theorem cm_k9 : am_mk am_md am_pg 9 := ⟨am_in_mem (j := 1045) (by decide +kernel), am_in_mem (j := 60) (by decide +kernel), ⟨by decide +kernel, by decide +kernel⟩, by decide +kernel⟩
set_option maxRecDepth 100000 in
theorem ck_10 : am_mok am_md am_pg 196 10 [[(1, []), (3, [[933, 0]]), (3, []), (1, []), (3, [[926, 0]]), (3, []), (3, []), (1, []), (3, [[930, 0]]), (1, []), (1, []), (1, []), (3, [[926, 0]]), (3, []), (1, []), (3, [[930, 0]]), (1, []), (1, []), (1, []), (1, []), (1, []), (1, []), (3, [[926, 0]]), (3, []), (1, []), (3, [[930, 0]]), (1, []), (1, []), (1, []), (1, []), (1, []), (1, [])], [(1, [])]] = true := by decide +kernel
set_option maxRecDepth 100000 in
theorem cm_k10 : am_mk am_md am_pg 10 := ⟨am_in_mem (j := 1040) (by decide +kernel), am_in_mem (j := 60) (by decide +kernel), ⟨by decide +kernel, by decide +kernel⟩, by decide +kernel⟩
set_option maxRecDepth 100000 in
theorem ck_11 : am_mok am_md am_pg 196 11 [[(1, []), (3, [[933, 0]]), (3, []), (1, [])], [(1, []), (3, [[1002, 1004, 20]]), (1, []), (1, []), (2, []), (3, []), (1, []), (2, []), (3, [])], [(1, []), (1, []), (3, [[934, 0]]), (1, []), (3, []), (1, []), (3, [])], [(1, [])], [(3, [[933, 0]]), (1, []), (1, []), (3, [[934, 0]]), (1, []), (1, []), (3, [[934, 0]]), (1, []), (1, []), (3, [[931, 0]]), (1, []), (3, [[933, 0]]), (3, []), (1, []), (3, [])], [(1, [])], [(1, []), (3, [[931, 0]]), (1, []), (2, []), (3, []), (1, []), (3, [[1033, 1035, 27]]), (1, []), (1, []), (3, [[1037, 1039, 28]]), (3, [])], [(1, []), (3, [[1025, 1027, 25]]), (1, []), (2, []), (3, [[1017, 1019, 23]])], [(1, []), (1, []), (3, [[934, 0]]), (1, []), (1, []), (3, [[934, 0]]), (1, [])], [(1, []), (2, []), (3, [[1042, 1044, 29]]), (1, []), (1, []), (1, []), (1, []), (3, []), (1, []), (3, [])], [(1, [])], [(3, [[933, 0]]), (1, []), (3, [[933, 0]]), (3, []), (1, []), (3, [])], [(1, []), (2, []), (3, [[1042, 1044, 29]])], [(1, []), (1, []), (1, []), (3, [[933, 0]]), (3, []), (1, []), (1, []), (3, [])], [(1, []), (3, [])], [(1, [])], [(3, [[933, 0]]), (1, []), (3, [[1021, 1023, 24]]), (2, []), (1, []), (1, []), (2, []), (1, []), (1, []), (1, []), (2, []), (2, []), (1, []), (1, []), (3, [[1037, 1039, 28]]), (1, [])]] = true := by decide +kernel
set_option maxRecDepth 100000 in
theorem cm_k11 : am_mk am_md am_pg 11 := ⟨am_in_mem (j := 1036) (by decide +kernel), am_in_mem (j := 60) (by decide +kernel), ⟨by decide +kernel, by decide +kernel⟩, by decide +kernel⟩
set_option maxRecDepth 100000 in
theorem ck_12 : am_mok am_md am_pg 196 12 [[(1, []), (3, [[1033, 1035, 27]])], [(1, []), (3, [[933, 0]]), (3, []), (1, []), (3, [[1002, 1004, 20]]), (2, []), (3, []), (1, []), (1, []), (3, [[931, 0]]), (1, []), (1, []), (3, [[931, 0]]), (1, []), (3, [[1033, 1035, 27]]), (1, []), (2, []), (3, [[1037, 1039, 28]]), (3, [])], [(1, [])]] = true := by decide +kernel
set_option maxRecDepth 100000 in
theorem cm_k12 : am_mk am_md am_pg 12 := ⟨am_in_mem (j := 1032) (by decide +kernel), am_in_mem (j := 60) (by decide +kernel), ⟨by decide +kernel, by decide +kernel⟩, by decide +kernel⟩
set_option maxRecDepth 100000 in
theorem ck_13 : am_mok am_md am_pg 196 13 [[(1, []), (3, [[1029, 1031, 26]])], [(1, []), (3, [[933, 0]]), (3, []), (1, []), (3, [[1002, 1004, 20]]), (2, []), (3, []), (1, []), (1, []), (3, [[931, 0]]), (1, []), (1, []), (3, [[931, 0]]), (1, []), (3, [[1029, 1031, 26]]), (1, []), (2, []), (3, [[1037, 1039, 28]]), (3, [])], [(1, [])]] = true := by decide +kernel
set_option maxRecDepth 100000 in
theorem cm_k13 : am_mk am_md am_pg 13 := ⟨am_in_mem (j := 1028) (by decide +kernel), am_in_mem (j := 60) (by decide +kernel), ⟨by decide +kernel, by decide +kernel⟩, by decide +kernel⟩
set_option maxRecDepth 100000 in
theorem ck_14 : am_mok am_md am_pg 196 14 [[(1, []), (1, []), (3, [[1011, 1013, 22]]), (1, []), (3, [[1021, 1023, 24]]), (1, []), (1, []), (2, []), (3, [[1017, 1019, 23]]), (1, []), (3, [[1025, 1027, 25]]), (1, []), (1, []), (1, []), (1, []), (3, [[1037, 1039, 28]]), (1, [])]] = true := by decide +kernel
set_option maxRecDepth 100000 in
theorem cm_k14 : am_mk am_md am_pg 14 := ⟨am_in_mem (j := 1010) (by decide +kernel), am_in_mem (j := 60) (by decide +kernel), ⟨by decide +kernel, by decide +kernel⟩, by decide +kernel⟩
set_option maxRecDepth 100000 in
theorem ck_15 : am_mok am_md am_pg 196 15 [[(1, []), (1, []), (3, [[1011, 1013, 22]]), (1, []), (3, [[1021, 1023, 24]]), (1, []), (1, []), (3, [[933, 0]]), (3, []), (1, []), (3, [[926, 0]]), (1, []), (1, []), (3, [[930, 0]]), (1, []), (1, []), (1, [])], [(1, [])]] = true := by decide +kernel
set_option maxRecDepth 100000 in
theorem cm_k15 : am_mk am_md am_pg 15 := ⟨am_in_mem (j := 1052) (by decide +kernel), am_in_mem (j := 60) (by decide +kernel), ⟨by decide +kernel, by decide +kernel⟩, by decide +kernel⟩
set_option maxRecDepth 100000 in
theorem ck_16 : am_mok am_md am_pg 196 16 [[(1, []), (3, [[1002, 1004, 20]]), (44, [])], [(1, []), (2, []), (2, []), (3, [[1007, 1009, 21]]), (3, [])], [(1, []), (3, []), (2, []), (3, [[1007, 1009, 21]]), (3, [])], [(1, []), (3, []), (2, []), (3, [[1049, 1051, 30]]), (3, [])], [(1, []), (3, []), (2, []), (3, [[1049, 1051, 30]]), (3, [])], [(1, []), (1, []), (3, [[933, 0]])], [(1, [])]] = true := by decide +kernel
set_option maxRecDepth 100000 in
theorem cm_k16 : am_mk am_md am_pg 16 := ⟨am_in_mem (j := 1001) (by decide +kernel), am_in_mem (j := 60) (by decide +kernel), ⟨by decide +kernel, by decide +kernel⟩, by decide +kernel⟩
set_option maxRecDepth 100000 in
theorem ck_17 : am_mok am_md am_pg 196 17 [[(1, []), (3, [[926, 0]]), (2, []), (1, []), (1, []), (3, []), (2, []), (1, [])], [(1, []), (1, []), (3, [[926, 0]]), (2, []), (1, []), (3, [[930, 0]]), (1, []), (1, []), (3, [[926, 0]]), (2, []), (1, []), (3, [[932, 0]]), (1, []), (3, [[926, 0]]), (2, []), (1, []), (1, []), (1, []), (3, [[926, 0]]), (3, []), (1, []), (3, [[930, 0]]), (1, []), (1, []), (1, []), (1, []), (3, [[926, 0]]), (3, []), (1, []), (3, [[930, 0]]), (1, []), (2, []), (1, []), (1, []), (3, [[926, 0]]), (3, []), (1, []), (3, [[930, 0]]), (1, []), (1, []), (1, []), (1, []), (1, []), (3, [[931, 0]]), (1, []), (1, []), (3, [[933, 0]]), (1, []), (1, []), (3, [[934, 0]]), (1, []), (1, []), (1, []), (3, [[998, 1000, 19]])], [(1, []), (3, [[933, 0]]), (3, []), (1, []), (2, []), (3, []), (1, []), (3, [[1002, 1004, 20]]), (2, []), (3, []), (1, []), (1, []), (3, [[931, 0]]), (1, []), (1, []), (3, [[931, 0]]), (1, []), (3, [[998, 1000, 19]]), (3, []), (3, [])], [(1, []), (3, [[933, 0]]), (3, []), (1, []), (3, [[931, 0]]), (1, []), (3, [[932, 0]]), (3, [])], [(2, []), (1, []), (3, [[931, 0]]), (1, []), (1, [])], [(1, []), (3, [[926, 0]]), (2, []), (1, []), (1, []), (1, []), (1, []), (1, []), (1, []), (3, [[926, 0]]), (2, []), (1, []), (3, [[930, 0]]), (1, []), (1, []), (3, [[930, 0]]), (1, [])]] = true := by decide +kernel
set_option maxRecDepth 100000 in
theorem cm_k17 : am_mk am_md am_pg 17 := ⟨am_in_mem (j := 997) (by decide +kernel), am_in_mem (j := 60) (by decide +kernel), ⟨by decide +kernel, by decide +kernel⟩, by decide +kernel⟩
set_option maxRecDepth 100000 in
theorem ck_18 : am_mok am_md am_pg 196 18 [[(1, []), (3, [[926, 0]]), (2, []), (1, []), (1, []), (3, []), (1, []), (3, [])], [(1, []), (3, [[926, 0]]), (1, []), (1, []), (3, [[926, 0]]), (2, []), (1, []), (1, []), (1, [])], [(1, [])]] = true := by decide +kernel
set_option maxRecDepth 100000 in
theorem cm_k18 : am_mk am_md am_pg 18 := ⟨am_in_mem (j := 1087) (by decide +kernel), am_in_mem (j := 60) (by decide +kernel), ⟨by decide +kernel, by decide +kernel⟩, by decide +kernel⟩
set_option maxRecDepth 100000 in
theorem ck_19 : am_mok am_md am_pg 196 19 [[(1, []), (1, []), (2, []), (3, [[991, 992]]), (3, []), (1, []), (1, [])], [(1, []), (3, [[1058, 1059]]), (3, []), (2, []), (1, [])], [(1, []), (3, [[926, 0]]), (2, []), (1, []), (1, []), (3, []), (2, []), (1, [])], [(1, []), (3, [[926, 0]]), (2, []), (1, []), (1, []), (1, []), (3, [[926, 0]]), (2, []), (1, []), (1, []), (1, []), (1, []), (1, []), (3, [[926, 0]]), (2, []), (1, []), (1, []), (1, []), (1, []), (1, []), (3, [[926, 0]]), (2, []), (1, []), (1, []), (1, []), (1, []), (1, []), (3, [[926, 0]]), (2, []), (1, []), (1, []), (1, []), (1, []), (1, []), (1, []), (1, [])]] = true := by decide +kernel
set_option maxRecDepth 100000 in
theorem cm_k19 : am_mk am_md am_pg 19 := ⟨am_in_mem (j := 1057) (by decide +kernel), am_in_mem (j := 60) (by decide +kernel), ⟨by decide +kernel, by decide +kernel⟩, by decide +kernel⟩
set_option maxRecDepth 100000 in
theorem ck_20 : am_mok am_md am_pg 196 20 [[(1, []), (1, []), (3, [[1065, 1067, 31]]), (3, []), (1, []), (1, []), (1, []), (3, [[991, 992]]), (3, []), (1, []), (3, [[926, 0]]), (2, []), (1, []), (1, []), (1, []), (1, []), (1, []), (1, []), (1, []), (3, [])], [(1, [])], [(1, [])]] = true := by decide +kernel
set_option maxRecDepth 100000 in
theorem cm_k20 : am_mk am_md am_pg 20 := ⟨am_in_mem (j := 1064) (by decide +kernel), am_in_mem (j := 60) (by decide +kernel), ⟨by decide +kernel, by decide +kernel⟩, by decide +kernel⟩
set_option maxRecDepth 100000 in
theorem ck_21 : am_mok am_md am_pg 196 21 [[(1, []), (3, [[1058, 1059]]), (3, []), (1, []), (1, [])], [(1, []), (1, []), (1, []), (3, [[991, 992]]), (3, []), (2, []), (1, [])], [(1, []), (3, [[926, 0]]), (2, []), (1, []), (1, []), (1, []), (1, []), (1, []), (3, [[926, 0]]), (2, []), (1, []), (1, []), (1, []), (1, []), (1, []), (1, [])]] = true := by decide +kernel
set_option maxRecDepth 100000 in
theorem cm_k21 : am_mk am_md am_pg 21 := ⟨am_in_mem (j := 1072) (by decide +kernel), am_in_mem (j := 60) (by decide +kernel), ⟨by decide +kernel, by decide +kernel⟩, by decide +kernel⟩
set_option maxRecDepth 100000 in
theorem ck_22 : am_mok am_md am_pg 196 22 [[(1, []), (31, [])], [(1, []), (1, [])], [(2, []), (1, [])], [(2, []), (1, [])], [(2, []), (1, [])], [(2, []), (1, [])]] = true := by decide +kernel
set_option maxRecDepth 100000 in
theorem cm_k22 : am_mk am_md am_pg 22 := ⟨am_in_mem (j := 1079) (by decide +kernel), am_in_mem (j := 60) (by decide +kernel), ⟨by decide +kernel, by decide +kernel⟩, by decide +kernel⟩
set_option maxRecDepth 100000 in
theorem ck_23 : am_mok am_md am_pg 196 23 [[(1, []), (1, []), (1, []), (3, [[991, 992]]), (3, []), (1, []), (1, [])], [(1, []), (1, []), (1, []), (3, [[1077, 1078]]), (3, [[991, 992]]), (3, []), (2, []), (1, [])], [(1, []), (3, [[926, 0]]), (1, []), (1, []), (1, []), (1, []), (3, [[926, 0]]), (1, []), (1, []), (1, []), (1, []), (1, [])]] = true := by decide +kernel
set_option maxRecDepth 100000 in
theorem cm_k23 : am_mk am_md am_pg 23 := ⟨am_in_mem (j := 1076) (by decide +kernel), am_in_mem (j := 60) (by decide +kernel), ⟨by decide +kernel, by decide +kernel⟩, by decide +kernel⟩
set_option maxRecDepth 100000 in
theorem ck_24 : am_mok am_md am_pg 196 24 [[(1, []), (2, []), (3, []), (1, []), (2, []), (3, [])], [(1, []), (2, []), (3, []), (1, []), (3, []), (1, []), (3, [[1084, 1086, 32]]), (3, [])], [(1, []), (3, []), (2, []), (3, [[1084, 1086, 32]])], [(1, [])], [(1, []), (3, [[1058, 1059]]), (3, []), (1, []), (3, [[926, 0]]), (1, []), (1, []), (3, [])], [(1, []), (2, []), (2, []), (3, [[991, 992]]), (3, []), (1, []), (3, [[926, 0]]), (2, []), (1, []), (1, []), (2, []), (1, []), (1, []), (3, [])], [(1, [])], [(1, [])]] = true := by decide +kernel
set_option maxRecDepth 100000 in
theorem cm_k24 : am_mk am_md am_pg 24 := ⟨am_in_mem (j := 1083) (by decide +kernel), am_in_mem (j := 60) (by decide +kernel), ⟨by decide +kernel, by decide +kernel⟩, by decide +kernel⟩
