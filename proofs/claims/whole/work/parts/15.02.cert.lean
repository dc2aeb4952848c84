/-! The check of methods 50 .. -/
set_option maxRecDepth 100000 in
theorem ck_50 : am_mok am_md am_pg 196 50 [[(1, []), (1, []), (1, []), (2, [])], [(2, []), (2, []), (3, []), (1, []), (1, []), (1, []), (2, []), (3, [[1112, 1114, 37]]), (1, []), (3, []), (1, []), (1, []), (2, []), (3, [[1108, 1110, 36]]), (3, []), (1, []), (3, [])], [(1, [])], [(1, []), (1, []), (3, []), (3, [])], [(1, []), (1, [])]] = true := by decide +kernel
set_option maxRecDepth 100000 in
theorem cm_k50 : am_mk am_md am_pg 50 := ⟨am_in_mem (j := 1197) (by decide +kernel), am_in_mem (j := 60) (by decide +kernel), ⟨by decide +kernel, by decide +kernel⟩, by decide +kernel⟩
set_option maxRecDepth 100000 in
theorem ck_51 : am_mok am_md am_pg 196 51 [[(1, []), (3, [[1058, 1059]]), (3, []), (1, []), (1, [])], [(1, []), (1, []), (1, []), (1, [])], [(1, []), (1, []), (3, [[926, 0]]), (2, []), (1, []), (3, []), (1, []), (1, []), (1, []), (1, []), (3, [[1194, 1196, 46]]), (3, []), (1, []), (1, []), (1, []), (3, [])], [(1, [])], [(1, []), (1, []), (3, []), (3, [])], [(1, []), (1, [])]] = true := by decide +kernel
set_option maxRecDepth 100000 in
theorem cm_k51 : am_mk am_md am_pg 51 := ⟨am_in_mem (j := 1193) (by decide +kernel), am_in_mem (j := 60) (by decide +kernel), ⟨by decide +kernel, by decide +kernel⟩, by decide +kernel⟩
set_option maxRecDepth 100000 in
theorem ck_52 : am_mok am_md am_pg 196 52 [[(1, []), (1, []), (1, []), (3, [[991, 992]]), (3, []), (1, []), (1, [])], [(2, []), (1, []), (2, []), (1, []), (1, []), (2, [])], [(2, []), (2, []), (3, []), (1, []), (2, []), (1, []), (2, [])], [(2, []), (1, []), (3, [[926, 0]]), (2, []), (1, []), (3, []), (2, []), (1, []), (2, []), (2, []), (3, [[1194, 1196, 46]]), (1, []), (2, []), (3, []), (3, [])], [(1, []), (3, [[926, 0]]), (2, []), (2, []), (1, []), (1, []), (1, []), (3, []), (2, []), (1, []), (3, []), (2, []), (1, []), (2, []), (1, [])], [(3, []), (3, [])], [(1, []), (3, []), (1, []), (3, [])], [(1, [])], [(1, [])]] = true := by decide +kernel
set_option maxRecDepth 100000 in
theorem cm_k52 : am_mk am_md am_pg 52 := ⟨am_in_mem (j := 1201) (by decide +kernel), am_in_mem (j := 60) (by decide +kernel), ⟨by decide +kernel, by decide +kernel⟩, by decide +kernel⟩
set_option maxRecDepth 100000 in
theorem ck_53 : am_mok am_md am_pg 196 53 [[(1, []), (1, []), (3, []), (1, []), (3, [[926, 0]]), (2, []), (1, []), (1, []), (1, []), (1, [])], [(1, []), (1, []), (3, [[1065, 1067, 31]]), (3, []), (1, []), (1, [])], [(1, []), (3, [[1058, 1059]]), (3, []), (1, []), (1, []), (1, []), (3, [[991, 992]]), (3, [])], [(2, []), (1, [])], [(1, []), (3, [[926, 0]]), (2, []), (1, []), (2, []), (3, []), (2, []), (1, [])], [(1, []), (3, [[926, 0]]), (2, []), (1, []), (3, [[926, 0]]), (2, []), (1, []), (1, []), (1, []), (1, []), (1, []), (3, [[926, 0]]), (2, []), (1, []), (3, [[926, 0]]), (2, []), (1, []), (1, []), (1, []), (1, []), (1, []), (3, [[926, 0]]), (2, []), (1, []), (3, [[926, 0]]), (2, []), (1, []), (1, []), (1, []), (1, []), (1, []), (3, [[926, 0]]), (2, []), (1, []), (1, []), (1, []), (1, []), (1, []), (1, []), (3, [[926, 0]]), (2, []), (1, []), (1, [])]] = true := by decide +kernel
set_option maxRecDepth 100000 in
theorem cm_k53 : am_mk am_md am_pg 53 := ⟨am_in_mem (j := 1205) (by decide +kernel), am_in_mem (j := 60) (by decide +kernel), ⟨by decide +kernel, by decide +kernel⟩, by decide +kernel⟩
set_option maxRecDepth 100000 in
theorem ck_54 : am_mok am_md am_pg 196 54 [[(1, []), (1, [])], [(1, []), (2, []), (3, []), (1, []), (3, [[928, 0]]), (1, []), (1, []), (3, [[926, 0]]), (1, []), (1, []), (1, []), (3, []), (3, [])], [(2, []), (1, []), (1, []), (1, [])], [(1, []), (1, []), (3, [[926, 0]]), (2, []), (1, []), (3, []), (1, []), (2, []), (3, []), (1, []), (3, [[926, 0]]), (1, []), (1, []), (3, []), (1, []), (1, []), (3, [[926, 0]]), (2, []), (1, []), (1, []), (1, []), (1, []), (3, [[926, 0]]), (2, []), (1, []), (1, []), (1, []), (3, [[1120, 1122, 38]]), (1, []), (3, [[926, 0]]), (2, []), (1, []), (1, []), (1, []), (3, [])], [(1, []), (3, [])], [(1, [])], [(1, []), (3, []), (3, [])], [(1, []), (1, [])], [(1, []), (2, []), (3, []), (1, []), (3, [[926, 0]]), (1, []), (1, []), (3, [[928, 0]]), (1, []), (1, []), (1, []), (3, []), (3, [])], [(1, []), (1, [])]] = true := by decide +kernel
set_option maxRecDepth 100000 in
theorem cm_k54 : am_mk am_md am_pg 54 := ⟨am_in_mem (j := 1209) (by decide +kernel), am_in_mem (j := 60) (by decide +kernel), ⟨by decide +kernel, by decide +kernel⟩, by decide +kernel⟩
set_option maxRecDepth 100000 in
theorem ck_55 : am_mok am_md am_pg 196 55 [[(1, []), (3, [[941, 0]]), (2, []), (3, []), (1, []), (3, [[940, 0]]), (1, []), (3, [[941, 0]]), (1, []), (1, [])], [(1, []), (1, []), (3, [[941, 0]]), (1, []), (1, []), (3, [[941, 0]]), (1, [])]] = true := by decide +kernel
set_option maxRecDepth 100000 in
theorem cm_k55 : am_mk am_md am_pg 55 := ⟨am_in_mem (j := 1224) (by decide +kernel), am_in_mem (j := 60) (by decide +kernel), ⟨by decide +kernel, by decide +kernel⟩, by decide +kernel⟩
set_option maxRecDepth 100000 in
theorem ck_56 : am_mok am_md am_pg 196 56 [[(1, []), (3, []), (1, []), (1, []), (3, []), (1, []), (3, []), (1, []), (1, []), (3, []), (1, []), (1, []), (1, []), (1, []), (3, [])], [(1, []), (3, [])], [(1, [])], [(1, [])]] = true := by decide +kernel
set_option maxRecDepth 100000 in
theorem cm_k56 : am_mk am_md am_pg 56 := ⟨am_in_mem (j := 1220) (by decide +kernel), am_in_mem (j := 60) (by decide +kernel), ⟨by decide +kernel, by decide +kernel⟩, by decide +kernel⟩
set_option maxRecDepth 100000 in
theorem ck_57 : am_mok am_md am_pg 196 57 [[(1, []), (1, []), (3, [[1221, 1223, 48]]), (1, []), (1, []), (3, [[943, 0]]), (1, []), (1, [])]] = true := by decide +kernel
set_option maxRecDepth 100000 in
theorem cm_k57 : am_mk am_md am_pg 57 := ⟨am_in_mem (j := 1228) (by decide +kernel), am_in_mem (j := 60) (by decide +kernel), ⟨by decide +kernel, by decide +kernel⟩, by decide +kernel⟩
set_option maxRecDepth 100000 in
theorem ck_58 : am_mok am_md am_pg 196 58 [[(1, []), (3, [[942, 0]]), (1, []), (3, [[1218, 1219]]), (3, []), (1, []), (2, []), (3, [[1221, 1223, 48]]), (1, []), (1, []), (1, []), (1, []), (3, [[1225, 1227, 49]]), (1, [])], [(1, []), (3, [[942, 0]]), (1, []), (3, []), (1, []), (2, []), (3, [[1221, 1223, 48]]), (1, []), (1, []), (3, [[1225, 1227, 49]]), (1, []), (3, [[943, 0]]), (1, []), (1, [])], [(1, []), (1, []), (3, [[1225, 1227, 49]]), (1, [])]] = true := by decide +kernel
set_option maxRecDepth 100000 in
theorem cm_k58 : am_mk am_md am_pg 58 := ⟨am_in_mem (j := 1217) (by decide +kernel), am_in_mem (j := 60) (by decide +kernel), ⟨by decide +kernel, by decide +kernel⟩, by decide +kernel⟩
set_option maxRecDepth 100000 in
theorem ck_59 : am_mok am_md am_pg 196 59 [[(1, []), (1, []), (3, [[1221, 1223, 48]]), (1, []), (1, []), (3, [[1214, 1216, 47]]), (1, []), (3, [[944, 0]]), (1, []), (1, [])]] = true := by decide +kernel
set_option maxRecDepth 100000 in
theorem cm_k59 : am_mk am_md am_pg 59 := ⟨am_in_mem (j := 1236) (by decide +kernel), am_in_mem (j := 60) (by decide +kernel), ⟨by decide +kernel, by decide +kernel⟩, by decide +kernel⟩
set_option maxRecDepth 100000 in
theorem ck_60 : am_mok am_md am_pg 196 60 [[(1, []), (3, [[942, 0]]), (1, []), (3, [[1218, 1219]]), (3, []), (1, []), (2, []), (3, [[1221, 1223, 48]]), (1, []), (1, []), (3, [[1233, 1235, 51]]), (1, []), (1, [])], [(1, []), (3, [[942, 0]]), (2, []), (3, []), (1, []), (2, []), (3, [[1221, 1223, 48]]), (1, []), (1, []), (3, [[1233, 1235, 51]]), (1, []), (3, [[944, 0]]), (1, []), (1, [])], [(1, []), (1, []), (3, [[1233, 1235, 51]]), (1, [])]] = true := by decide +kernel
set_option maxRecDepth 100000 in
theorem cm_k60 : am_mk am_md am_pg 60 := ⟨am_in_mem (j := 1232) (by decide +kernel), am_in_mem (j := 60) (by decide +kernel), ⟨by decide +kernel, by decide +kernel⟩, by decide +kernel⟩
set_option maxRecDepth 100000 in
theorem ck_61 : am_mok am_md am_pg 196 61 [[(1, []), (1, []), (3, [[1221, 1223, 48]]), (1, []), (1, []), (3, [[1229, 1231, 50]]), (1, []), (1, []), (1, [])]] = true := by decide +kernel
set_option maxRecDepth 100000 in
theorem cm_k61 : am_mk am_md am_pg 61 := ⟨am_in_mem (j := 1244) (by decide +kernel), am_in_mem (j := 60) (by decide +kernel), ⟨by decide +kernel, by decide +kernel⟩, by decide +kernel⟩
set_option maxRecDepth 100000 in
theorem ck_62 : am_mok am_md am_pg 196 62 [[(1, []), (3, [[942, 0]]), (1, []), (3, [[1218, 1219]]), (3, []), (1, []), (2, []), (3, [[1221, 1223, 48]]), (1, []), (1, []), (3, [[1241, 1243, 53]]), (2, []), (1, []), (1, [])], [(1, []), (3, [[942, 0]]), (1, []), (3, []), (1, []), (2, []), (3, [[1221, 1223, 48]]), (1, []), (1, []), (1, []), (1, []), (3, [[1241, 1243, 53]]), (1, []), (1, []), (1, []), (1, []), (3, [[1214, 1216, 47]]), (1, []), (1, [])], [(1, []), (1, []), (3, [[1241, 1243, 53]]), (1, [])]] = true := by decide +kernel
set_option maxRecDepth 100000 in
theorem cm_k62 : am_mk am_md am_pg 62 := ⟨am_in_mem (j := 1240) (by decide +kernel), am_in_mem (j := 60) (by decide +kernel), ⟨by decide +kernel, by decide +kernel⟩, by decide +kernel⟩
set_option maxRecDepth 100000 in
theorem ck_63 : am_mok am_md am_pg 196 63 [[(1, []), (1, []), (3, [[941, 0]]), (1, []), (1, []), (3, [[1065, 1067, 31]]), (3, []), (1, []), (1, []), (1, []), (3, [[991, 992]]), (3, [])], [(1, []), (1, [])], [(1, []), (1, []), (3, [[926, 0]]), (2, []), (1, []), (1, []), (1, []), (3, [[942, 0]]), (1, []), (1, []), (3, [[943, 0]]), (1, []), (1, []), (3, [[926, 0]]), (2, []), (1, []), (1, []), (1, []), (3, [[944, 0]]), (1, []), (3, []), (1, []), (1, []), (3, [[1214, 1216, 47]]), (3, [])], [(1, []), (1, []), (3, []), (1, []), (1, []), (3, [[1229, 1231, 50]]), (3, [])], [(1, []), (1, []), (3, [[1237, 1239, 52]])], [(1, [])]] = true := by decide +kernel
set_option maxRecDepth 100000 in
theorem cm_k63 : am_mk am_md am_pg 63 := ⟨am_in_mem (j := 1213) (by decide +kernel), am_in_mem (j := 60) (by decide +kernel), ⟨by decide +kernel, by decide +kernel⟩, by decide +kernel⟩
set_option maxRecDepth 100000 in
theorem ck_64 : am_mok am_md am_pg 196 64 [[(1, []), (1, []), (1, []), (3, [[941, 0]]), (2, []), (3, []), (1, []), (3, [[941, 0]]), (3, [])], [(2, [])], [(1, []), (1, []), (3, [[991, 992]]), (3, []), (1, []), (3, [[940, 0]]), (1, []), (1, []), (3, [])], [(1, [])], [(1, [])]] = true := by decide +kernel
set_option maxRecDepth 100000 in
theorem cm_k64 : am_mk am_md am_pg 64 := ⟨am_in_mem (j := 1248) (by decide +kernel), am_in_mem (j := 60) (by decide +kernel), ⟨by decide +kernel, by decide +kernel⟩, by decide +kernel⟩
set_option maxRecDepth 100000 in
theorem ck_65 : am_mok am_md am_pg 196 65 [[(1, []), (1, []), (3, [[1065, 1067, 31]]), (3, []), (1, []), (1, []), (2, []), (3, [[991, 992]]), (3, [])], [(1, []), (1, [])], [(1, []), (3, [[926, 0]]), (2, []), (1, []), (1, []), (1, []), (1, []), (3, [[1218, 1219]]), (3, []), (1, []), (3, [[926, 0]]), (2, []), (1, []), (1, []), (1, []), (3, [])], [(2, [])], [(1, [])]] = true := by decide +kernel
set_option maxRecDepth 100000 in
theorem cm_k65 : am_mk am_md am_pg 65 := ⟨am_in_mem (j := 1252) (by decide +kernel), am_in_mem (j := 60) (by decide +kernel), ⟨by decide +kernel, by decide +kernel⟩, by decide +kernel⟩
set_option maxRecDepth 100000 in
theorem ck_66 : am_mok am_md am_pg 196 66 [[(1, []), (1, [])], [(1, []), (3, []), (3, []), (1, []), (3, [[927, 0]]), (1, []), (1, []), (3, [[926, 0]]), (1, []), (1, []), (1, []), (3, []), (3, [])], [(1, []), (1, []), (3, [[929, 0]]), (1, []), (3, [[926, 0]]), (2, []), (1, []), (1, [])]] = true := by decide +kernel
set_option maxRecDepth 100000 in
theorem cm_k66 : am_mk am_md am_pg 66 := ⟨am_in_mem (j := 1256) (by decide +kernel), am_in_mem (j := 60) (by decide +kernel), ⟨by decide +kernel, by decide +kernel⟩, by decide +kernel⟩
set_option maxRecDepth 100000 in
theorem ck_67 : am_mok am_md am_pg 196 67 [[(1, []), (3, [[929, 0]]), (3, []), (2, []), (1, [])], [(1, []), (1, [])], [(1, []), (3, []), (3, []), (1, []), (3, [[926, 0]]), (1, []), (1, []), (3, [[927, 0]]), (1, []), (1, []), (1, []), (3, []), (3, [])], [(1, []), (3, [[926, 0]]), (2, []), (1, []), (1, [])]] = true := by decide +kernel
set_option maxRecDepth 100000 in
theorem cm_k67 : am_mk am_md am_pg 67 := ⟨am_in_mem (j := 1260) (by decide +kernel), am_in_mem (j := 60) (by decide +kernel), ⟨by decide +kernel, by decide +kernel⟩, by decide +kernel⟩
set_option maxRecDepth 100000 in
theorem ck_68 : am_mok am_md am_pg 196 68 [[(1, []), (35, [])], [(1, []), (3, [[926, 0]]), (2, []), (1, []), (1, [])], [(1, []), (3, [[926, 0]]), (2, []), (1, []), (1, [])], [(1, []), (3, [[926, 0]]), (2, []), (1, []), (1, [])], [(1, []), (3, [[926, 0]]), (2, []), (1, []), (1, [])], [(1, []), (3, [[941, 0]]), (1, [])], [(1, []), (1, [])]] = true := by decide +kernel
set_option maxRecDepth 100000 in
theorem cm_k68 : am_mk am_md am_pg 68 := ⟨am_in_mem (j := 1264) (by decide +kernel), am_in_mem (j := 60) (by decide +kernel), ⟨by decide +kernel, by decide +kernel⟩, by decide +kernel⟩
set_option maxRecDepth 100000 in
theorem ck_69 : am_mok am_md am_pg 196 69 [[(1, []), (1, []), (1, []), (3, [[533, 504]]), (1, [])]] = true := by decide +kernel
set_option maxRecDepth 100000 in
theorem cm_k69 : am_mk am_md am_pg 69 := ⟨am_in_mem (j := 532) (by decide +kernel), am_in_mem (j := 73) (by decide +kernel), ⟨by decide +kernel, by decide +kernel⟩, by decide +kernel⟩
set_option maxRecDepth 100000 in
theorem ck_70 : am_mok am_md am_pg 196 70 [[(1, []), (1, [])]] = true := by decide +kernel
set_option maxRecDepth 100000 in
theorem cm_k70 : am_mk am_md am_pg 70 := ⟨am_in_mem (j := 566) (by decide +kernel), am_in_mem (j := 73) (by decide +kernel), ⟨by decide +kernel, by decide +kernel⟩, by decide +kernel⟩
set_option maxRecDepth 100000 in
theorem ck_71 : am_mok am_md am_pg 196 71 [[(1, []), (1, [])]] = true := by decide +kernel
set_option maxRecDepth 100000 in
theorem cm_k71 : am_mk am_md am_pg 71 := ⟨am_in_mem (j := 658) (by decide +kernel), am_in_mem (j := 73) (by decide +kernel), ⟨by decide +kernel, by decide +kernel⟩, by decide +kernel⟩
set_option maxRecDepth 100000 in
theorem ck_72 : am_mok am_md am_pg 196 72 [[(1, []), (2, []), (3, [[831, 832, 833]]), (1, []), (1, []), (1, []), (3, [[835, 825, 836, 536, 509]]), (1, []), (3, [[480, 481]]), (1, []), (1, [])]] = true := by decide +kernel
set_option maxRecDepth 100000 in
theorem cm_k72 : am_mk am_md am_pg 72 := ⟨am_in_mem (j := 830) (by decide +kernel), am_in_mem (j := 73) (by decide +kernel), ⟨by decide +kernel, by decide +kernel⟩, by decide +kernel⟩
set_option maxRecDepth 100000 in
theorem ck_73 : am_mok am_md am_pg 196 73 [[(1, []), (3, [[208, 82, 83]]), (1, []), (3, []), (2, [[235]]), (3, [[209, 0]]), (1, []), (2, []), (2, [[142]]), (3, [[210, 0]]), (1, [])]] = true := by decide +kernel
set_option maxRecDepth 100000 in
theorem cm_k73 : am_mk am_md am_pg 73 := ⟨am_in_mem (j := 207) (by decide +kernel), am_in_mem (j := 58) (by decide +kernel), ⟨by decide +kernel, by decide +kernel⟩, by decide +kernel⟩
set_option maxRecDepth 100000 in
theorem ck_74 : am_mok am_md am_pg 196 74 [[(1, []), (1, []), (1, []), (1, []), (1, []), (1, []), (1, []), (1, []), (1, []), (1, []), (1, []), (1, []), (1, []), (2, []), (1, []), (1, []), (1, []), (1, []), (1, []), (1, []), (1, []), (1, []), (1, []), (1, []), (1, []), (1, [])]] = true := by decide +kernel
set_option maxRecDepth 100000 in
theorem cm_k74 : am_mk am_md am_pg 74 := ⟨am_in_mem (j := 762) (by decide +kernel), am_in_mem (j := 58) (by decide +kernel), ⟨by decide +kernel, by decide +kernel⟩, by decide +kernel⟩
