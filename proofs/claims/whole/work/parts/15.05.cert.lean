/-! The check of methods 125 .. -/
set_option maxRecDepth 100000 in
theorem ck_125 : am_mok am_md am_pg 196 125 [[(1, []), (1, []), (1, []), (3, [[628, 616, 1265, 527, 0]]), (1, []), (1, []), (1, []), (1, []), (3, []), (1, []), (3, [])], [(1, []), (1, []), (1, [])], [(1, [])]] = true := by decide +kernel
set_option maxRecDepth 100000 in
theorem cm_k125 : am_mk am_md am_pg 125 := ⟨am_in_mem (j := 627) (by decide +kernel), am_in_mem (j := 72) (by decide +kernel), ⟨by decide +kernel, by decide +kernel⟩, by decide +kernel⟩
set_option maxRecDepth 100000 in
theorem ck_126 : am_mok am_md am_pg 196 126 [[(1, []), (2, []), (3, [[887, 832, 833]]), (1, []), (1, []), (1, []), (1, []), (1, []), (3, [[888, 872, 889, 527, 500]]), (1, []), (1, []), (1, []), (3, [[891, 892, 839, 894, 839, 840]]), (1, []), (1, [])]] = true := by decide +kernel
set_option maxRecDepth 100000 in
theorem cm_k126 : am_mk am_md am_pg 126 := ⟨am_in_mem (j := 886) (by decide +kernel), am_in_mem (j := 72) (by decide +kernel), ⟨by decide +kernel, by decide +kernel⟩, by decide +kernel⟩
set_option maxRecDepth 100000 in
theorem ck_127 : am_mok am_md am_pg 196 127 [[(1, []), (3, [[106, 82, 83]]), (1, []), (2, []), (2, [[142]]), (3, [[109, 0]]), (1, []), (2, []), (2, [[142]]), (3, [[110, 0]]), (1, []), (1, []), (3, [[112, 0]]), (1, []), (2, []), (3, [[116, 0]]), (1, []), (3, [[107]]), (3, [[119, 0]]), (1, [])]] = true := by decide +kernel
set_option maxRecDepth 100000 in
theorem cm_k127 : am_mk am_md am_pg 127 := ⟨am_in_mem (j := 105) (by decide +kernel), am_in_mem (j := 57) (by decide +kernel), ⟨by decide +kernel, by decide +kernel⟩, by decide +kernel⟩
set_option maxRecDepth 100000 in
theorem ck_128 : am_mok am_md am_pg 196 128 [[(1, []), (3, [[109, 0]]), (1, []), (1, []), (3, [[109, 0]]), (1, []), (1, []), (3, [[111, 0]]), (3, [[459, 461, 460, 67]]), (1, []), (1, []), (3, [[111, 0]]), (3, [[111, 0]]), (1, []), (1, []), (3, [[112, 0]]), (3, [[112, 0]]), (1, []), (1, []), (3, [[116, 0]]), (3, [[116, 0]]), (1, [])]] = true := by decide +kernel
set_option maxRecDepth 100000 in
theorem cm_k128 : am_mk am_md am_pg 128 := ⟨am_in_mem (j := 458) (by decide +kernel), am_in_mem (j := 57) (by decide +kernel), ⟨by decide +kernel, by decide +kernel⟩, by decide +kernel⟩
set_option maxRecDepth 100000 in
theorem ck_129 : am_mok am_md am_pg 196 129 [[(1, []), (3, [[110, 0]]), (1, []), (1, []), (3, [[479, 0]]), (1, []), (1, []), (3, [[110, 0]]), (1, []), (1, []), (3, [[634, 561, 562], [634, 563, 561, 567, 568, 582], [634, 563, 561, 570, 571, 582], [634, 563, 561, 576, 577, 582], [634, 563, 561, 579, 580, 582], [634, 563, 561, 564, 565, 582], [634, 563, 561, 573, 574, 582]]), (1, []), (1, []), (3, [[110, 0]]), (1, []), (1, []), (1, []), (1, []), (3, [[110, 0]]), (1, []), (1, []), (1, []), (1, []), (3, [[110, 0]]), (1, []), (2, []), (1, []), (1, []), (3, [[110, 0]]), (1, []), (2, []), (1, []), (1, []), (2, []), (1, []), (2, []), (1, []), (2, [])], [(2, []), (1, []), (3, [[111, 0]]), (3, []), (1, []), (3, [[109, 0]]), (2, []), (1, []), (3, []), (1, []), (2, []), (1, []), (3, [[109, 0]]), (2, []), (1, []), (2, []), (1, []), (2, []), (2, []), (33, [])], [(2, []), (1, []), (1, []), (2, []), (3, [])], [(2, []), (1, []), (1, []), (2, []), (2, []), (1, []), (1, []), (2, []), (3, [])], [(2, []), (1, []), (1, []), (2, []), (1, []), (1, []), (1, []), (2, []), (3, [])], [(2, []), (2, []), (2, []), (1, []), (1, []), (1, []), (1, []), (2, []), (2, []), (1, []), (1, []), (2, []), (3, [])], [(2, []), (2, []), (2, []), (1, []), (1, []), (1, []), (1, []), (2, []), (2, []), (1, []), (1, []), (2, []), (3, [])], [(2, []), (1, []), (1, []), (1, []), (2, []), (2, []), (3, [[635, 637, 14]]), (3, []), (1, []), (3, [])], [(1, [])], [(1, []), (2, [])], [(3, []), (3, [])], [(2, []), (1, [])]] = true := by decide +kernel
set_option maxRecDepth 100000 in
theorem cm_k129 : am_mk am_md am_pg 129 := ⟨am_in_mem (j := 633) (by decide +kernel), am_in_mem (j := 57) (by decide +kernel), ⟨by decide +kernel, by decide +kernel⟩, by decide +kernel⟩
set_option maxRecDepth 100000 in
theorem ck_130 : am_mok am_md am_pg 196 130 [[(1, []), (1, []), (1, []), (1, []), (1, []), (1, []), (3, [[110, 0]]), (1, []), (3, []), (1, []), (1, [])], [(1, []), (3, [[110, 0]]), (1, []), (1, []), (1, []), (3, []), (1, []), (3, [])], [(1, []), (3, [[110, 0]]), (1, []), (1, []), (1, []), (3, []), (1, []), (3, [])], [(1, [])], [(2, []), (2, []), (1, []), (1, []), (1, []), (3, []), (1, []), (3, [])], [(1, [])], [(1, [])]] = true := by decide +kernel
set_option maxRecDepth 100000 in
theorem cm_k130 : am_mk am_md am_pg 130 := ⟨am_in_mem (j := 638) (by decide +kernel), am_in_mem (j := 57) (by decide +kernel), ⟨by decide +kernel, by decide +kernel⟩, by decide +kernel⟩
set_option maxRecDepth 100000 in
theorem ck_131 : am_mok am_md am_pg 196 131 [[(1, []), (1, []), (3, [[119, 0]]), (1, []), (1, []), (1, []), (1, []), (3, [[285, 286]]), (3, [[120, 0]]), (1, []), (1, []), (3, [[121, 0]]), (1, []), (1, []), (3, [[122, 0]]), (1, []), (1, []), (3, [[111, 0]]), (1, []), (1, []), (3, [[112, 0]]), (1, []), (2, []), (3, [[116, 0]]), (1, []), (1, [])], [(1, []), (2, []), (3, []), (1, []), (3, [[122, 0]]), (3, []), (1, []), (3, []), (1, []), (2, []), (3, [[288, 290, 0]])], [(1, []), (3, [[300, 302, 3]]), (1, []), (3, [[121, 0]]), (1, []), (3, [[120, 0]]), (3, []), (1, []), (3, [[122, 0]]), (1, [])], [(3, []), (3, [])], [(1, []), (3, [[296, 298, 2]]), (1, []), (3, [[122, 0]]), (1, [])]] = true := by decide +kernel
set_option maxRecDepth 100000 in
theorem cm_k131 : am_mk am_md am_pg 131 := ⟨am_in_mem (j := 284) (by decide +kernel), am_in_mem (j := 57) (by decide +kernel), ⟨by decide +kernel, by decide +kernel⟩, by decide +kernel⟩
set_option maxRecDepth 100000 in
theorem ck_132 : am_mok am_md am_pg 196 132 [[(1, []), (3, [[304, 306, 4]]), (1, []), (1, []), (2, []), (3, [[288, 290, 0]]), (1, []), (3, [[364, 366, 6]]), (1, []), (1, []), (2, []), (3, []), (1, []), (2, []), (3, [])], [(1, []), (2, []), (3, [[288, 290, 0]]), (1, []), (1, []), (3, [[372, 374, 8]]), (1, []), (1, []), (1, []), (3, [[451, 453, 13]]), (3, [])], [(1, []), (2, []), (3, []), (1, []), (1, []), (3, [[112, 0]]), (3, [])], [(1, []), (2, []), (3, []), (1, []), (1, []), (3, [[116, 0]])], [(1, [])]] = true := by decide +kernel
set_option maxRecDepth 100000 in
theorem cm_k132 : am_mk am_md am_pg 132 := ⟨am_in_mem (j := 303) (by decide +kernel), am_in_mem (j := 57) (by decide +kernel), ⟨by decide +kernel, by decide +kernel⟩, by decide +kernel⟩
set_option maxRecDepth 100000 in
theorem ck_133 : am_mok am_md am_pg 196 133 [[(1, []), (2, []), (3, [[292, 294, 1]]), (3, []), (1, []), (2, []), (2, []), (3, [[309, 311, 5]]), (1, [])], [(1, []), (2, []), (3, [[292, 294, 1]]), (3, []), (1, []), (2, []), (2, []), (3, [[309, 311, 5]]), (1, [])], [(1, []), (2, []), (3, [[292, 294, 1]]), (3, []), (1, []), (2, []), (2, []), (3, [[309, 311, 5]]), (1, [])], [(1, []), (2, []), (2, []), (3, [[309, 311, 5]]), (1, [])]] = true := by decide +kernel
set_option maxRecDepth 100000 in
theorem cm_k133 : am_mk am_md am_pg 133 := ⟨am_in_mem (j := 307) (by decide +kernel), am_in_mem (j := 57) (by decide +kernel), ⟨by decide +kernel, by decide +kernel⟩, by decide +kernel⟩
set_option maxRecDepth 100000 in
theorem ck_134 : am_mok am_md am_pg 196 134 [[(1, []), (1, [])], [(1, []), (1, []), (3, [[313, 314, 315]]), (3, []), (1, []), (1, []), (1, []), (3, [[323, 324, 325]]), (3, [[288, 290, 0]]), (3, []), (3, [])], [(1, []), (1, [])]] = true := by decide +kernel
set_option maxRecDepth 100000 in
theorem cm_k134 : am_mk am_md am_pg 134 := ⟨am_in_mem (j := 312) (by decide +kernel), am_in_mem (j := 57) (by decide +kernel), ⟨by decide +kernel, by decide +kernel⟩, by decide +kernel⟩
set_option maxRecDepth 100000 in
theorem ck_135 : am_mok am_md am_pg 196 135 [[(1, []), (3, [[368, 370, 7]]), (3, []), (1, []), (3, [[296, 298, 2]]), (1, []), (1, [])], [(1, []), (3, [[119, 0]]), (1, []), (3, [[121, 0]]), (1, []), (2, []), (1, []), (1, []), (1, []), (1, []), (3, [[121, 0]]), (1, []), (1, []), (3, [[121, 0]]), (1, []), (3, []), (1, []), (3, [[368, 370, 7]]), (3, []), (2, []), (1, []), (1, []), (1, []), (3, [[119, 0]]), (1, []), (3, [[121, 0]]), (1, []), (1, []), (2, []), (1, []), (1, []), (1, []), (1, []), (3, [[121, 0]]), (1, []), (1, []), (3, [[121, 0]])], [(1, []), (1, [])]] = true := by decide +kernel
set_option maxRecDepth 100000 in
theorem cm_k135 : am_mk am_md am_pg 135 := ⟨am_in_mem (j := 367) (by decide +kernel), am_in_mem (j := 57) (by decide +kernel), ⟨by decide +kernel, by decide +kernel⟩, by decide +kernel⟩
set_option maxRecDepth 100000 in
theorem ck_136 : am_mok am_md am_pg 196 136 [[(1, []), (1, []), (3, [[376, 378, 9]]), (1, []), (1, [])], [(1, []), (1, []), (3, [[120, 0]]), (3, []), (1, []), (2, []), (3, [[292, 294, 1]]), (3, []), (1, []), (1, []), (3, [[121, 0]]), (1, []), (1, []), (3, [[121, 0]]), (1, []), (1, []), (3, [[376, 378, 9]]), (1, []), (2, []), (1, []), (3, [[451, 453, 13]]), (3, []), (3, [])], [(1, [])]] = true := by decide +kernel
set_option maxRecDepth 100000 in
theorem cm_k136 : am_mk am_md am_pg 136 := ⟨am_in_mem (j := 375) (by decide +kernel), am_in_mem (j := 57) (by decide +kernel), ⟨by decide +kernel, by decide +kernel⟩, by decide +kernel⟩
set_option maxRecDepth 100000 in
theorem ck_137 : am_mok am_md am_pg 196 137 [[(1, []), (1, []), (3, [[380, 382, 10]]), (1, []), (1, [])], [(1, []), (1, []), (3, [[120, 0]]), (3, []), (1, []), (2, []), (3, [[292, 294, 1]]), (3, []), (1, []), (1, []), (3, [[121, 0]]), (1, []), (1, []), (3, [[121, 0]]), (1, []), (1, []), (3, [[380, 382, 10]]), (1, []), (2, []), (1, []), (3, [[451, 453, 13]]), (3, []), (3, [])], [(1, [])]] = true := by decide +kernel
set_option maxRecDepth 100000 in
theorem cm_k137 : am_mk am_md am_pg 137 := ⟨am_in_mem (j := 379) (by decide +kernel), am_in_mem (j := 57) (by decide +kernel), ⟨by decide +kernel, by decide +kernel⟩, by decide +kernel⟩
set_option maxRecDepth 100000 in
theorem ck_138 : am_mok am_md am_pg 196 138 [[(1, []), (2, []), (3, [[292, 294, 1]]), (1, []), (1, []), (3, []), (1, []), (2, []), (3, [[292, 294, 1]]), (3, []), (1, []), (3, [[384, 386, 11]]), (1, [])], [(1, []), (1, []), (3, []), (1, []), (3, [[296, 298, 2]]), (1, [])], [(1, []), (1, []), (3, [[121, 0]]), (1, []), (1, []), (3, [[121, 0]]), (1, []), (3, []), (1, []), (1, []), (1, []), (1, []), (3, [[380, 382, 10]]), (1, []), (2, []), (1, []), (3, [[451, 453, 13]]), (3, [])], [(1, []), (1, []), (1, []), (1, []), (3, [[372, 374, 8]]), (1, []), (2, []), (3, [[288, 290, 0]])], [(1, [])]] = true := by decide +kernel
set_option maxRecDepth 100000 in
theorem cm_k138 : am_mk am_md am_pg 138 := ⟨am_in_mem (j := 383) (by decide +kernel), am_in_mem (j := 57) (by decide +kernel), ⟨by decide +kernel, by decide +kernel⟩, by decide +kernel⟩
set_option maxRecDepth 100000 in
theorem ck_139 : am_mok am_md am_pg 196 139 [[(1, []), (2, []), (3, [[389, 391, 12]]), (1, []), (1, []), (2, []), (3, [[389, 391, 12]]), (1, []), (1, []), (3, [[364, 366, 6]]), (1, []), (1, []), (1, []), (1, []), (1, []), (1, []), (1, []), (1, []), (3, [[451, 453, 13]]), (1, [])]] = true := by decide +kernel
set_option maxRecDepth 100000 in
theorem cm_k139 : am_mk am_md am_pg 139 := ⟨am_in_mem (j := 387) (by decide +kernel), am_in_mem (j := 57) (by decide +kernel), ⟨by decide +kernel, by decide +kernel⟩, by decide +kernel⟩
set_option maxRecDepth 100000 in
theorem ck_140 : am_mok am_md am_pg 196 140 [[(1, []), (3, [[122, 0]]), (3, []), (1, []), (3, [[121, 0]]), (1, []), (3, [[120, 0]]), (3, []), (1, []), (1, []), (3, [[119, 0]]), (1, []), (3, [[121, 0]]), (1, []), (1, []), (3, [[393, 394, 395]]), (3, [])], [(1, [])], [(1, []), (1, []), (3, []), (1, []), (3, [[296, 298, 2]]), (1, []), (1, [])], [(1, []), (1, []), (3, [[121, 0]]), (1, []), (1, []), (3, [[121, 0]]), (1, []), (1, [])]] = true := by decide +kernel
set_option maxRecDepth 100000 in
theorem cm_k140 : am_mk am_md am_pg 140 := ⟨am_in_mem (j := 392) (by decide +kernel), am_in_mem (j := 57) (by decide +kernel), ⟨by decide +kernel, by decide +kernel⟩, by decide +kernel⟩
set_option maxRecDepth 100000 in
theorem ck_141 : am_mok am_md am_pg 196 141 [[(1, []), (3, [[122, 0]]), (3, []), (1, []), (3, [[111, 0]]), (1, []), (3, [[109, 0]]), (1, []), (3, [])], [(1, [])], [(1, []), (3, [[109, 0]]), (1, []), (3, [[111, 0]]), (1, []), (1, []), (2, []), (1, []), (1, []), (1, []), (1, []), (1, []), (3, [[111, 0]]), (1, []), (1, []), (3, [[111, 0]]), (1, [])]] = true := by decide +kernel
set_option maxRecDepth 100000 in
theorem cm_k141 : am_mk am_md am_pg 141 := ⟨am_in_mem (j := 454) (by decide +kernel), am_in_mem (j := 57) (by decide +kernel), ⟨by decide +kernel, by decide +kernel⟩, by decide +kernel⟩
set_option maxRecDepth 100000 in
theorem ck_142 : am_mok am_md am_pg 196 142 [[(1, []), (3, [[122, 0]]), (3, []), (1, []), (3, [[121, 0]]), (1, []), (3, [[120, 0]]), (3, []), (1, []), (3, [[119, 0]]), (1, []), (3, [[121, 0]]), (1, []), (1, []), (3, []), (1, []), (3, [])], [(1, [])], [(1, [])]] = true := by decide +kernel
set_option maxRecDepth 100000 in
theorem cm_k142 : am_mk am_md am_pg 142 := ⟨am_in_mem (j := 295) (by decide +kernel), am_in_mem (j := 57) (by decide +kernel), ⟨by decide +kernel, by decide +kernel⟩, by decide +kernel⟩
set_option maxRecDepth 100000 in
theorem ck_143 : am_mok am_md am_pg 196 143 [[(1, []), (3, [[122, 0]]), (3, []), (1, []), (3, [[121, 0]]), (1, []), (3, [[120, 0]]), (3, []), (1, []), (3, [[119, 0]]), (1, []), (3, [[121, 0]]), (1, []), (2, []), (3, []), (1, []), (3, [[119, 0]]), (1, []), (3, [[121, 0]]), (1, []), (2, []), (3, []), (1, []), (3, [])], [(1, [])], [(1, [])]] = true := by decide +kernel
set_option maxRecDepth 100000 in
theorem cm_k143 : am_mk am_md am_pg 143 := ⟨am_in_mem (j := 371) (by decide +kernel), am_in_mem (j := 57) (by decide +kernel), ⟨by decide +kernel, by decide +kernel⟩, by decide +kernel⟩
set_option maxRecDepth 100000 in
theorem ck_144 : am_mok am_md am_pg 196 144 [[(1, []), (1, []), (3, [[292, 294, 1]]), (3, []), (1, []), (1, []), (3, [[121, 0]]), (1, []), (1, []), (3, [[121, 0]]), (3, [])], [(1, []), (3, [[296, 298, 2]])], [(1, [])]] = true := by decide +kernel
set_option maxRecDepth 100000 in
theorem cm_k144 : am_mk am_md am_pg 144 := ⟨am_in_mem (j := 291) (by decide +kernel), am_in_mem (j := 57) (by decide +kernel), ⟨by decide +kernel, by decide +kernel⟩, by decide +kernel⟩
set_option maxRecDepth 100000 in
theorem ck_145 : am_mok am_md am_pg 196 145 [[(1, []), (3, [[122, 0]]), (3, []), (1, []), (1, []), (3, [[121, 0]]), (3, [[122, 0]])], [(1, [])]] = true := by decide +kernel
set_option maxRecDepth 100000 in
theorem cm_k145 : am_mk am_md am_pg 145 := ⟨am_in_mem (j := 299) (by decide +kernel), am_in_mem (j := 57) (by decide +kernel), ⟨by decide +kernel, by decide +kernel⟩, by decide +kernel⟩
set_option maxRecDepth 100000 in
theorem ck_146 : am_mok am_md am_pg 196 146 [[(1, []), (3, [[81, 82, 83]]), (1, []), (3, [[84, 85, 56]]), (1, []), (3, [[0, 87]]), (3, [[251, 0]]), (1, []), (3, [[84, 85, 56]]), (1, []), (3, [[0, 87]]), (3, [[252, 0]]), (1, []), (3, [[84, 85, 56]]), (1, []), (3, [[0, 87]]), (3, [[253, 0]]), (1, []), (3, [[201, 102, 57]]), (1, []), (3, [[0, 104]]), (3, [[254, 0]]), (1, []), (3, [[203, 204, 58]]), (1, []), (3, [[0, 206]]), (3, [[255, 0]]), (1, []), (3, [[236, 237, 59]]), (1, []), (3, [[0, 239]]), (3, [[256, 0]]), (1, [])]] = true := by decide +kernel
set_option maxRecDepth 100000 in
theorem cm_k146 : am_mk am_md am_pg 146 := ⟨am_in_mem (j := 80) (by decide +kernel), am_in_mem (j := 55) (by decide +kernel), ⟨by decide +kernel, by decide +kernel⟩, by decide +kernel⟩
set_option maxRecDepth 100000 in
theorem ck_147 : am_mok am_md am_pg 196 147 [[(1, []), (3, []), (1, []), (2, []), (3, [])], [(2, []), (1, [])], [(1, []), (3, [[251, 0]]), (3, [[159, 0]]), (2, []), (3, []), (2, []), (1, [])], [(1, []), (3, [[251, 0]]), (3, [[158, 0]]), (1, []), (3, [[251, 0]]), (3, [[159, 0]]), (1, []), (1, []), (1, []), (1, []), (3, [[251, 0]]), (1, []), (3, [[159, 0]]), (1, []), (1, []), (3, [[159, 0]]), (1, []), (3, [[251, 0]]), (3, [[159, 0]]), (1, [])]] = true := by decide +kernel
set_option maxRecDepth 100000 in
theorem cm_k147 : am_mk am_md am_pg 147 := ⟨am_in_mem (j := 276) (by decide +kernel), am_in_mem (j := 55) (by decide +kernel), ⟨by decide +kernel, by decide +kernel⟩, by decide +kernel⟩
set_option maxRecDepth 100000 in
theorem ck_148 : am_mok am_md am_pg 196 148 [[(1, []), (3, [[251, 0]]), (3, [[165, 0]]), (1, []), (3, []), (2, []), (1, [])], [(1, []), (3, [[254, 0]]), (1, []), (3, [[251, 0]]), (3, [[158, 0]]), (1, []), (3, [[251, 0]]), (3, [[159, 0]]), (3, [[281, 282, 283]]), (1, []), (1, []), (3, [[251, 0]]), (1, []), (3, [[159, 0]]), (1, []), (3, []), (2, []), (1, []), (1, []), (1, [])], [(1, []), (3, [[251, 0]]), (3, [[162, 0]]), (1, []), (3, [[254, 0]]), (3, [[455, 456, 457]]), (1, []), (3, [[251, 0]]), (1, []), (3, [[165, 0]]), (1, []), (1, []), (3, [[165, 0]]), (1, []), (3, [[251, 0]]), (3, [[165, 0]]), (1, []), (1, []), (1, [])]] = true := by decide +kernel
set_option maxRecDepth 100000 in
theorem cm_k148 : am_mk am_md am_pg 148 := ⟨am_in_mem (j := 280) (by decide +kernel), am_in_mem (j := 55) (by decide +kernel), ⟨by decide +kernel, by decide +kernel⟩, by decide +kernel⟩
set_option maxRecDepth 100000 in
theorem ck_149 : am_mok am_md am_pg 196 149 [[(1, []), (3, []), (1, []), (2, []), (3, [])], [(1, []), (1, [])], [(1, []), (3, []), (1, []), (2, []), (3, [])], [(2, []), (1, [])], [(1, []), (3, [[251, 0]]), (3, [[156, 0]]), (1, []), (3, []), (2, []), (1, [])], [(1, []), (3, [[251, 0]]), (3, [[156, 0]]), (1, []), (1, []), (3, [[251, 0]]), (3, [[151, 0]]), (1, []), (1, []), (1, []), (1, []), (3, [[466, 467]]), (1, []), (1, []), (3, [[251, 0]]), (1, []), (3, [[156, 0]]), (1, []), (1, []), (3, [[156, 0]]), (1, []), (1, [])]] = true := by decide +kernel
set_option maxRecDepth 100000 in
theorem cm_k149 : am_mk am_md am_pg 149 := ⟨am_in_mem (j := 465) (by decide +kernel), am_in_mem (j := 55) (by decide +kernel), ⟨by decide +kernel, by decide +kernel⟩, by decide +kernel⟩
