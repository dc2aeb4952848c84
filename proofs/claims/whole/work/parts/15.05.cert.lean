/-! The check of methods 125 .. -/
set_option maxRecDepth 100000 in
theorem ck_125 : am_mok am_md am_pg 196 125 [[(1, []), (1, []), (1, []), (3, [[626, 614, 1261, 525, 0]]), (1, []), (1, []), (1, []), (1, []), (3, []), (1, []), (3, [])], [(1, []), (1, []), (1, [])], [(1, [])]] = true := by decide +kernel
set_option maxRecDepth 100000 in
theorem cm_k125 : am_mk am_md am_pg 125 := ⟨am_in_mem (j := 625) (by decide +kernel), am_in_mem (j := 72) (by decide +kernel), ⟨by decide +kernel, by decide +kernel⟩, by decide +kernel⟩
set_option maxRecDepth 100000 in
theorem ck_126 : am_mok am_md am_pg 196 126 [[(1, []), (2, []), (3, [[883, 828, 829]]), (1, []), (1, []), (1, []), (1, []), (1, []), (3, [[884, 868, 885, 525, 498]]), (1, []), (1, []), (1, []), (3, [[887, 888, 835, 890, 835, 836]]), (1, []), (1, [])]] = true := by decide +kernel
set_option maxRecDepth 100000 in
theorem cm_k126 : am_mk am_md am_pg 126 := ⟨am_in_mem (j := 882) (by decide +kernel), am_in_mem (j := 72) (by decide +kernel), ⟨by decide +kernel, by decide +kernel⟩, by decide +kernel⟩
set_option maxRecDepth 100000 in
theorem ck_127 : am_mok am_md am_pg 196 127 [[(1, []), (3, [[106, 82, 83]]), (1, []), (2, []), (2, [[140]]), (3, [[107, 0]]), (1, []), (2, []), (2, [[140]]), (3, [[108, 0]]), (1, []), (1, []), (3, [[110, 0]]), (1, []), (2, []), (3, [[114, 0]]), (1, [])]] = true := by decide +kernel
set_option maxRecDepth 100000 in
theorem cm_k127 : am_mk am_md am_pg 127 := ⟨am_in_mem (j := 105) (by decide +kernel), am_in_mem (j := 57) (by decide +kernel), ⟨by decide +kernel, by decide +kernel⟩, by decide +kernel⟩
set_option maxRecDepth 100000 in
theorem ck_128 : am_mok am_md am_pg 196 128 [[(1, []), (3, [[107, 0]]), (1, []), (1, []), (3, [[107, 0]]), (1, []), (1, []), (3, [[109, 0]]), (3, [[457, 459, 458, 67]]), (1, []), (1, []), (3, [[109, 0]]), (3, [[109, 0]]), (1, []), (1, []), (3, [[110, 0]]), (3, [[110, 0]]), (1, []), (1, []), (3, [[114, 0]]), (3, [[114, 0]]), (1, [])]] = true := by decide +kernel
set_option maxRecDepth 100000 in
theorem cm_k128 : am_mk am_md am_pg 128 := ⟨am_in_mem (j := 456) (by decide +kernel), am_in_mem (j := 57) (by decide +kernel), ⟨by decide +kernel, by decide +kernel⟩, by decide +kernel⟩
set_option maxRecDepth 100000 in
theorem ck_129 : am_mok am_md am_pg 196 129 [[(1, []), (3, [[108, 0]]), (1, []), (1, []), (3, [[477, 0]]), (1, []), (1, []), (3, [[108, 0]]), (1, []), (1, []), (3, [[632, 559, 560], [632, 561, 559, 565, 566, 580], [632, 561, 559, 568, 569, 580], [632, 561, 559, 574, 575, 580], [632, 561, 559, 577, 578, 580], [632, 561, 559, 562, 563, 580], [632, 561, 559, 571, 572, 580]]), (1, []), (1, []), (3, [[108, 0]]), (1, []), (1, []), (1, []), (1, []), (3, [[108, 0]]), (1, []), (1, []), (1, []), (1, []), (3, [[108, 0]]), (1, []), (2, []), (1, []), (1, []), (3, [[108, 0]]), (1, []), (2, []), (1, []), (1, []), (2, []), (1, []), (2, []), (1, []), (2, [])], [(2, []), (1, []), (3, [[109, 0]]), (3, []), (1, []), (3, [[107, 0]]), (2, []), (1, []), (3, []), (1, []), (2, []), (1, []), (3, [[107, 0]]), (2, []), (1, []), (2, []), (1, []), (2, []), (2, []), (33, [])], [(2, []), (1, []), (1, []), (2, []), (3, [])], [(2, []), (1, []), (1, []), (2, []), (2, []), (1, []), (1, []), (2, []), (3, [])], [(2, []), (1, []), (1, []), (2, []), (1, []), (1, []), (1, []), (2, []), (3, [])], [(2, []), (2, []), (2, []), (1, []), (1, []), (1, []), (1, []), (2, []), (2, []), (1, []), (1, []), (2, []), (3, [])], [(2, []), (2, []), (2, []), (1, []), (1, []), (1, []), (1, []), (2, []), (2, []), (1, []), (1, []), (2, []), (3, [])], [(2, []), (1, []), (1, []), (1, []), (2, []), (2, []), (3, [[633, 635, 14]]), (3, []), (1, []), (3, [])], [(1, [])], [(1, []), (2, [])], [(3, []), (3, [])], [(2, []), (1, [])]] = true := by decide +kernel
set_option maxRecDepth 100000 in
theorem cm_k129 : am_mk am_md am_pg 129 := ⟨am_in_mem (j := 631) (by decide +kernel), am_in_mem (j := 57) (by decide +kernel), ⟨by decide +kernel, by decide +kernel⟩, by decide +kernel⟩
set_option maxRecDepth 100000 in
theorem ck_130 : am_mok am_md am_pg 196 130 [[(1, []), (1, []), (1, []), (1, []), (1, []), (1, []), (3, [[108, 0]]), (1, []), (3, []), (1, []), (1, [])], [(1, []), (3, [[108, 0]]), (1, []), (1, []), (1, []), (3, []), (1, []), (3, [])], [(1, []), (3, [[108, 0]]), (1, []), (1, []), (1, []), (3, []), (1, []), (3, [])], [(1, [])], [(2, []), (2, []), (1, []), (1, []), (1, []), (3, []), (1, []), (3, [])], [(1, [])], [(1, [])]] = true := by decide +kernel
set_option maxRecDepth 100000 in
theorem cm_k130 : am_mk am_md am_pg 130 := ⟨am_in_mem (j := 636) (by decide +kernel), am_in_mem (j := 57) (by decide +kernel), ⟨by decide +kernel, by decide +kernel⟩, by decide +kernel⟩
set_option maxRecDepth 100000 in
theorem ck_131 : am_mok am_md am_pg 196 131 [[(1, []), (1, []), (3, [[117, 0]]), (1, []), (1, []), (3, [[118, 0]]), (1, []), (1, []), (3, [[119, 0]]), (1, []), (1, []), (3, [[120, 0]]), (1, []), (1, []), (3, [[109, 0]]), (1, []), (1, []), (3, [[110, 0]]), (1, []), (2, []), (3, [[114, 0]]), (1, []), (1, [])], [(1, []), (2, []), (3, []), (1, []), (3, [[120, 0]]), (3, []), (1, []), (3, []), (1, []), (2, []), (3, [[284, 286, 0]])], [(1, []), (3, [[296, 298, 3]]), (1, []), (3, [[119, 0]]), (1, []), (3, [[118, 0]]), (3, []), (1, []), (3, [[120, 0]]), (1, [])], [(3, []), (3, [])], [(1, []), (3, [[292, 294, 2]]), (1, []), (3, [[120, 0]]), (1, [])]] = true := by decide +kernel
set_option maxRecDepth 100000 in
theorem cm_k131 : am_mk am_md am_pg 131 := ⟨am_in_mem (j := 283) (by decide +kernel), am_in_mem (j := 57) (by decide +kernel), ⟨by decide +kernel, by decide +kernel⟩, by decide +kernel⟩
set_option maxRecDepth 100000 in
theorem ck_132 : am_mok am_md am_pg 196 132 [[(1, []), (3, [[300, 302, 4]]), (1, []), (1, []), (2, []), (3, [[284, 286, 0]]), (1, []), (3, [[360, 362, 6]]), (1, []), (1, []), (2, []), (3, []), (1, []), (2, []), (3, [])], [(1, []), (2, []), (3, [[284, 286, 0]]), (1, []), (1, []), (3, [[368, 370, 8]]), (1, []), (1, []), (1, []), (3, [[449, 451, 13]]), (3, [])], [(1, []), (2, []), (3, []), (1, []), (1, []), (3, [[110, 0]]), (3, [])], [(1, []), (2, []), (3, []), (1, []), (1, []), (3, [[114, 0]])], [(1, [])]] = true := by decide +kernel
set_option maxRecDepth 100000 in
theorem cm_k132 : am_mk am_md am_pg 132 := ⟨am_in_mem (j := 299) (by decide +kernel), am_in_mem (j := 57) (by decide +kernel), ⟨by decide +kernel, by decide +kernel⟩, by decide +kernel⟩
set_option maxRecDepth 100000 in
theorem ck_133 : am_mok am_md am_pg 196 133 [[(1, []), (2, []), (3, [[288, 290, 1]]), (3, []), (1, []), (2, []), (2, []), (3, [[305, 307, 5]]), (1, [])], [(1, []), (2, []), (3, [[288, 290, 1]]), (3, []), (1, []), (2, []), (2, []), (3, [[305, 307, 5]]), (1, [])], [(1, []), (2, []), (3, [[288, 290, 1]]), (3, []), (1, []), (2, []), (2, []), (3, [[305, 307, 5]]), (1, [])], [(1, []), (2, []), (2, []), (3, [[305, 307, 5]]), (1, [])]] = true := by decide +kernel
set_option maxRecDepth 100000 in
theorem cm_k133 : am_mk am_md am_pg 133 := ⟨am_in_mem (j := 303) (by decide +kernel), am_in_mem (j := 57) (by decide +kernel), ⟨by decide +kernel, by decide +kernel⟩, by decide +kernel⟩
set_option maxRecDepth 100000 in
theorem ck_134 : am_mok am_md am_pg 196 134 [[(1, []), (1, [])], [(1, []), (1, []), (3, [[309, 310, 311]]), (3, []), (1, []), (1, []), (1, []), (3, [[319, 320, 321]]), (3, [[284, 286, 0]]), (3, []), (3, [])], [(1, []), (1, [])]] = true := by decide +kernel
set_option maxRecDepth 100000 in
theorem cm_k134 : am_mk am_md am_pg 134 := ⟨am_in_mem (j := 308) (by decide +kernel), am_in_mem (j := 57) (by decide +kernel), ⟨by decide +kernel, by decide +kernel⟩, by decide +kernel⟩
set_option maxRecDepth 100000 in
theorem ck_135 : am_mok am_md am_pg 196 135 [[(1, []), (3, [[364, 366, 7]]), (3, []), (1, []), (3, [[292, 294, 2]]), (1, []), (1, [])], [(1, []), (3, [[117, 0]]), (1, []), (3, [[119, 0]]), (1, []), (2, []), (1, []), (1, []), (1, []), (1, []), (3, [[119, 0]]), (1, []), (1, []), (3, [[119, 0]]), (1, []), (3, []), (1, []), (3, [[364, 366, 7]]), (3, []), (2, []), (1, []), (1, []), (1, []), (3, [[117, 0]]), (1, []), (3, [[119, 0]]), (1, []), (1, []), (2, []), (1, []), (1, []), (1, []), (1, []), (3, [[119, 0]]), (1, []), (1, []), (3, [[119, 0]])], [(1, []), (1, [])]] = true := by decide +kernel
set_option maxRecDepth 100000 in
theorem cm_k135 : am_mk am_md am_pg 135 := ⟨am_in_mem (j := 363) (by decide +kernel), am_in_mem (j := 57) (by decide +kernel), ⟨by decide +kernel, by decide +kernel⟩, by decide +kernel⟩
set_option maxRecDepth 100000 in
theorem ck_136 : am_mok am_md am_pg 196 136 [[(1, []), (1, []), (3, [[372, 374, 9]]), (1, []), (1, [])], [(1, []), (1, []), (3, [[118, 0]]), (3, []), (1, []), (2, []), (3, [[288, 290, 1]]), (3, []), (1, []), (1, []), (3, [[119, 0]]), (1, []), (1, []), (3, [[119, 0]]), (1, []), (1, []), (3, [[372, 374, 9]]), (1, []), (2, []), (1, []), (3, [[449, 451, 13]]), (3, []), (3, [])], [(1, [])]] = true := by decide +kernel
set_option maxRecDepth 100000 in
theorem cm_k136 : am_mk am_md am_pg 136 := ⟨am_in_mem (j := 371) (by decide +kernel), am_in_mem (j := 57) (by decide +kernel), ⟨by decide +kernel, by decide +kernel⟩, by decide +kernel⟩
set_option maxRecDepth 100000 in
theorem ck_137 : am_mok am_md am_pg 196 137 [[(1, []), (1, []), (3, [[376, 378, 10]]), (1, []), (1, [])], [(1, []), (1, []), (3, [[118, 0]]), (3, []), (1, []), (2, []), (3, [[288, 290, 1]]), (3, []), (1, []), (1, []), (3, [[119, 0]]), (1, []), (1, []), (3, [[119, 0]]), (1, []), (1, []), (3, [[376, 378, 10]]), (1, []), (2, []), (1, []), (3, [[449, 451, 13]]), (3, []), (3, [])], [(1, [])]] = true := by decide +kernel
set_option maxRecDepth 100000 in
theorem cm_k137 : am_mk am_md am_pg 137 := ⟨am_in_mem (j := 375) (by decide +kernel), am_in_mem (j := 57) (by decide +kernel), ⟨by decide +kernel, by decide +kernel⟩, by decide +kernel⟩
set_option maxRecDepth 100000 in
theorem ck_138 : am_mok am_md am_pg 196 138 [[(1, []), (2, []), (3, [[288, 290, 1]]), (1, []), (1, []), (3, []), (1, []), (2, []), (3, [[288, 290, 1]]), (3, []), (1, []), (3, [[380, 382, 11]]), (1, [])], [(1, []), (1, []), (3, []), (1, []), (3, [[292, 294, 2]]), (1, [])], [(1, []), (1, []), (3, [[119, 0]]), (1, []), (1, []), (3, [[119, 0]]), (1, []), (3, []), (1, []), (1, []), (1, []), (1, []), (3, [[376, 378, 10]]), (1, []), (2, []), (1, []), (3, [[449, 451, 13]]), (3, [])], [(1, []), (1, []), (1, []), (1, []), (3, [[368, 370, 8]]), (1, []), (2, []), (3, [[284, 286, 0]])], [(1, [])]] = true := by decide +kernel
set_option maxRecDepth 100000 in
theorem cm_k138 : am_mk am_md am_pg 138 := ⟨am_in_mem (j := 379) (by decide +kernel), am_in_mem (j := 57) (by decide +kernel), ⟨by decide +kernel, by decide +kernel⟩, by decide +kernel⟩
set_option maxRecDepth 100000 in
theorem ck_139 : am_mok am_md am_pg 196 139 [[(1, []), (2, []), (3, [[385, 387, 12]]), (1, []), (1, []), (2, []), (3, [[385, 387, 12]]), (1, []), (1, []), (3, [[360, 362, 6]]), (1, []), (1, []), (1, []), (1, []), (1, []), (1, []), (1, []), (1, []), (3, [[449, 451, 13]]), (1, [])]] = true := by decide +kernel
set_option maxRecDepth 100000 in
theorem cm_k139 : am_mk am_md am_pg 139 := ⟨am_in_mem (j := 383) (by decide +kernel), am_in_mem (j := 57) (by decide +kernel), ⟨by decide +kernel, by decide +kernel⟩, by decide +kernel⟩
set_option maxRecDepth 100000 in
theorem ck_140 : am_mok am_md am_pg 196 140 [[(1, []), (3, [[120, 0]]), (3, []), (1, []), (3, [[119, 0]]), (1, []), (3, [[118, 0]]), (3, []), (1, []), (1, []), (3, [[117, 0]]), (1, []), (3, [[119, 0]]), (1, []), (1, []), (3, [[389, 390, 391]]), (3, [])], [(1, [])], [(1, []), (1, []), (3, []), (1, []), (3, [[292, 294, 2]]), (1, []), (1, [])], [(1, []), (1, []), (3, [[119, 0]]), (1, []), (1, []), (3, [[119, 0]]), (1, []), (1, [])]] = true := by decide +kernel
set_option maxRecDepth 100000 in
theorem cm_k140 : am_mk am_md am_pg 140 := ⟨am_in_mem (j := 388) (by decide +kernel), am_in_mem (j := 57) (by decide +kernel), ⟨by decide +kernel, by decide +kernel⟩, by decide +kernel⟩
set_option maxRecDepth 100000 in
theorem ck_141 : am_mok am_md am_pg 196 141 [[(1, []), (3, [[120, 0]]), (3, []), (1, []), (3, [[109, 0]]), (1, []), (3, [[107, 0]]), (1, []), (3, [])], [(1, [])], [(1, []), (3, [[107, 0]]), (1, []), (3, [[109, 0]]), (1, []), (1, []), (2, []), (1, []), (1, []), (1, []), (1, []), (1, []), (3, [[109, 0]]), (1, []), (1, []), (3, [[109, 0]]), (1, [])]] = true := by decide +kernel
set_option maxRecDepth 100000 in
theorem cm_k141 : am_mk am_md am_pg 141 := ⟨am_in_mem (j := 452) (by decide +kernel), am_in_mem (j := 57) (by decide +kernel), ⟨by decide +kernel, by decide +kernel⟩, by decide +kernel⟩
set_option maxRecDepth 100000 in
theorem ck_142 : am_mok am_md am_pg 196 142 [[(1, []), (3, [[120, 0]]), (3, []), (1, []), (3, [[119, 0]]), (1, []), (3, [[118, 0]]), (3, []), (1, []), (3, [[117, 0]]), (1, []), (3, [[119, 0]]), (1, []), (1, []), (3, []), (1, []), (3, [])], [(1, [])], [(1, [])]] = true := by decide +kernel
set_option maxRecDepth 100000 in
theorem cm_k142 : am_mk am_md am_pg 142 := ⟨am_in_mem (j := 291) (by decide +kernel), am_in_mem (j := 57) (by decide +kernel), ⟨by decide +kernel, by decide +kernel⟩, by decide +kernel⟩
set_option maxRecDepth 100000 in
theorem ck_143 : am_mok am_md am_pg 196 143 [[(1, []), (3, [[120, 0]]), (3, []), (1, []), (3, [[119, 0]]), (1, []), (3, [[118, 0]]), (3, []), (1, []), (3, [[117, 0]]), (1, []), (3, [[119, 0]]), (1, []), (2, []), (3, []), (1, []), (3, [[117, 0]]), (1, []), (3, [[119, 0]]), (1, []), (2, []), (3, []), (1, []), (3, [])], [(1, [])], [(1, [])]] = true := by decide +kernel
set_option maxRecDepth 100000 in
theorem cm_k143 : am_mk am_md am_pg 143 := ⟨am_in_mem (j := 367) (by decide +kernel), am_in_mem (j := 57) (by decide +kernel), ⟨by decide +kernel, by decide +kernel⟩, by decide +kernel⟩
set_option maxRecDepth 100000 in
theorem ck_144 : am_mok am_md am_pg 196 144 [[(1, []), (1, []), (3, [[288, 290, 1]]), (3, []), (1, []), (1, []), (3, [[119, 0]]), (1, []), (1, []), (3, [[119, 0]]), (3, [])], [(1, []), (3, [[292, 294, 2]])], [(1, [])]] = true := by decide +kernel
set_option maxRecDepth 100000 in
theorem cm_k144 : am_mk am_md am_pg 144 := ⟨am_in_mem (j := 287) (by decide +kernel), am_in_mem (j := 57) (by decide +kernel), ⟨by decide +kernel, by decide +kernel⟩, by decide +kernel⟩
set_option maxRecDepth 100000 in
theorem ck_145 : am_mok am_md am_pg 196 145 [[(1, []), (3, [[120, 0]]), (3, []), (1, []), (1, []), (3, [[119, 0]]), (3, [[120, 0]])], [(1, [])]] = true := by decide +kernel
set_option maxRecDepth 100000 in
theorem cm_k145 : am_mk am_md am_pg 145 := ⟨am_in_mem (j := 295) (by decide +kernel), am_in_mem (j := 57) (by decide +kernel), ⟨by decide +kernel, by decide +kernel⟩, by decide +kernel⟩
set_option maxRecDepth 100000 in
theorem ck_146 : am_mok am_md am_pg 196 146 [[(1, []), (3, [[81, 82, 83]]), (1, []), (3, [[84, 85, 56]]), (1, []), (3, [[0, 87]]), (3, [[250, 0]]), (1, []), (3, [[84, 85, 56]]), (1, []), (3, [[0, 87]]), (3, [[251, 0]]), (1, []), (3, [[84, 85, 56]]), (1, []), (3, [[0, 87]]), (3, [[252, 0]]), (1, []), (3, [[200, 102, 57]]), (1, []), (3, [[0, 104]]), (3, [[253, 0]]), (1, []), (3, [[202, 203, 58]]), (1, []), (3, [[0, 205]]), (3, [[254, 0]]), (1, []), (3, [[235, 236, 59]]), (1, []), (3, [[0, 238]]), (3, [[255, 0]]), (1, [])]] = true := by decide +kernel
set_option maxRecDepth 100000 in
theorem cm_k146 : am_mk am_md am_pg 146 := ⟨am_in_mem (j := 80) (by decide +kernel), am_in_mem (j := 55) (by decide +kernel), ⟨by decide +kernel, by decide +kernel⟩, by decide +kernel⟩
set_option maxRecDepth 100000 in
theorem ck_147 : am_mok am_md am_pg 196 147 [[(1, []), (3, []), (1, []), (2, []), (3, [])], [(2, []), (1, [])], [(1, []), (3, [[250, 0]]), (3, [[158, 0]]), (2, []), (3, []), (2, []), (1, [])], [(1, []), (3, [[250, 0]]), (3, [[157, 0]]), (1, []), (3, [[250, 0]]), (3, [[158, 0]]), (1, []), (1, []), (1, []), (1, []), (3, [[250, 0]]), (1, []), (3, [[158, 0]]), (1, []), (1, []), (3, [[158, 0]]), (1, []), (3, [[250, 0]]), (3, [[158, 0]]), (1, [])]] = true := by decide +kernel
set_option maxRecDepth 100000 in
theorem cm_k147 : am_mk am_md am_pg 147 := ⟨am_in_mem (j := 275) (by decide +kernel), am_in_mem (j := 55) (by decide +kernel), ⟨by decide +kernel, by decide +kernel⟩, by decide +kernel⟩
set_option maxRecDepth 100000 in
theorem ck_148 : am_mok am_md am_pg 196 148 [[(1, []), (3, [[250, 0]]), (3, [[164, 0]]), (1, []), (3, []), (2, []), (1, [])], [(1, []), (3, [[253, 0]]), (1, []), (3, [[250, 0]]), (3, [[157, 0]]), (1, []), (3, [[250, 0]]), (3, [[158, 0]]), (3, [[280, 281, 282]]), (1, []), (1, []), (3, [[250, 0]]), (1, []), (3, [[158, 0]]), (1, []), (3, []), (2, []), (1, []), (1, []), (1, [])], [(1, []), (3, [[250, 0]]), (3, [[161, 0]]), (1, []), (3, [[253, 0]]), (3, [[453, 454, 455]]), (1, []), (3, [[250, 0]]), (1, []), (3, [[164, 0]]), (1, []), (1, []), (3, [[164, 0]]), (1, []), (3, [[250, 0]]), (3, [[164, 0]]), (1, []), (1, []), (1, [])]] = true := by decide +kernel
set_option maxRecDepth 100000 in
theorem cm_k148 : am_mk am_md am_pg 148 := ⟨am_in_mem (j := 279) (by decide +kernel), am_in_mem (j := 55) (by decide +kernel), ⟨by decide +kernel, by decide +kernel⟩, by decide +kernel⟩
set_option maxRecDepth 100000 in
theorem ck_149 : am_mok am_md am_pg 196 149 [[(1, []), (3, []), (1, []), (2, []), (3, [])], [(1, []), (1, [])], [(1, []), (3, []), (1, []), (2, []), (3, [])], [(2, []), (1, [])], [(1, []), (3, [[250, 0]]), (3, [[155, 0]]), (1, []), (3, []), (2, []), (1, [])], [(1, []), (3, [[250, 0]]), (3, [[155, 0]]), (1, []), (1, []), (3, [[250, 0]]), (3, [[150, 0]]), (1, []), (1, []), (1, []), (1, []), (3, [[464, 465]]), (1, []), (1, []), (3, [[250, 0]]), (3, [[152, 0]]), (1, []), (1, []), (1, []), (1, []), (3, [[250, 0]]), (1, []), (3, [[155, 0]]), (1, []), (1, []), (3, [[155, 0]]), (1, []), (1, [])]] = true := by decide +kernel
set_option maxRecDepth 100000 in
theorem cm_k149 : am_mk am_md am_pg 149 := ⟨am_in_mem (j := 463) (by decide +kernel), am_in_mem (j := 55) (by decide +kernel), ⟨by decide +kernel, by decide +kernel⟩, by decide +kernel⟩
