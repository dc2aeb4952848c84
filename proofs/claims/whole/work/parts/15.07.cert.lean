/-! The check of methods 175 .. -/
set_option maxRecDepth 100000 in
theorem ck_175 : am_mok am_md am_pg 196 175 [[(1, []), (3, []), (1, []), (2, []), (3, []), (1, []), (3, [])], [(1, [])], [(1, [])]] = true := by decide +kernel
set_option maxRecDepth 100000 in
theorem cm_k175 : am_mk am_md am_pg 175 := ⟨am_in_mem (j := 603) (by decide +kernel), am_in_mem (j := 55) (by decide +kernel), ⟨by decide +kernel, by decide +kernel⟩, by decide +kernel⟩
set_option maxRecDepth 100000 in
theorem ck_176 : am_mok am_md am_pg 196 176 [[(1, []), (3, []), (1, []), (1, []), (3, [])], [(1, []), (3, [])], [(1, [])], [(1, [])]] = true := by decide +kernel
set_option maxRecDepth 100000 in
theorem cm_k176 : am_mk am_md am_pg 176 := ⟨am_in_mem (j := 697) (by decide +kernel), am_in_mem (j := 55) (by decide +kernel), ⟨by decide +kernel, by decide +kernel⟩, by decide +kernel⟩
set_option maxRecDepth 100000 in
theorem ck_177 : am_mok am_md am_pg 196 177 [[(1, []), (1, []), (3, [[704, 705]]), (2, []), (2, []), (3, []), (1, []), (3, [])], [(1, [])], [(2, []), (2, []), (1, []), (1, []), (3, []), (2, []), (3, [])], [(2, []), (2, []), (1, [])], [(1, [])]] = true := by decide +kernel
set_option maxRecDepth 100000 in
theorem cm_k177 : am_mk am_md am_pg 177 := ⟨am_in_mem (j := 703) (by decide +kernel), am_in_mem (j := 55) (by decide +kernel), ⟨by decide +kernel, by decide +kernel⟩, by decide +kernel⟩
set_option maxRecDepth 100000 in
theorem ck_178 : am_mok am_md am_pg 196 178 [[(1, []), (2, []), (1, []), (2, []), (1, []), (2, [])], [(2, []), (3, []), (3, []), (2, []), (1, []), (1, []), (3, []), (2, []), (2, []), (1, []), (2, []), (2, []), (2, []), (2, []), (2, []), (3, []), (3, [])], [(2, []), (1, [])]] = true := by decide +kernel
set_option maxRecDepth 100000 in
theorem cm_k178 : am_mk am_md am_pg 178 := ⟨am_in_mem (j := 706) (by decide +kernel), am_in_mem (j := 55) (by decide +kernel), ⟨by decide +kernel, by decide +kernel⟩, by decide +kernel⟩
set_option maxRecDepth 100000 in
theorem ck_179 : am_mok am_md am_pg 196 179 [[(1, []), (39, [])], [(3, [[469, 470, 69]]), (1, []), (1, []), (1, []), (3, [[471, 472]]), (1, [])], [(3, [[501, 502, 70]]), (1, []), (1, []), (1, []), (3, [[503, 504]]), (1, [])], [(3, [[510, 511, 71]]), (1, []), (1, []), (1, []), (3, [[512, 513]]), (1, [])], [(3, [[519, 520, 72]]), (1, []), (1, []), (1, []), (3, [[521, 522]]), (1, [])], [(3, [[528, 529, 73]]), (1, []), (1, []), (1, []), (3, [[530, 531]]), (1, [])], [(3, [[537, 538, 74]]), (1, []), (1, []), (1, []), (3, [[539, 540]]), (1, [])], [(3, [[546, 547, 68]]), (1, []), (1, []), (1, []), (3, [[548, 475]]), (1, [])]] = true := by decide +kernel
set_option maxRecDepth 100000 in
theorem cm_k179 : am_mk am_md am_pg 179 := ⟨am_in_mem (j := 468) (by decide +kernel), am_in_mem (j := 55) (by decide +kernel), ⟨by decide +kernel, by decide +kernel⟩, by decide +kernel⟩
set_option maxRecDepth 100000 in
theorem ck_180 : am_mok am_md am_pg 196 180 [[(1, []), (43, [])], [(1, []), (1, [])], [(1, []), (3, [[469]]), (1, [])], [(1, []), (3, [[501]]), (1, [])], [(1, []), (3, [[510]]), (1, [])], [(1, []), (3, [[519]]), (1, [])], [(1, []), (3, [[528]]), (1, [])], [(1, []), (3, [[537]]), (1, [])], [(1, []), (1, [])]] = true := by decide +kernel
set_option maxRecDepth 100000 in
theorem cm_k180 : am_mk am_md am_pg 180 := ⟨am_in_mem (j := 907) (by decide +kernel), am_in_mem (j := 55) (by decide +kernel), ⟨by decide +kernel, by decide +kernel⟩, by decide +kernel⟩
set_option maxRecDepth 100000 in
theorem ck_181 : am_mok am_md am_pg 196 181 [[(1, []), (3, [[1275]]), (1, []), (1, []), (3, [[317, 318, 319]]), (1, []), (1, [])]] = true := by decide +kernel
set_option maxRecDepth 100000 in
theorem cm_k181 : am_mk am_md am_pg 181 := ⟨am_in_mem (j := 316) (by decide +kernel), am_in_mem (j := 62) (by decide +kernel), ⟨by decide +kernel, by decide +kernel⟩, by decide +kernel⟩
set_option maxRecDepth 100000 in
theorem ck_182 : am_mok am_md am_pg 196 182 [[(1, []), (3, [[327, 328, 329]]), (3, []), (1, []), (3, [[1275]]), (1, []), (3, [[331, 332]]), (1, [])], [(1, []), (3, [[1275]]), (1, []), (3, []), (1, [])]] = true := by decide +kernel
set_option maxRecDepth 100000 in
theorem cm_k182 : am_mk am_md am_pg 182 := ⟨am_in_mem (j := 326) (by decide +kernel), am_in_mem (j := 62) (by decide +kernel), ⟨by decide +kernel, by decide +kernel⟩, by decide +kernel⟩
set_option maxRecDepth 100000 in
theorem ck_183 : am_mok am_md am_pg 196 183 [[(1, []), (1, []), (1, []), (3, [[397, 398, 399]]), (1, [])]] = true := by decide +kernel
set_option maxRecDepth 100000 in
theorem cm_k183 : am_mk am_md am_pg 183 := ⟨am_in_mem (j := 396) (by decide +kernel), am_in_mem (j := 62) (by decide +kernel), ⟨by decide +kernel, by decide +kernel⟩, by decide +kernel⟩
set_option maxRecDepth 100000 in
theorem ck_184 : am_mok am_md am_pg 196 184 [[(1, []), (3, [[327, 328, 329]]), (3, []), (1, []), (3, [[1275]]), (1, []), (1, []), (1, []), (3, [[401, 314, 315]]), (3, [[402, 403]]), (3, [])], [(1, []), (3, [[1275]]), (1, []), (1, []), (1, []), (3, [[401, 314, 315]]), (3, [])], [(1, [])]] = true := by decide +kernel
set_option maxRecDepth 100000 in
theorem cm_k184 : am_mk am_md am_pg 184 := ⟨am_in_mem (j := 400) (by decide +kernel), am_in_mem (j := 62) (by decide +kernel), ⟨by decide +kernel, by decide +kernel⟩, by decide +kernel⟩
set_option maxRecDepth 100000 in
theorem ck_185 : am_mok am_md am_pg 196 185 [[(3, [[321]]), (3, []), (1, []), (3, [[1276]]), (3, [])], [(1, [])], [(1, [])]] = true := by decide +kernel
set_option maxRecDepth 100000 in
theorem cm_k185 : am_mk am_md am_pg 185 := ⟨am_in_mem (j := 320) (by decide +kernel), am_in_mem (j := 62) (by decide +kernel), ⟨by decide +kernel, by decide +kernel⟩, by decide +kernel⟩
set_option maxRecDepth 100000 in
theorem ck_186 : am_mok am_md am_pg 196 186 [[(3, [[321]]), (3, []), (1, []), (3, [[1276]]), (3, []), (1, []), (3, [])], [(1, [])], [(1, [])]] = true := by decide +kernel
set_option maxRecDepth 100000 in
theorem cm_k186 : am_mk am_md am_pg 186 := ⟨am_in_mem (j := 330) (by decide +kernel), am_in_mem (j := 62) (by decide +kernel), ⟨by decide +kernel, by decide +kernel⟩, by decide +kernel⟩
set_option maxRecDepth 100000 in
theorem ck_187 : am_mok am_md am_pg 196 187 [[(1, []), (1, []), (3, [[337]]), (3, [[339, 340]]), (1, []), (1, [])]] = true := by decide +kernel
set_option maxRecDepth 100000 in
theorem cm_k187 : am_mk am_md am_pg 187 := ⟨am_in_mem (j := 336) (by decide +kernel), am_in_mem (j := 62) (by decide +kernel), ⟨by decide +kernel, by decide +kernel⟩, by decide +kernel⟩
set_option maxRecDepth 100000 in
theorem ck_188 : am_mok am_md am_pg 196 188 [[(1, []), (1, []), (1, []), (3, [[334, 335]]), (1, []), (1, []), (1, []), (3, []), (1, []), (1, []), (1, [])]] = true := by decide +kernel
set_option maxRecDepth 100000 in
theorem cm_k188 : am_mk am_md am_pg 188 := ⟨am_in_mem (j := 333) (by decide +kernel), am_in_mem (j := 63) (by decide +kernel), ⟨by decide +kernel, by decide +kernel⟩, by decide +kernel⟩
set_option maxRecDepth 100000 in
theorem ck_189 : am_mok am_md am_pg 196 189 [[(1, []), (3, []), (1, []), (3, []), (3, []), (1, []), (3, [])], [(1, [])], [(1, [])]] = true := by decide +kernel
set_option maxRecDepth 100000 in
theorem cm_k189 : am_mk am_md am_pg 189 := ⟨am_in_mem (j := 407) (by decide +kernel), am_in_mem (j := 63) (by decide +kernel), ⟨by decide +kernel, by decide +kernel⟩, by decide +kernel⟩
set_option maxRecDepth 100000 in
theorem ck_190 : am_mok am_md am_pg 196 190 [[(1, []), (3, [[405, 406]]), (3, []), (1, []), (1, [])], [(1, []), (1, []), (3, [[408, 409]]), (1, []), (1, []), (1, []), (1, []), (3, [[411, 286]]), (1, []), (1, []), (1, []), (3, []), (1, []), (1, [])], [(1, []), (1, []), (1, []), (1, []), (3, [[412, 413]]), (1, [])]] = true := by decide +kernel
set_option maxRecDepth 100000 in
theorem cm_k190 : am_mk am_md am_pg 190 := ⟨am_in_mem (j := 404) (by decide +kernel), am_in_mem (j := 63) (by decide +kernel), ⟨by decide +kernel, by decide +kernel⟩, by decide +kernel⟩
set_option maxRecDepth 100000 in
theorem ck_191 : am_mok am_md am_pg 196 191 [[(1, []), (1, []), (2, []), (1, []), (2, [])], [(2, []), (1, []), (3, []), (1, []), (2, []), (1, []), (2, []), (3, []), (2, []), (1, [])], [(3, []), (3, [])], [(1, []), (1, [])]] = true := by decide +kernel
set_option maxRecDepth 100000 in
theorem cm_k191 : am_mk am_md am_pg 191 := ⟨am_in_mem (j := 414) (by decide +kernel), am_in_mem (j := 63) (by decide +kernel), ⟨by decide +kernel, by decide +kernel⟩, by decide +kernel⟩
set_option maxRecDepth 100000 in
theorem ck_192 : am_mok am_md am_pg 196 192 [[(1, []), (1, []), (3, []), (1, []), (3, [])], [(1, [])], [(1, [])]] = true := by decide +kernel
set_option maxRecDepth 100000 in
theorem cm_k192 : am_mk am_md am_pg 192 := ⟨am_in_mem (j := 410) (by decide +kernel), am_in_mem (j := 61) (by decide +kernel), ⟨by decide +kernel, by decide +kernel⟩, by decide +kernel⟩
set_option maxRecDepth 100000 in
theorem ck_193 : am_mok am_md am_pg 196 193 [[(1, []), (1, []), (3, []), (1, []), (3, [])], [(1, [])], [(1, [])]] = true := by decide +kernel
set_option maxRecDepth 100000 in
theorem cm_k193 : am_mk am_md am_pg 193 := ⟨am_in_mem (j := 287) (by decide +kernel), am_in_mem (j := 61) (by decide +kernel), ⟨by decide +kernel, by decide +kernel⟩, by decide +kernel⟩
set_option maxRecDepth 100000 in
theorem ck_194 : am_mok am_md am_pg 196 194 [[(1, []), (3, []), (1, []), (1, []), (3, [])], [(1, []), (1, []), (1, []), (3, []), (1, [])], [(1, []), (1, [])]] = true := by decide +kernel
set_option maxRecDepth 100000 in
theorem cm_k194 : am_mk am_md am_pg 194 := ⟨am_in_mem (j := 341) (by decide +kernel), am_in_mem (j := 64) (by decide +kernel), ⟨by decide +kernel, by decide +kernel⟩, by decide +kernel⟩
set_option maxRecDepth 100000 in
theorem ck_195 : am_mok am_md am_pg 196 195 [[(1, []), (1, []), (1, []), (1, []), (2, [])], [(1, []), (2, []), (3, []), (1, []), (1, []), (1, []), (1, []), (3, []), (3, [])], [(1, [])]] = true := by decide +kernel
set_option maxRecDepth 100000 in
theorem cm_k195 : am_mk am_md am_pg 195 := ⟨am_in_mem (j := 738) (by decide +kernel), am_in_mem (j := 75) (by decide +kernel), ⟨by decide +kernel, by decide +kernel⟩, by decide +kernel⟩
