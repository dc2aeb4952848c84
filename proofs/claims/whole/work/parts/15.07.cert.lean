/-! The check of methods 175 .. -/
set_option maxRecDepth 100000 in
theorem ck_175 : am_mok am_md am_pg 196 175 [[(1, []), (3, []), (1, []), (2, []), (3, []), (1, []), (3, [])], [(1, [])], [(1, [])]] = true := by decide +kernel
set_option maxRecDepth 100000 in
theorem cm_k175 : am_mk am_md am_pg 175 := ⟨am_in_mem (j := 601) (by decide +kernel), am_in_mem (j := 55) (by decide +kernel), ⟨by decide +kernel, by decide +kernel⟩, by decide +kernel⟩
set_option maxRecDepth 100000 in
theorem ck_176 : am_mok am_md am_pg 196 176 [[(1, []), (3, []), (1, []), (1, []), (3, [])], [(1, []), (3, [])], [(1, [])], [(1, [])]] = true := by decide +kernel
set_option maxRecDepth 100000 in
theorem cm_k176 : am_mk am_md am_pg 176 := ⟨am_in_mem (j := 695) (by decide +kernel), am_in_mem (j := 55) (by decide +kernel), ⟨by decide +kernel, by decide +kernel⟩, by decide +kernel⟩
set_option maxRecDepth 100000 in
theorem ck_177 : am_mok am_md am_pg 196 177 [[(1, []), (1, []), (3, [[702, 703]]), (2, []), (2, []), (3, []), (1, []), (3, [])], [(1, [])], [(2, []), (2, []), (1, []), (1, []), (3, []), (2, []), (3, [])], [(2, []), (2, []), (1, [])], [(1, [])]] = true := by decide +kernel
set_option maxRecDepth 100000 in
theorem cm_k177 : am_mk am_md am_pg 177 := ⟨am_in_mem (j := 701) (by decide +kernel), am_in_mem (j := 55) (by decide +kernel), ⟨by decide +kernel, by decide +kernel⟩, by decide +kernel⟩
set_option maxRecDepth 100000 in
theorem ck_178 : am_mok am_md am_pg 196 178 [[(1, []), (2, []), (1, []), (2, []), (1, []), (2, [])], [(2, []), (3, []), (3, []), (2, []), (1, []), (1, []), (3, []), (2, []), (2, []), (1, []), (2, []), (2, []), (2, []), (2, []), (2, []), (3, []), (3, [])], [(2, []), (1, [])]] = true := by decide +kernel
set_option maxRecDepth 100000 in
theorem cm_k178 : am_mk am_md am_pg 178 := ⟨am_in_mem (j := 704) (by decide +kernel), am_in_mem (j := 55) (by decide +kernel), ⟨by decide +kernel, by decide +kernel⟩, by decide +kernel⟩
set_option maxRecDepth 100000 in
theorem ck_179 : am_mok am_md am_pg 196 179 [[(1, []), (39, [])], [(3, [[467, 468, 69]]), (1, []), (1, []), (1, []), (3, [[469, 470]]), (1, [])], [(3, [[499, 500, 70]]), (1, []), (1, []), (1, []), (3, [[501, 502]]), (1, [])], [(3, [[508, 509, 71]]), (1, []), (1, []), (1, []), (3, [[510, 511]]), (1, [])], [(3, [[517, 518, 72]]), (1, []), (1, []), (1, []), (3, [[519, 520]]), (1, [])], [(3, [[526, 527, 73]]), (1, []), (1, []), (1, []), (3, [[528, 529]]), (1, [])], [(3, [[535, 536, 74]]), (1, []), (1, []), (1, []), (3, [[537, 538]]), (1, [])], [(3, [[544, 545, 68]]), (1, []), (1, []), (1, []), (3, [[546, 473]]), (1, [])]] = true := by decide +kernel
set_option maxRecDepth 100000 in
theorem cm_k179 : am_mk am_md am_pg 179 := ⟨am_in_mem (j := 466) (by decide +kernel), am_in_mem (j := 55) (by decide +kernel), ⟨by decide +kernel, by decide +kernel⟩, by decide +kernel⟩
set_option maxRecDepth 100000 in
theorem ck_180 : am_mok am_md am_pg 196 180 [[(1, []), (43, [])], [(1, []), (1, [])], [(1, []), (3, [[467]]), (1, [])], [(1, []), (3, [[499]]), (1, [])], [(1, []), (3, [[508]]), (1, [])], [(1, []), (3, [[517]]), (1, [])], [(1, []), (3, [[526]]), (1, [])], [(1, []), (3, [[535]]), (1, [])], [(1, []), (1, [])]] = true := by decide +kernel
set_option maxRecDepth 100000 in
theorem cm_k180 : am_mk am_md am_pg 180 := ⟨am_in_mem (j := 903) (by decide +kernel), am_in_mem (j := 55) (by decide +kernel), ⟨by decide +kernel, by decide +kernel⟩, by decide +kernel⟩
set_option maxRecDepth 100000 in
theorem ck_181 : am_mok am_md am_pg 196 181 [[(1, []), (3, [[1271]]), (1, []), (1, []), (3, [[313, 314, 315]]), (1, []), (1, [])]] = true := by decide +kernel
set_option maxRecDepth 100000 in
theorem cm_k181 : am_mk am_md am_pg 181 := ⟨am_in_mem (j := 312) (by decide +kernel), am_in_mem (j := 61) (by decide +kernel), ⟨by decide +kernel, by decide +kernel⟩, by decide +kernel⟩
set_option maxRecDepth 100000 in
theorem ck_182 : am_mok am_md am_pg 196 182 [[(1, []), (3, [[323, 324, 325]]), (3, []), (1, []), (3, [[1271]]), (1, []), (3, [[327, 328]]), (1, [])], [(1, []), (3, [[1271]]), (1, []), (3, []), (1, [])]] = true := by decide +kernel
set_option maxRecDepth 100000 in
theorem cm_k182 : am_mk am_md am_pg 182 := ⟨am_in_mem (j := 322) (by decide +kernel), am_in_mem (j := 61) (by decide +kernel), ⟨by decide +kernel, by decide +kernel⟩, by decide +kernel⟩
set_option maxRecDepth 100000 in
theorem ck_183 : am_mok am_md am_pg 196 183 [[(1, []), (1, []), (1, []), (3, [[393, 394, 395]]), (1, [])]] = true := by decide +kernel
set_option maxRecDepth 100000 in
theorem cm_k183 : am_mk am_md am_pg 183 := ⟨am_in_mem (j := 392) (by decide +kernel), am_in_mem (j := 61) (by decide +kernel), ⟨by decide +kernel, by decide +kernel⟩, by decide +kernel⟩
set_option maxRecDepth 100000 in
theorem ck_184 : am_mok am_md am_pg 196 184 [[(1, []), (3, [[323, 324, 325]]), (3, []), (1, []), (3, [[1271]]), (1, []), (1, []), (1, []), (3, [[397, 310, 311]]), (3, [[398, 399]]), (3, [])], [(1, []), (3, [[1271]]), (1, []), (1, []), (1, []), (3, [[397, 310, 311]]), (3, [])], [(1, [])]] = true := by decide +kernel
set_option maxRecDepth 100000 in
theorem cm_k184 : am_mk am_md am_pg 184 := ⟨am_in_mem (j := 396) (by decide +kernel), am_in_mem (j := 61) (by decide +kernel), ⟨by decide +kernel, by decide +kernel⟩, by decide +kernel⟩
set_option maxRecDepth 100000 in
theorem ck_185 : am_mok am_md am_pg 196 185 [[(3, [[317]]), (3, []), (1, []), (3, [[1272]]), (3, [])], [(1, [])], [(1, [])]] = true := by decide +kernel
set_option maxRecDepth 100000 in
theorem cm_k185 : am_mk am_md am_pg 185 := ⟨am_in_mem (j := 316) (by decide +kernel), am_in_mem (j := 61) (by decide +kernel), ⟨by decide +kernel, by decide +kernel⟩, by decide +kernel⟩
set_option maxRecDepth 100000 in
theorem ck_186 : am_mok am_md am_pg 196 186 [[(3, [[317]]), (3, []), (1, []), (3, [[1272]]), (3, []), (1, []), (3, [])], [(1, [])], [(1, [])]] = true := by decide +kernel
set_option maxRecDepth 100000 in
theorem cm_k186 : am_mk am_md am_pg 186 := ⟨am_in_mem (j := 326) (by decide +kernel), am_in_mem (j := 61) (by decide +kernel), ⟨by decide +kernel, by decide +kernel⟩, by decide +kernel⟩
set_option maxRecDepth 100000 in
theorem ck_187 : am_mok am_md am_pg 196 187 [[(1, []), (1, []), (3, [[333]]), (3, [[335, 336]]), (1, []), (1, [])]] = true := by decide +kernel
set_option maxRecDepth 100000 in
theorem cm_k187 : am_mk am_md am_pg 187 := ⟨am_in_mem (j := 332) (by decide +kernel), am_in_mem (j := 61) (by decide +kernel), ⟨by decide +kernel, by decide +kernel⟩, by decide +kernel⟩
set_option maxRecDepth 100000 in
theorem ck_188 : am_mok am_md am_pg 196 188 [[(1, []), (1, []), (1, []), (3, [[330, 331]]), (1, []), (1, []), (1, []), (3, []), (1, []), (1, []), (1, [])]] = true := by decide +kernel
set_option maxRecDepth 100000 in
theorem cm_k188 : am_mk am_md am_pg 188 := ⟨am_in_mem (j := 329) (by decide +kernel), am_in_mem (j := 62) (by decide +kernel), ⟨by decide +kernel, by decide +kernel⟩, by decide +kernel⟩
set_option maxRecDepth 100000 in
theorem ck_189 : am_mok am_md am_pg 196 189 [[(1, []), (3, []), (1, []), (3, []), (3, []), (1, []), (3, [])], [(1, [])], [(1, [])]] = true := by decide +kernel
set_option maxRecDepth 100000 in
theorem cm_k189 : am_mk am_md am_pg 189 := ⟨am_in_mem (j := 403) (by decide +kernel), am_in_mem (j := 62) (by decide +kernel), ⟨by decide +kernel, by decide +kernel⟩, by decide +kernel⟩
set_option maxRecDepth 100000 in
theorem ck_190 : am_mok am_md am_pg 196 190 [[(1, []), (3, [[401, 402]]), (3, []), (1, []), (1, [])], [(1, []), (1, []), (3, [[404, 405]]), (1, []), (1, []), (1, []), (1, []), (3, [[407, 408]]), (1, []), (1, []), (1, []), (3, []), (1, []), (1, [])], [(1, []), (1, []), (1, []), (1, []), (3, [[410, 411]]), (1, [])]] = true := by decide +kernel
set_option maxRecDepth 100000 in
theorem cm_k190 : am_mk am_md am_pg 190 := ⟨am_in_mem (j := 400) (by decide +kernel), am_in_mem (j := 62) (by decide +kernel), ⟨by decide +kernel, by decide +kernel⟩, by decide +kernel⟩
set_option maxRecDepth 100000 in
theorem ck_191 : am_mok am_md am_pg 196 191 [[(1, []), (1, []), (2, []), (1, []), (2, [])], [(2, []), (1, []), (3, []), (1, []), (2, []), (1, []), (2, []), (3, []), (2, []), (1, [])], [(3, []), (3, [])], [(1, []), (1, [])]] = true := by decide +kernel
set_option maxRecDepth 100000 in
theorem cm_k191 : am_mk am_md am_pg 191 := ⟨am_in_mem (j := 412) (by decide +kernel), am_in_mem (j := 62) (by decide +kernel), ⟨by decide +kernel, by decide +kernel⟩, by decide +kernel⟩
set_option maxRecDepth 100000 in
theorem ck_192 : am_mok am_md am_pg 196 192 [[(1, []), (1, []), (3, []), (1, []), (3, [])], [(1, [])], [(1, [])]] = true := by decide +kernel
set_option maxRecDepth 100000 in
theorem cm_k192 : am_mk am_md am_pg 192 := ⟨am_in_mem (j := 406) (by decide +kernel), am_in_mem (j := 65) (by decide +kernel), ⟨by decide +kernel, by decide +kernel⟩, by decide +kernel⟩
set_option maxRecDepth 100000 in
theorem ck_193 : am_mok am_md am_pg 196 193 [[(1, []), (1, []), (3, []), (1, []), (3, [])], [(1, [])], [(1, [])]] = true := by decide +kernel
set_option maxRecDepth 100000 in
theorem cm_k193 : am_mk am_md am_pg 193 := ⟨am_in_mem (j := 409) (by decide +kernel), am_in_mem (j := 65) (by decide +kernel), ⟨by decide +kernel, by decide +kernel⟩, by decide +kernel⟩
set_option maxRecDepth 100000 in
theorem ck_194 : am_mok am_md am_pg 196 194 [[(1, []), (3, []), (1, []), (1, []), (3, [])], [(1, []), (1, []), (1, []), (3, []), (1, [])], [(1, []), (1, [])]] = true := by decide +kernel
set_option maxRecDepth 100000 in
theorem cm_k194 : am_mk am_md am_pg 194 := ⟨am_in_mem (j := 337) (by decide +kernel), am_in_mem (j := 63) (by decide +kernel), ⟨by decide +kernel, by decide +kernel⟩, by decide +kernel⟩
set_option maxRecDepth 100000 in
theorem ck_195 : am_mok am_md am_pg 196 195 [[(1, []), (1, []), (1, []), (1, []), (2, [])], [(1, []), (2, []), (3, []), (1, []), (1, []), (1, []), (1, []), (3, []), (3, [])], [(1, [])]] = true := by decide +kernel
set_option maxRecDepth 100000 in
theorem cm_k195 : am_mk am_md am_pg 195 := ⟨am_in_mem (j := 735) (by decide +kernel), am_in_mem (j := 75) (by decide +kernel), ⟨by decide +kernel, by decide +kernel⟩, by decide +kernel⟩
