/-! The check of methods 150 .. -/
set_option maxRecDepth 100000 in
theorem ck_150 : am_mok am_md am_pg 196 150 [[(1, []), (3, [[250, 0]]), (1, []), (3, [[554, 555, 556]]), (1, []), (1, []), (3, []), (1, []), (1, [])], [(1, []), (28, [])], [(1, []), (3, [[558, 559, 560], [558, 561, 559, 565, 566, 580], [558, 561, 559, 568, 569, 580], [558, 561, 559, 574, 575, 580], [558, 561, 559, 577, 578, 580], [558, 561, 559, 562, 563, 580], [558, 561, 559, 571, 572, 580]]), (1, [])], [(1, []), (3, [[492, 0]]), (1, [])], [(1, []), (3, [[250, 0]]), (3, [[152, 0]]), (1, []), (3, [[480, 0]]), (1, []), (1, [])], [(1, []), (1, [])]] = true := by decide +kernel
set_option maxRecDepth 100000 in
theorem cm_k150 : am_mk am_md am_pg 150 := ⟨am_in_mem (j := 553) (by decide +kernel), am_in_mem (j := 55) (by decide +kernel), ⟨by decide +kernel, by decide +kernel⟩, by decide +kernel⟩
set_option maxRecDepth 100000 in
theorem ck_151 : am_mok am_md am_pg 196 151 [[(1, []), (3, []), (1, []), (2, []), (3, [])], [(1, []), (1, [])], [(1, []), (3, []), (1, []), (1, []), (3, [])], [(2, []), (1, [])], [(1, []), (3, [[250, 0]]), (3, [[146, 0]]), (1, []), (1, []), (1, []), (1, []), (3, [[250, 0]]), (3, [[146, 0]]), (1, []), (1, []), (1, []), (1, []), (1, [])]] = true := by decide +kernel
set_option maxRecDepth 100000 in
theorem cm_k151 : am_mk am_md am_pg 151 := ⟨am_in_mem (j := 584) (by decide +kernel), am_in_mem (j := 55) (by decide +kernel), ⟨by decide +kernel, by decide +kernel⟩, by decide +kernel⟩
set_option maxRecDepth 100000 in
theorem ck_152 : am_mok am_md am_pg 196 152 [[(1, []), (3, []), (1, []), (3, [[589]]), (1, []), (3, [])], [(1, []), (1, [])], [(1, []), (3, []), (1, []), (3, [[589]]), (1, []), (1, []), (3, [])], [(2, []), (1, [])], [(1, []), (3, [[250, 0]]), (3, [[144, 0]]), (1, []), (1, []), (1, []), (1, []), (3, [[250, 0]]), (3, [[144, 0]]), (1, []), (1, []), (1, []), (1, []), (1, [])]] = true := by decide +kernel
set_option maxRecDepth 100000 in
theorem cm_k152 : am_mk am_md am_pg 152 := ⟨am_in_mem (j := 588) (by decide +kernel), am_in_mem (j := 55) (by decide +kernel), ⟨by decide +kernel, by decide +kernel⟩, by decide +kernel⟩
set_option maxRecDepth 100000 in
theorem ck_153 : am_mok am_md am_pg 196 153 [[(1, []), (3, []), (1, []), (1, []), (3, [[250, 0]]), (3, [[144, 0]]), (1, []), (3, []), (1, []), (3, [[250, 0]]), (3, [[144, 0]]), (1, []), (1, []), (1, [])], [(1, []), (2, []), (3, []), (1, []), (3, [[250, 0]]), (3, [[161, 0]]), (3, [[113, 0]]), (1, [])], [(1, []), (2, []), (3, []), (1, []), (3, [[250, 0]]), (3, [[161, 0]]), (3, [[115, 0]]), (1, [])], [(1, []), (2, []), (3, []), (1, []), (2, []), (3, []), (1, []), (3, [[250, 0]]), (3, [[146, 0]]), (1, []), (2, []), (1, []), (1, []), (1, [])], [(1, []), (1, [])]] = true := by decide +kernel
set_option maxRecDepth 100000 in
theorem cm_k153 : am_mk am_md am_pg 153 := ⟨am_in_mem (j := 594) (by decide +kernel), am_in_mem (j := 55) (by decide +kernel), ⟨by decide +kernel, by decide +kernel⟩, by decide +kernel⟩
set_option maxRecDepth 100000 in
theorem ck_154 : am_mok am_md am_pg 196 154 [[(1, []), (3, [[250, 0]]), (1, []), (3, [[554, 555, 556]]), (1, []), (1, []), (3, []), (3, []), (1, [])], [(1, []), (3, [[599, 600]]), (3, []), (3, []), (1, [])], [(1, []), (3, [[250, 0]]), (1, []), (1, []), (1, []), (3, [[250, 0]]), (3, [[144, 0]]), (1, []), (1, []), (1, []), (3, [[250, 0]]), (3, [[144, 0]]), (1, []), (1, []), (3, [[602, 603, 604]]), (1, [])]] = true := by decide +kernel
set_option maxRecDepth 100000 in
theorem cm_k154 : am_mk am_md am_pg 154 := ⟨am_in_mem (j := 598) (by decide +kernel), am_in_mem (j := 55) (by decide +kernel), ⟨by decide +kernel, by decide +kernel⟩, by decide +kernel⟩
set_option maxRecDepth 100000 in
theorem ck_155 : am_mok am_md am_pg 196 155 [[(1, []), (3, [[250, 0]]), (1, []), (3, [[554, 555, 556]]), (1, []), (1, []), (3, []), (1, []), (1, [])], [(1, []), (3, [[599, 600]]), (3, []), (2, []), (1, [])], [(1, []), (3, [[250, 0]]), (1, []), (1, []), (3, [[641, 642, 643]]), (3, []), (1, []), (3, [[250, 0]]), (1, []), (1, []), (3, [[646, 647, 648]]), (3, [])], [(2, [])], [(1, [])]] = true := by decide +kernel
set_option maxRecDepth 100000 in
theorem cm_k155 : am_mk am_md am_pg 155 := ⟨am_in_mem (j := 640) (by decide +kernel), am_in_mem (j := 55) (by decide +kernel), ⟨by decide +kernel, by decide +kernel⟩, by decide +kernel⟩
set_option maxRecDepth 100000 in
theorem ck_156 : am_mok am_md am_pg 196 156 [[(1, []), (3, [[250, 0]]), (1, []), (3, [[554, 555, 556]]), (1, []), (1, []), (3, []), (1, []), (1, [])], [(1, []), (3, [[599, 600]]), (3, []), (2, []), (1, [])], [(1, []), (3, [[250, 0]]), (3, [[144, 0]]), (1, []), (1, []), (3, []), (2, []), (1, [])], [(1, []), (3, [[250, 0]]), (1, []), (1, []), (3, [[667, 668, 669]]), (1, [])]] = true := by decide +kernel
set_option maxRecDepth 100000 in
theorem cm_k156 : am_mk am_md am_pg 156 := ⟨am_in_mem (j := 666) (by decide +kernel), am_in_mem (j := 55) (by decide +kernel), ⟨by decide +kernel, by decide +kernel⟩, by decide +kernel⟩
set_option maxRecDepth 100000 in
theorem ck_157 : am_mok am_md am_pg 196 157 [[(1, []), (3, [[250, 0]]), (3, [[144, 0]]), (2, []), (1, []), (3, []), (3, []), (2, []), (1, [])], [(1, []), (3, [[250, 0]]), (3, [[685, 686, 687]]), (1, []), (3, [[250, 0]]), (3, [[144, 0]]), (2, []), (1, []), (1, [])]] = true := by decide +kernel
set_option maxRecDepth 100000 in
theorem cm_k157 : am_mk am_md am_pg 157 := ⟨am_in_mem (j := 684) (by decide +kernel), am_in_mem (j := 55) (by decide +kernel), ⟨by decide +kernel, by decide +kernel⟩, by decide +kernel⟩
set_option maxRecDepth 100000 in
theorem ck_158 : am_mok am_md am_pg 196 158 [[(1, []), (3, [[250, 0]]), (1, []), (3, [[554, 555, 556]]), (2, []), (2, []), (3, []), (1, []), (3, []), (1, []), (1, []), (3, []), (1, []), (3, [[693, 694]]), (3, [])], [(3, [[696]]), (1, [])], [(1, []), (2, []), (1, []), (2, [])], [(2, []), (2, []), (3, []), (1, []), (3, [[250, 0]]), (2, []), (2, []), (3, [[697, 672, 673]]), (1, []), (3, []), (3, [])], [(3, []), (3, [])], [(2, []), (1, []), (3, [[698]]), (1, []), (3, [[699, 700]]), (1, [])]] = true := by decide +kernel
set_option maxRecDepth 100000 in
theorem cm_k158 : am_mk am_md am_pg 158 := ⟨am_in_mem (j := 692) (by decide +kernel), am_in_mem (j := 55) (by decide +kernel), ⟨by decide +kernel, by decide +kernel⟩, by decide +kernel⟩
set_option maxRecDepth 100000 in
theorem ck_159 : am_mok am_md am_pg 196 159 [[(1, []), (3, []), (1, []), (1, []), (3, [])], [(1, []), (1, [])], [(1, []), (1, []), (1, []), (3, [[250, 0]]), (1, []), (1, []), (3, [[250, 0]]), (3, [[144, 0]]), (1, []), (1, []), (3, [[709, 710, 711]]), (1, []), (1, []), (2, [])], [(2, []), (1, []), (3, []), (1, []), (3, [[250, 0]]), (2, []), (1, []), (3, [[250, 0]]), (3, [[144, 0]]), (1, []), (1, []), (3, [[709, 710, 711]]), (2, []), (2, []), (1, []), (3, []), (2, []), (1, []), (2, []), (1, [])], [(3, []), (3, [])], [(1, []), (3, []), (1, []), (3, [])], [(1, [])], [(1, [])]] = true := by decide +kernel
set_option maxRecDepth 100000 in
theorem cm_k159 : am_mk am_md am_pg 159 := ⟨am_in_mem (j := 708) (by decide +kernel), am_in_mem (j := 55) (by decide +kernel), ⟨by decide +kernel, by decide +kernel⟩, by decide +kernel⟩
set_option maxRecDepth 100000 in
theorem ck_160 : am_mok am_md am_pg 196 160 [[(1, []), (3, []), (1, []), (2, []), (3, [])], [(2, []), (1, [])], [(1, []), (1, [])], [(1, []), (2, []), (3, []), (1, []), (3, [[250, 0]]), (1, []), (3, [[250, 0]]), (3, [[144, 0]]), (1, []), (1, []), (1, []), (3, [[709, 710, 711]]), (1, []), (3, []), (1, []), (1, [])], [(3, []), (3, [])], [(2, []), (1, [])]] = true := by decide +kernel
set_option maxRecDepth 100000 in
theorem cm_k160 : am_mk am_md am_pg 160 := ⟨am_in_mem (j := 716) (by decide +kernel), am_in_mem (j := 55) (by decide +kernel), ⟨by decide +kernel, by decide +kernel⟩, by decide +kernel⟩
set_option maxRecDepth 100000 in
theorem ck_161 : am_mok am_md am_pg 196 161 [[(1, []), (3, []), (1, []), (1, []), (3, [])], [(1, []), (1, [])], [(1, []), (1, []), (1, []), (3, [[250, 0]]), (1, []), (3, [[721, 722, 723]]), (1, []), (1, []), (2, [])], [(2, []), (2, []), (3, []), (1, []), (3, [[250, 0]]), (2, []), (3, [[721, 722, 723]]), (2, []), (2, []), (1, []), (3, []), (2, []), (1, []), (2, []), (1, [])], [(3, []), (3, [])], [(1, []), (3, []), (1, []), (3, [])], [(1, [])], [(1, [])]] = true := by decide +kernel
set_option maxRecDepth 100000 in
theorem cm_k161 : am_mk am_md am_pg 161 := ⟨am_in_mem (j := 720) (by decide +kernel), am_in_mem (j := 55) (by decide +kernel), ⟨by decide +kernel, by decide +kernel⟩, by decide +kernel⟩
set_option maxRecDepth 100000 in
theorem ck_162 : am_mok am_md am_pg 196 162 [[(1, []), (3, []), (1, []), (2, []), (3, []), (1, []), (3, []), (1, []), (1, []), (3, []), (1, []), (3, [[693, 694]]), (3, [])], [(3, [[696]]), (1, [])], [(1, []), (3, [[254, 0]]), (1, []), (3, [[250, 0]]), (1, []), (1, []), (3, [[250, 0]]), (3, [[144, 0]]), (1, []), (1, []), (3, [[729, 730, 731]]), (1, []), (3, [[254, 0]]), (1, []), (3, [[250, 0]]), (1, []), (3, [[760, 761, 762]]), (1, []), (3, [[254, 0]]), (3, [[211, 0]]), (1, []), (3, [[699, 700]]), (1, [])]] = true := by decide +kernel
set_option maxRecDepth 100000 in
theorem cm_k162 : am_mk am_md am_pg 162 := ⟨am_in_mem (j := 728) (by decide +kernel), am_in_mem (j := 55) (by decide +kernel), ⟨by decide +kernel, by decide +kernel⟩, by decide +kernel⟩
set_option maxRecDepth 100000 in
theorem ck_163 : am_mok am_md am_pg 196 163 [[(1, []), (3, []), (1, []), (2, []), (3, [])], [(2, []), (1, [])], [(1, []), (1, []), (3, [[771]]), (1, []), (1, []), (2, [])], [(2, []), (2, []), (3, []), (1, []), (3, [[254, 0]]), (1, []), (3, [[250, 0]]), (1, []), (2, []), (3, [[729, 730, 731]]), (1, []), (3, [[254, 0]]), (1, []), (3, [[250, 0]]), (1, []), (3, [[760, 761, 762]]), (2, []), (2, []), (1, []), (1, []), (3, []), (2, []), (1, []), (2, []), (1, [])], [(3, []), (3, [])], [(1, []), (1, [])]] = true := by decide +kernel
set_option maxRecDepth 100000 in
theorem cm_k163 : am_mk am_md am_pg 163 := ⟨am_in_mem (j := 770) (by decide +kernel), am_in_mem (j := 55) (by decide +kernel), ⟨by decide +kernel, by decide +kernel⟩, by decide +kernel⟩
set_option maxRecDepth 100000 in
theorem ck_164 : am_mok am_md am_pg 196 164 [[(1, []), (3, [[250, 0]]), (1, []), (3, [[554, 555, 556]]), (2, []), (2, []), (3, []), (1, []), (3, []), (1, []), (1, []), (3, []), (1, []), (3, [[693, 694]]), (3, [])], [(3, [[696]]), (1, [])], [(1, []), (1, []), (3, []), (3, [[776]]), (1, []), (3, [[250, 0]]), (3, [[777, 778, 779]]), (1, []), (1, []), (1, []), (3, [[250, 0]]), (3, [[155, 0]]), (1, []), (1, []), (3, [[699, 700]]), (1, [])], [(1, []), (3, []), (2, []), (3, [[480, 0]]), (3, [])], [(1, []), (3, [[250, 0]]), (2, []), (3, [[480, 0]]), (3, [[781, 782, 783]])], [(2, []), (3, [[776]]), (1, []), (3, [[250, 0]]), (3, [[152, 0]]), (2, []), (1, []), (1, []), (1, []), (1, []), (1, []), (3, [[699, 700]]), (1, [])]] = true := by decide +kernel
set_option maxRecDepth 100000 in
theorem cm_k164 : am_mk am_md am_pg 164 := ⟨am_in_mem (j := 775) (by decide +kernel), am_in_mem (j := 55) (by decide +kernel), ⟨by decide +kernel, by decide +kernel⟩, by decide +kernel⟩
set_option maxRecDepth 100000 in
theorem ck_165 : am_mok am_md am_pg 196 165 [[(1, []), (3, []), (1, []), (2, []), (3, [])], [(1, []), (1, [])], [(1, []), (1, []), (1, []), (1, [])], [(1, []), (1, []), (3, [[250, 0]]), (3, [[155, 0]]), (3, []), (1, []), (3, [[250, 0]]), (1, []), (3, [[250, 0]]), (3, [[150, 0]]), (1, []), (1, []), (1, []), (3, [[789, 790, 791]]), (3, []), (1, []), (1, []), (1, []), (1, []), (1, []), (1, [])], [(3, []), (3, [])], [(1, []), (1, [])]] = true := by decide +kernel
set_option maxRecDepth 100000 in
theorem cm_k165 : am_mk am_md am_pg 165 := ⟨am_in_mem (j := 788) (by decide +kernel), am_in_mem (j := 55) (by decide +kernel), ⟨by decide +kernel, by decide +kernel⟩, by decide +kernel⟩
set_option maxRecDepth 100000 in
theorem ck_166 : am_mok am_md am_pg 196 166 [[(1, []), (3, []), (1, []), (1, []), (3, [])], [(1, []), (1, [])], [(2, []), (1, []), (2, []), (1, []), (1, []), (2, [])], [(2, []), (2, []), (3, []), (1, []), (3, [[250, 0]]), (3, [[146, 0]]), (2, []), (1, []), (1, []), (3, []), (3, [])], [(1, []), (3, [[250, 0]]), (2, []), (3, [[797, 798, 799]]), (2, []), (2, []), (1, []), (3, []), (2, []), (1, []), (2, []), (1, [])], [(3, []), (3, [])], [(1, []), (3, []), (1, []), (3, [])], [(1, [])], [(1, [])]] = true := by decide +kernel
set_option maxRecDepth 100000 in
theorem cm_k166 : am_mk am_md am_pg 166 := ⟨am_in_mem (j := 796) (by decide +kernel), am_in_mem (j := 55) (by decide +kernel), ⟨by decide +kernel, by decide +kernel⟩, by decide +kernel⟩
set_option maxRecDepth 100000 in
theorem ck_167 : am_mok am_md am_pg 196 167 [[(1, []), (1, []), (3, []), (1, []), (3, [[250, 0]]), (1, []), (3, [[172, 0]]), (1, []), (1, [])], [(1, []), (3, [[250, 0]]), (1, []), (3, [[554, 555, 556]]), (3, []), (1, []), (1, [])], [(1, []), (3, [[599, 600]]), (3, []), (1, []), (3, []), (1, []), (1, []), (3, [])], [(2, []), (1, [])], [(1, []), (3, [[250, 0]]), (3, [[172, 0]]), (2, []), (3, []), (2, []), (1, [])], [(1, []), (3, [[250, 0]]), (3, [[166, 0]]), (1, []), (3, [[250, 0]]), (3, [[172, 0]]), (1, []), (1, []), (1, []), (3, [[250, 0]]), (3, [[168, 0]]), (1, []), (3, [[250, 0]]), (3, [[172, 0]]), (1, []), (1, []), (1, []), (3, [[250, 0]]), (3, [[170, 0]]), (1, []), (3, [[250, 0]]), (3, [[172, 0]]), (1, []), (1, []), (1, []), (3, [[250, 0]]), (1, []), (3, [[172, 0]]), (1, []), (1, []), (3, [[172, 0]]), (1, []), (3, [[250, 0]]), (3, [[172, 0]]), (1, [])]] = true := by decide +kernel
set_option maxRecDepth 100000 in
theorem cm_k167 : am_mk am_md am_pg 167 := ⟨am_in_mem (j := 805) (by decide +kernel), am_in_mem (j := 55) (by decide +kernel), ⟨by decide +kernel, by decide +kernel⟩, by decide +kernel⟩
set_option maxRecDepth 100000 in
theorem ck_168 : am_mok am_md am_pg 196 168 [[(1, []), (3, [[252, 0]]), (1, []), (3, [[250, 0]]), (3, [[810, 811, 812]]), (1, []), (1, [])], [(1, []), (1, []), (3, [[252, 0]]), (3, [[172, 0]]), (3, []), (1, []), (3, [[252, 0]]), (1, []), (3, [[252, 0]]), (3, [[166, 0]]), (1, []), (1, []), (3, [[554, 555, 556]]), (1, []), (1, []), (3, []), (1, []), (3, [[252, 0]]), (3, [[144, 0]]), (1, []), (1, []), (3, [])], [(1, []), (1, [])], [(1, []), (3, [[252, 0]]), (1, []), (1, []), (3, [[252, 0]]), (3, [[168, 0]]), (1, []), (1, []), (3, [[667, 668, 669]]), (1, []), (3, [[252, 0]]), (3, [[170, 0]]), (1, []), (1, []), (3, []), (1, []), (1, [])], [(3, []), (3, [])], [(2, []), (1, [])]] = true := by decide +kernel
set_option maxRecDepth 100000 in
theorem cm_k168 : am_mk am_md am_pg 168 := ⟨am_in_mem (j := 809) (by decide +kernel), am_in_mem (j := 55) (by decide +kernel), ⟨by decide +kernel, by decide +kernel⟩, by decide +kernel⟩
set_option maxRecDepth 100000 in
theorem ck_169 : am_mok am_md am_pg 196 169 [[(1, []), (3, [[255, 0]]), (1, []), (3, [[244, 0]]), (1, []), (3, [[250, 0]]), (1, []), (3, [[554, 555, 556]]), (2, []), (2, []), (3, []), (1, []), (1, [])], [(1, []), (26, [])], [(2, []), (1, []), (1, []), (3, [[255, 0]]), (3, [[820, 821, 822], [820, 823, 821, 834, 835, 843], [820, 823, 821, 839, 821, 843], [820, 823, 821, 841, 821, 843], [820, 823, 821, 842, 835, 843], [820, 823, 821, 824, 825, 843], [820, 823, 821, 840, 821, 843]]), (1, [])], [(2, []), (1, []), (1, []), (3, [[255, 0]]), (3, [[845, 846, 847], [845, 848, 846, 854, 846, 865], [845, 848, 846, 855, 850, 865], [845, 848, 846, 863, 846, 865], [845, 848, 846, 864, 846, 865], [845, 848, 846, 849, 850, 865], [845, 848, 846, 856, 857, 865]]), (1, [])], [(2, []), (1, []), (1, []), (3, [[255, 0]]), (3, [[867, 868, 869], [867, 870, 868, 872, 868, 891], [867, 870, 868, 873, 868, 891], [867, 870, 868, 879, 875, 891], [867, 870, 868, 880, 881, 891], [867, 870, 868, 871, 868, 891], [867, 870, 868, 874, 875, 891]]), (1, [])], [(1, []), (1, [])]] = true := by decide +kernel
set_option maxRecDepth 100000 in
theorem cm_k169 : am_mk am_md am_pg 169 := ⟨am_in_mem (j := 819) (by decide +kernel), am_in_mem (j := 55) (by decide +kernel), ⟨by decide +kernel, by decide +kernel⟩, by decide +kernel⟩
set_option maxRecDepth 100000 in
theorem ck_170 : am_mok am_md am_pg 196 170 [[(1, []), (3, []), (1, []), (1, []), (3, [[255, 0]]), (3, [[244, 0]]), (3, []), (1, []), (1, []), (3, [[255, 0]]), (3, [[242, 0]]), (1, []), (3, [])], [(1, []), (1, [])], [(1, []), (3, [[255, 0]]), (3, [[242, 0]]), (1, []), (1, []), (1, [])]] = true := by decide +kernel
set_option maxRecDepth 100000 in
theorem cm_k170 : am_mk am_md am_pg 170 := ⟨am_in_mem (j := 896) (by decide +kernel), am_in_mem (j := 55) (by decide +kernel), ⟨by decide +kernel, by decide +kernel⟩, by decide +kernel⟩
set_option maxRecDepth 100000 in
theorem ck_171 : am_mok am_md am_pg 196 171 [[(1, []), (3, [[250, 0]]), (1, []), (3, [[554, 555, 556]]), (1, []), (1, []), (3, []), (1, []), (3, []), (1, []), (2, []), (3, [])], [(1, []), (1, [])], [(1, []), (1, []), (3, [[901, 902]]), (3, []), (1, []), (3, [[492, 0]]), (3, [])], [(2, [])], [(1, [])]] = true := by decide +kernel
set_option maxRecDepth 100000 in
theorem cm_k171 : am_mk am_md am_pg 171 := ⟨am_in_mem (j := 900) (by decide +kernel), am_in_mem (j := 55) (by decide +kernel), ⟨by decide +kernel, by decide +kernel⟩, by decide +kernel⟩
set_option maxRecDepth 100000 in
theorem ck_172 : am_mok am_md am_pg 196 172 [[(1, []), (3, [[251, 0]]), (1, []), (3, [[250, 0]]), (3, [[810, 811, 812]]), (1, []), (1, []), (3, [[256, 0]]), (1, []), (3, [[250, 0]]), (3, [[155, 0]]), (1, [])]] = true := by decide +kernel
set_option maxRecDepth 100000 in
theorem cm_k172 : am_mk am_md am_pg 172 := ⟨am_in_mem (j := 907) (by decide +kernel), am_in_mem (j := 55) (by decide +kernel), ⟨by decide +kernel, by decide +kernel⟩, by decide +kernel⟩
set_option maxRecDepth 100000 in
theorem ck_173 : am_mok am_md am_pg 196 173 [[(1, []), (3, [[256, 0]]), (3, []), (2, []), (1, [])], [(1, []), (3, [[250, 0]]), (1, []), (3, [[251, 0]]), (3, [[810, 811, 812]]), (1, []), (3, [[250, 0]]), (3, [[155, 0]]), (1, [])]] = true := by decide +kernel
set_option maxRecDepth 100000 in
theorem cm_k173 : am_mk am_md am_pg 173 := ⟨am_in_mem (j := 911) (by decide +kernel), am_in_mem (j := 55) (by decide +kernel), ⟨by decide +kernel, by decide +kernel⟩, by decide +kernel⟩
set_option maxRecDepth 100000 in
theorem ck_174 : am_mok am_md am_pg 196 174 [[(1, []), (35, [])], [(1, []), (3, [[250, 0]]), (3, [[155, 0]]), (1, [])], [(1, []), (3, [[250, 0]]), (3, [[164, 0]]), (1, [])], [(1, []), (3, [[250, 0]]), (3, [[172, 0]]), (1, [])], [(1, []), (3, [[250, 0]]), (3, [[158, 0]]), (1, [])], [(1, []), (3, [[255, 0]]), (3, [[244, 0]]), (1, [])], [(1, []), (1, [])]] = true := by decide +kernel
set_option maxRecDepth 100000 in
theorem cm_k174 : am_mk am_md am_pg 174 := ⟨am_in_mem (j := 915) (by decide +kernel), am_in_mem (j := 55) (by decide +kernel), ⟨by decide +kernel, by decide +kernel⟩, by decide +kernel⟩
