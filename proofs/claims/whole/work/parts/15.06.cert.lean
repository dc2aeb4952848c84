/-! The check of methods 150 .. -/
set_option maxRecDepth 100000 in
theorem ck_150 : am_mok am_md am_pg 196 150 [[(1, []), (3, [[251, 0]]), (1, []), (3, [[556, 557, 558]]), (1, []), (1, []), (3, []), (1, []), (1, [])], [(1, []), (28, [])], [(1, []), (3, [[560, 561, 562], [560, 563, 561, 567, 568, 582], [560, 563, 561, 570, 571, 582], [560, 563, 561, 576, 577, 582], [560, 563, 561, 579, 580, 582], [560, 563, 561, 564, 565, 582], [560, 563, 561, 573, 574, 582]]), (1, [])], [(1, []), (3, [[494, 0]]), (1, [])], [(1, []), (3, [[251, 0]]), (3, [[153, 0]]), (1, []), (3, [[482, 0]]), (1, []), (1, [])], [(1, []), (1, [])]] = true := by decide +kernel
set_option maxRecDepth 100000 in
theorem cm_k150 : am_mk am_md am_pg 150 := ⟨am_in_mem (j := 555) (by decide +kernel), am_in_mem (j := 55) (by decide +kernel), ⟨by decide +kernel, by decide +kernel⟩, by decide +kernel⟩
set_option maxRecDepth 100000 in
theorem ck_151 : am_mok am_md am_pg 196 151 [[(1, []), (3, []), (1, []), (2, []), (3, [])], [(1, []), (1, [])], [(1, []), (3, []), (1, []), (1, []), (3, [])], [(2, []), (1, [])], [(1, []), (3, [[251, 0]]), (3, [[148, 0]]), (1, []), (1, []), (1, []), (1, []), (3, [[251, 0]]), (3, [[148, 0]]), (1, []), (1, []), (1, []), (1, []), (1, [])]] = true := by decide +kernel
set_option maxRecDepth 100000 in
theorem cm_k151 : am_mk am_md am_pg 151 := ⟨am_in_mem (j := 586) (by decide +kernel), am_in_mem (j := 55) (by decide +kernel), ⟨by decide +kernel, by decide +kernel⟩, by decide +kernel⟩
set_option maxRecDepth 100000 in
theorem ck_152 : am_mok am_md am_pg 196 152 [[(1, []), (3, []), (1, []), (3, [[591]]), (1, []), (3, [])], [(1, []), (1, [])], [(1, []), (3, []), (1, []), (3, [[591]]), (1, []), (1, []), (3, [])], [(2, []), (1, [])], [(1, []), (3, [[251, 0]]), (3, [[146, 0]]), (1, []), (1, []), (1, []), (1, []), (3, [[251, 0]]), (3, [[146, 0]]), (1, []), (1, []), (1, []), (1, []), (1, [])]] = true := by decide +kernel
set_option maxRecDepth 100000 in
theorem cm_k152 : am_mk am_md am_pg 152 := ⟨am_in_mem (j := 590) (by decide +kernel), am_in_mem (j := 55) (by decide +kernel), ⟨by decide +kernel, by decide +kernel⟩, by decide +kernel⟩
set_option maxRecDepth 100000 in
theorem ck_153 : am_mok am_md am_pg 196 153 [[(1, []), (3, []), (1, []), (1, []), (3, [[251, 0]]), (3, [[146, 0]]), (1, []), (3, []), (1, []), (3, [[251, 0]]), (3, [[146, 0]]), (1, []), (1, []), (1, [])], [(1, []), (2, []), (3, []), (1, []), (3, [[251, 0]]), (3, [[162, 0]]), (3, [[115, 0]]), (1, [])], [(1, []), (2, []), (3, []), (1, []), (3, [[251, 0]]), (3, [[162, 0]]), (3, [[117, 0]]), (1, [])], [(1, []), (2, []), (3, []), (1, []), (2, []), (3, []), (1, []), (3, [[251, 0]]), (3, [[148, 0]]), (1, []), (2, []), (1, []), (1, []), (1, [])], [(1, []), (1, [])]] = true := by decide +kernel
set_option maxRecDepth 100000 in
theorem cm_k153 : am_mk am_md am_pg 153 := ⟨am_in_mem (j := 596) (by decide +kernel), am_in_mem (j := 55) (by decide +kernel), ⟨by decide +kernel, by decide +kernel⟩, by decide +kernel⟩
set_option maxRecDepth 100000 in
theorem ck_154 : am_mok am_md am_pg 196 154 [[(1, []), (3, [[251, 0]]), (1, []), (3, [[556, 557, 558]]), (1, []), (1, []), (3, []), (3, []), (1, [])], [(1, []), (3, [[601, 602]]), (3, []), (3, []), (1, [])], [(1, []), (3, [[251, 0]]), (1, []), (1, []), (1, []), (3, [[251, 0]]), (3, [[146, 0]]), (1, []), (1, []), (1, []), (3, [[251, 0]]), (3, [[146, 0]]), (1, []), (1, []), (3, [[604, 605, 606]]), (1, [])]] = true := by decide +kernel
set_option maxRecDepth 100000 in
theorem cm_k154 : am_mk am_md am_pg 154 := ⟨am_in_mem (j := 600) (by decide +kernel), am_in_mem (j := 55) (by decide +kernel), ⟨by decide +kernel, by decide +kernel⟩, by decide +kernel⟩
set_option maxRecDepth 100000 in
theorem ck_155 : am_mok am_md am_pg 196 155 [[(1, []), (3, [[251, 0]]), (1, []), (3, [[556, 557, 558]]), (1, []), (1, []), (3, []), (1, []), (1, [])], [(1, []), (3, [[601, 602]]), (3, []), (2, []), (1, [])], [(1, []), (3, [[251, 0]]), (1, []), (1, []), (3, [[643, 644, 645]]), (3, []), (1, []), (3, [[251, 0]]), (1, []), (1, []), (3, [[648, 649, 650]]), (3, [])], [(2, [])], [(1, [])]] = true := by decide +kernel
set_option maxRecDepth 100000 in
theorem cm_k155 : am_mk am_md am_pg 155 := ⟨am_in_mem (j := 642) (by decide +kernel), am_in_mem (j := 55) (by decide +kernel), ⟨by decide +kernel, by decide +kernel⟩, by decide +kernel⟩
set_option maxRecDepth 100000 in
theorem ck_156 : am_mok am_md am_pg 196 156 [[(1, []), (3, [[251, 0]]), (1, []), (3, [[556, 557, 558]]), (1, []), (1, []), (3, []), (1, []), (1, [])], [(1, []), (3, [[601, 602]]), (3, []), (2, []), (1, [])], [(1, []), (3, [[251, 0]]), (3, [[146, 0]]), (1, []), (1, []), (3, []), (2, []), (1, [])], [(1, []), (3, [[251, 0]]), (1, []), (1, []), (3, [[669, 670, 671]]), (1, [])]] = true := by decide +kernel
set_option maxRecDepth 100000 in
theorem cm_k156 : am_mk am_md am_pg 156 := ⟨am_in_mem (j := 668) (by decide +kernel), am_in_mem (j := 55) (by decide +kernel), ⟨by decide +kernel, by decide +kernel⟩, by decide +kernel⟩
set_option maxRecDepth 100000 in
theorem ck_157 : am_mok am_md am_pg 196 157 [[(1, []), (3, [[251, 0]]), (3, [[146, 0]]), (2, []), (1, []), (3, []), (3, []), (2, []), (1, [])], [(1, []), (3, [[251, 0]]), (3, [[687, 688, 689]]), (1, []), (3, [[251, 0]]), (3, [[146, 0]]), (2, []), (1, []), (1, [])]] = true := by decide +kernel
set_option maxRecDepth 100000 in
theorem cm_k157 : am_mk am_md am_pg 157 := ⟨am_in_mem (j := 686) (by decide +kernel), am_in_mem (j := 55) (by decide +kernel), ⟨by decide +kernel, by decide +kernel⟩, by decide +kernel⟩
set_option maxRecDepth 100000 in
theorem ck_158 : am_mok am_md am_pg 196 158 [[(1, []), (3, [[251, 0]]), (1, []), (3, [[556, 557, 558]]), (2, []), (2, []), (3, []), (1, []), (3, []), (1, []), (1, []), (3, []), (1, []), (3, [[695, 696]]), (3, [])], [(3, [[698]]), (1, [])], [(1, []), (2, []), (1, []), (2, [])], [(2, []), (2, []), (3, []), (1, []), (3, [[251, 0]]), (2, []), (2, []), (3, [[699, 674, 675]]), (1, []), (3, []), (3, [])], [(3, []), (3, [])], [(2, []), (1, []), (3, [[700]]), (1, []), (3, [[701, 702]]), (1, [])]] = true := by decide +kernel
set_option maxRecDepth 100000 in
theorem cm_k158 : am_mk am_md am_pg 158 := ⟨am_in_mem (j := 694) (by decide +kernel), am_in_mem (j := 55) (by decide +kernel), ⟨by decide +kernel, by decide +kernel⟩, by decide +kernel⟩
set_option maxRecDepth 100000 in
theorem ck_159 : am_mok am_md am_pg 196 159 [[(1, []), (3, []), (1, []), (1, []), (3, [])], [(1, []), (1, [])], [(1, []), (1, []), (1, []), (3, [[251, 0]]), (1, []), (1, []), (3, [[251, 0]]), (3, [[146, 0]]), (1, []), (1, []), (3, [[711, 712, 713]]), (1, []), (1, []), (2, [])], [(2, []), (1, []), (3, []), (1, []), (3, [[251, 0]]), (2, []), (1, []), (3, [[251, 0]]), (3, [[146, 0]]), (1, []), (1, []), (3, [[711, 712, 713]]), (2, []), (2, []), (1, []), (3, []), (2, []), (1, []), (2, []), (1, [])], [(3, []), (3, [])], [(1, []), (3, []), (1, []), (3, [])], [(1, [])], [(1, [])]] = true := by decide +kernel
set_option maxRecDepth 100000 in
theorem cm_k159 : am_mk am_md am_pg 159 := ⟨am_in_mem (j := 710) (by decide +kernel), am_in_mem (j := 55) (by decide +kernel), ⟨by decide +kernel, by decide +kernel⟩, by decide +kernel⟩
set_option maxRecDepth 100000 in
theorem ck_160 : am_mok am_md am_pg 196 160 [[(1, []), (3, []), (1, []), (2, []), (3, [])], [(2, []), (1, [])], [(1, []), (1, [])], [(1, []), (2, []), (3, []), (1, []), (3, [[251, 0]]), (1, []), (3, [[251, 0]]), (3, [[146, 0]]), (1, []), (1, []), (1, []), (3, [[711, 712, 713]]), (1, []), (3, []), (1, []), (1, [])], [(3, []), (3, [])], [(2, []), (1, [])]] = true := by decide +kernel
set_option maxRecDepth 100000 in
theorem cm_k160 : am_mk am_md am_pg 160 := ⟨am_in_mem (j := 719) (by decide +kernel), am_in_mem (j := 55) (by decide +kernel), ⟨by decide +kernel, by decide +kernel⟩, by decide +kernel⟩
set_option maxRecDepth 100000 in
theorem ck_161 : am_mok am_md am_pg 196 161 [[(1, []), (3, []), (1, []), (1, []), (3, [])], [(1, []), (1, [])], [(1, []), (1, []), (1, []), (3, [[251, 0]]), (1, []), (3, [[724, 725, 726]]), (1, []), (1, []), (2, [])], [(2, []), (2, []), (3, []), (1, []), (3, [[251, 0]]), (2, []), (3, [[724, 725, 726]]), (2, []), (2, []), (1, []), (3, []), (2, []), (1, []), (2, []), (1, [])], [(3, []), (3, [])], [(1, []), (3, []), (1, []), (3, [])], [(1, [])], [(1, [])]] = true := by decide +kernel
set_option maxRecDepth 100000 in
theorem cm_k161 : am_mk am_md am_pg 161 := ⟨am_in_mem (j := 723) (by decide +kernel), am_in_mem (j := 55) (by decide +kernel), ⟨by decide +kernel, by decide +kernel⟩, by decide +kernel⟩
set_option maxRecDepth 100000 in
theorem ck_162 : am_mok am_md am_pg 196 162 [[(1, []), (3, []), (1, []), (2, []), (3, []), (1, []), (3, []), (1, []), (1, []), (3, []), (1, []), (3, [[695, 696]]), (3, [])], [(3, [[698]]), (1, [])], [(1, []), (3, [[255, 0]]), (1, []), (3, [[251, 0]]), (1, []), (1, []), (3, [[251, 0]]), (3, [[146, 0]]), (1, []), (1, []), (3, [[732, 733, 734]]), (1, []), (3, [[255, 0]]), (1, []), (3, [[251, 0]]), (1, []), (3, [[764, 765, 766]]), (1, []), (3, [[255, 0]]), (3, [[212, 0]]), (1, []), (3, [[701, 702]]), (1, [])]] = true := by decide +kernel
set_option maxRecDepth 100000 in
theorem cm_k162 : am_mk am_md am_pg 162 := ⟨am_in_mem (j := 731) (by decide +kernel), am_in_mem (j := 55) (by decide +kernel), ⟨by decide +kernel, by decide +kernel⟩, by decide +kernel⟩
set_option maxRecDepth 100000 in
theorem ck_163 : am_mok am_md am_pg 196 163 [[(1, []), (3, []), (1, []), (2, []), (3, [])], [(2, []), (1, [])], [(1, []), (1, []), (3, [[775]]), (1, []), (1, []), (2, [])], [(2, []), (2, []), (3, []), (1, []), (3, [[255, 0]]), (1, []), (3, [[251, 0]]), (1, []), (2, []), (3, [[732, 733, 734]]), (1, []), (3, [[255, 0]]), (1, []), (3, [[251, 0]]), (1, []), (3, [[764, 765, 766]]), (2, []), (2, []), (1, []), (1, []), (3, []), (2, []), (1, []), (2, []), (1, [])], [(3, []), (3, [])], [(1, []), (1, [])]] = true := by decide +kernel
set_option maxRecDepth 100000 in
theorem cm_k163 : am_mk am_md am_pg 163 := ⟨am_in_mem (j := 774) (by decide +kernel), am_in_mem (j := 55) (by decide +kernel), ⟨by decide +kernel, by decide +kernel⟩, by decide +kernel⟩
set_option maxRecDepth 100000 in
theorem ck_164 : am_mok am_md am_pg 196 164 [[(1, []), (3, [[251, 0]]), (1, []), (3, [[556, 557, 558]]), (2, []), (2, []), (3, []), (1, []), (3, []), (1, []), (1, []), (3, []), (1, []), (3, [[695, 696]]), (3, [])], [(3, [[698]]), (1, [])], [(1, []), (1, []), (3, []), (3, [[780]]), (1, []), (3, [[251, 0]]), (3, [[781, 782, 783]]), (1, []), (1, []), (1, []), (3, [[251, 0]]), (3, [[156, 0]]), (1, []), (1, []), (3, [[701, 702]]), (1, [])], [(1, []), (3, []), (2, []), (3, [[482, 0]]), (3, [])], [(1, []), (3, [[251, 0]]), (2, []), (3, [[482, 0]]), (3, [[785, 786, 787]])], [(2, []), (3, [[780]]), (1, []), (3, [[251, 0]]), (3, [[153, 0]]), (2, []), (1, []), (1, []), (1, []), (1, []), (1, []), (3, [[701, 702]]), (1, [])]] = true := by decide +kernel
set_option maxRecDepth 100000 in
theorem cm_k164 : am_mk am_md am_pg 164 := ⟨am_in_mem (j := 779) (by decide +kernel), am_in_mem (j := 55) (by decide +kernel), ⟨by decide +kernel, by decide +kernel⟩, by decide +kernel⟩
set_option maxRecDepth 100000 in
theorem ck_165 : am_mok am_md am_pg 196 165 [[(1, []), (3, []), (1, []), (2, []), (3, [])], [(1, []), (1, [])], [(1, []), (1, []), (1, []), (1, [])], [(1, []), (1, []), (3, [[251, 0]]), (3, [[156, 0]]), (3, []), (1, []), (3, [[251, 0]]), (1, []), (3, [[556, 557, 558]]), (2, []), (2, []), (3, []), (1, []), (3, [[251, 0]]), (2, []), (1, []), (3, [[793, 794, 795]]), (3, []), (1, []), (1, []), (1, []), (1, []), (1, []), (1, [])], [(3, []), (3, [])], [(1, []), (1, [])]] = true := by decide +kernel
set_option maxRecDepth 100000 in
theorem cm_k165 : am_mk am_md am_pg 165 := ⟨am_in_mem (j := 792) (by decide +kernel), am_in_mem (j := 55) (by decide +kernel), ⟨by decide +kernel, by decide +kernel⟩, by decide +kernel⟩
set_option maxRecDepth 100000 in
theorem ck_166 : am_mok am_md am_pg 196 166 [[(1, []), (3, []), (1, []), (1, []), (3, [])], [(1, []), (1, [])], [(2, []), (1, []), (2, []), (1, []), (1, []), (2, [])], [(2, []), (2, []), (3, []), (1, []), (3, [[251, 0]]), (3, [[148, 0]]), (2, []), (1, []), (1, []), (3, []), (3, [])], [(1, []), (3, [[251, 0]]), (2, []), (3, [[801, 802, 803]]), (2, []), (2, []), (1, []), (3, []), (2, []), (1, []), (2, []), (1, [])], [(3, []), (3, [])], [(1, []), (3, []), (1, []), (3, [])], [(1, [])], [(1, [])]] = true := by decide +kernel
set_option maxRecDepth 100000 in
theorem cm_k166 : am_mk am_md am_pg 166 := ⟨am_in_mem (j := 800) (by decide +kernel), am_in_mem (j := 55) (by decide +kernel), ⟨by decide +kernel, by decide +kernel⟩, by decide +kernel⟩
set_option maxRecDepth 100000 in
theorem ck_167 : am_mok am_md am_pg 196 167 [[(1, []), (1, []), (3, []), (1, []), (3, [[251, 0]]), (1, []), (3, [[173, 0]]), (1, []), (1, [])], [(1, []), (3, [[251, 0]]), (1, []), (3, [[556, 557, 558]]), (3, []), (1, []), (1, [])], [(1, []), (3, [[601, 602]]), (3, []), (1, []), (3, []), (1, []), (1, []), (3, [])], [(2, []), (1, [])], [(1, []), (3, [[251, 0]]), (3, [[173, 0]]), (2, []), (3, []), (2, []), (1, [])], [(1, []), (3, [[251, 0]]), (3, [[167, 0]]), (1, []), (3, [[251, 0]]), (3, [[173, 0]]), (1, []), (1, []), (1, []), (3, [[251, 0]]), (3, [[169, 0]]), (1, []), (3, [[251, 0]]), (3, [[173, 0]]), (1, []), (1, []), (1, []), (3, [[251, 0]]), (3, [[171, 0]]), (1, []), (3, [[251, 0]]), (3, [[173, 0]]), (1, []), (1, []), (1, []), (3, [[251, 0]]), (1, []), (3, [[173, 0]]), (1, []), (1, []), (3, [[173, 0]]), (1, []), (3, [[251, 0]]), (3, [[173, 0]]), (1, [])]] = true := by decide +kernel
set_option maxRecDepth 100000 in
theorem cm_k167 : am_mk am_md am_pg 167 := ⟨am_in_mem (j := 809) (by decide +kernel), am_in_mem (j := 55) (by decide +kernel), ⟨by decide +kernel, by decide +kernel⟩, by decide +kernel⟩
set_option maxRecDepth 100000 in
theorem ck_168 : am_mok am_md am_pg 196 168 [[(1, []), (3, [[253, 0]]), (1, []), (3, [[251, 0]]), (3, [[814, 815, 816]]), (1, []), (1, [])], [(1, []), (1, []), (3, [[253, 0]]), (3, [[173, 0]]), (3, []), (1, []), (3, [[253, 0]]), (1, []), (3, [[253, 0]]), (3, [[167, 0]]), (1, []), (1, []), (3, [[556, 557, 558]]), (1, []), (1, []), (3, []), (1, []), (3, [[253, 0]]), (3, [[146, 0]]), (1, []), (1, []), (3, [])], [(1, []), (1, [])], [(1, []), (3, [[253, 0]]), (1, []), (1, []), (3, [[253, 0]]), (3, [[169, 0]]), (1, []), (1, []), (3, [[669, 670, 671]]), (1, []), (3, [[253, 0]]), (3, [[171, 0]]), (1, []), (1, []), (3, []), (1, []), (1, [])], [(3, []), (3, [])], [(2, []), (1, [])]] = true := by decide +kernel
set_option maxRecDepth 100000 in
theorem cm_k168 : am_mk am_md am_pg 168 := ⟨am_in_mem (j := 813) (by decide +kernel), am_in_mem (j := 55) (by decide +kernel), ⟨by decide +kernel, by decide +kernel⟩, by decide +kernel⟩
set_option maxRecDepth 100000 in
theorem ck_169 : am_mok am_md am_pg 196 169 [[(1, []), (3, [[256, 0]]), (1, []), (3, [[245, 0]]), (1, []), (3, [[251, 0]]), (1, []), (3, [[556, 557, 558]]), (2, []), (2, []), (3, []), (1, []), (1, [])], [(1, []), (26, [])], [(2, []), (1, []), (1, []), (3, [[256, 0]]), (3, [[824, 825, 826], [824, 827, 825, 838, 839, 847], [824, 827, 825, 843, 825, 847], [824, 827, 825, 845, 825, 847], [824, 827, 825, 846, 839, 847], [824, 827, 825, 828, 829, 847], [824, 827, 825, 844, 825, 847]]), (1, [])], [(2, []), (1, []), (1, []), (3, [[256, 0]]), (3, [[849, 850, 851], [849, 852, 850, 858, 850, 869], [849, 852, 850, 859, 854, 869], [849, 852, 850, 867, 850, 869], [849, 852, 850, 868, 850, 869], [849, 852, 850, 853, 854, 869], [849, 852, 850, 860, 861, 869]]), (1, [])], [(2, []), (1, []), (1, []), (3, [[256, 0]]), (3, [[871, 872, 873], [871, 874, 872, 876, 872, 895], [871, 874, 872, 877, 872, 895], [871, 874, 872, 883, 879, 895], [871, 874, 872, 884, 885, 895], [871, 874, 872, 875, 872, 895], [871, 874, 872, 878, 879, 895]]), (1, [])], [(1, []), (1, [])]] = true := by decide +kernel
set_option maxRecDepth 100000 in
theorem cm_k169 : am_mk am_md am_pg 169 := ⟨am_in_mem (j := 823) (by decide +kernel), am_in_mem (j := 55) (by decide +kernel), ⟨by decide +kernel, by decide +kernel⟩, by decide +kernel⟩
set_option maxRecDepth 100000 in
theorem ck_170 : am_mok am_md am_pg 196 170 [[(1, []), (3, []), (1, []), (1, []), (3, [[256, 0]]), (3, [[245, 0]]), (3, []), (1, []), (1, []), (3, [[256, 0]]), (3, [[243, 0]]), (1, []), (3, [])], [(1, []), (1, [])], [(1, []), (3, [[256, 0]]), (3, [[243, 0]]), (1, []), (1, []), (1, [])]] = true := by decide +kernel
set_option maxRecDepth 100000 in
theorem cm_k170 : am_mk am_md am_pg 170 := ⟨am_in_mem (j := 900) (by decide +kernel), am_in_mem (j := 55) (by decide +kernel), ⟨by decide +kernel, by decide +kernel⟩, by decide +kernel⟩
set_option maxRecDepth 100000 in
theorem ck_171 : am_mok am_md am_pg 196 171 [[(1, []), (3, [[251, 0]]), (1, []), (3, [[556, 557, 558]]), (1, []), (1, []), (3, []), (1, []), (3, []), (1, []), (2, []), (3, [])], [(1, []), (1, [])], [(1, []), (1, []), (3, [[905, 906]]), (3, []), (1, []), (3, [[494, 0]]), (3, [])], [(2, [])], [(1, [])]] = true := by decide +kernel
set_option maxRecDepth 100000 in
theorem cm_k171 : am_mk am_md am_pg 171 := ⟨am_in_mem (j := 904) (by decide +kernel), am_in_mem (j := 55) (by decide +kernel), ⟨by decide +kernel, by decide +kernel⟩, by decide +kernel⟩
set_option maxRecDepth 100000 in
theorem ck_172 : am_mok am_md am_pg 196 172 [[(1, []), (3, [[252, 0]]), (1, []), (3, [[251, 0]]), (3, [[814, 815, 816]]), (1, []), (1, []), (3, [[257, 0]]), (1, []), (3, [[251, 0]]), (3, [[156, 0]]), (1, [])]] = true := by decide +kernel
set_option maxRecDepth 100000 in
theorem cm_k172 : am_mk am_md am_pg 172 := ⟨am_in_mem (j := 911) (by decide +kernel), am_in_mem (j := 55) (by decide +kernel), ⟨by decide +kernel, by decide +kernel⟩, by decide +kernel⟩
set_option maxRecDepth 100000 in
theorem ck_173 : am_mok am_md am_pg 196 173 [[(1, []), (3, [[257, 0]]), (3, []), (2, []), (1, [])], [(1, []), (3, [[251, 0]]), (1, []), (3, [[252, 0]]), (3, [[814, 815, 816]]), (1, []), (3, [[251, 0]]), (3, [[156, 0]]), (1, [])]] = true := by decide +kernel
set_option maxRecDepth 100000 in
theorem cm_k173 : am_mk am_md am_pg 173 := ⟨am_in_mem (j := 915) (by decide +kernel), am_in_mem (j := 55) (by decide +kernel), ⟨by decide +kernel, by decide +kernel⟩, by decide +kernel⟩
set_option maxRecDepth 100000 in
theorem ck_174 : am_mok am_md am_pg 196 174 [[(1, []), (35, [])], [(1, []), (3, [[251, 0]]), (3, [[156, 0]]), (1, [])], [(1, []), (3, [[251, 0]]), (3, [[165, 0]]), (1, [])], [(1, []), (3, [[251, 0]]), (3, [[173, 0]]), (1, [])], [(1, []), (3, [[251, 0]]), (3, [[159, 0]]), (1, [])], [(1, []), (3, [[256, 0]]), (3, [[245, 0]]), (1, [])], [(1, []), (1, [])]] = true := by decide +kernel
set_option maxRecDepth 100000 in
theorem cm_k174 : am_mk am_md am_pg 174 := ⟨am_in_mem (j := 919) (by decide +kernel), am_in_mem (j := 55) (by decide +kernel), ⟨by decide +kernel, by decide +kernel⟩, by decide +kernel⟩
