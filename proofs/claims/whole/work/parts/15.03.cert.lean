/-! The check of methods 75 .. -/
set_option maxRecDepth 100000 in
theorem ck_75 : am_mok am_md am_pg 196 75 [[(1, []), (3, [[208, 0]]), (1, []), (3, [[733, 734]]), (1, []), (3, [[208, 0]]), (1, []), (1, []), (1, []), (1, []), (1, []), (3, [[210, 0]]), (1, []), (1, []), (3, [[212, 0]]), (1, []), (3, [[154, 0]]), (3, []), (1, [])], [(1, []), (1, []), (3, [[736, 738, 15]]), (1, []), (2, [])], [(2, []), (1, []), (3, []), (2, []), (2, []), (3, []), (1, []), (1, []), (1, []), (3, [[149, 0]]), (2, []), (1, []), (3, [[154, 0]]), (1, []), (1, []), (1, []), (3, [[741, 743, 16]]), (1, []), (1, []), (3, [[210, 0]]), (3, [[759]]), (1, []), (3, [[210, 0]]), (1, []), (1, []), (3, [[212, 0]]), (1, []), (1, []), (3, [[212, 0]]), (3, []), (3, [])], [(1, [])]] = true := by decide +kernel
set_option maxRecDepth 100000 in
theorem cm_k75 : am_mk am_md am_pg 75 := ⟨am_in_mem (j := 732) (by decide +kernel), am_in_mem (j := 58) (by decide +kernel), ⟨by decide +kernel, by decide +kernel⟩, by decide +kernel⟩
set_option maxRecDepth 100000 in
theorem ck_76 : am_mok am_md am_pg 196 76 [[(1, []), (3, [[143, 0]]), (1, []), (1, []), (1, [])], [(1, []), (1, []), (3, [[154, 0]]), (3, []), (1, []), (2, [])], [(2, []), (2, []), (3, []), (1, []), (3, [[209, 0]]), (1, []), (2, []), (1, []), (2, []), (1, []), (1, []), (3, [[162, 0]]), (1, []), (3, [[149, 0]]), (1, []), (1, []), (2, []), (1, []), (1, []), (1, []), (1, []), (1, []), (1, []), (1, []), (1, []), (1, []), (3, [[740, 629, 630]]), (1, []), (3, []), (3, [])], [(3, []), (3, [])], [(1, [])]] = true := by decide +kernel
set_option maxRecDepth 100000 in
theorem cm_k76 : am_mk am_md am_pg 76 := ⟨am_in_mem (j := 739) (by decide +kernel), am_in_mem (j := 58) (by decide +kernel), ⟨by decide +kernel, by decide +kernel⟩, by decide +kernel⟩
set_option maxRecDepth 100000 in
theorem ck_77 : am_mok am_md am_pg 196 77 [[(1, []), (3, [[212, 0]]), (2, [])], [(2, []), (3, []), (1, []), (1, []), (1, []), (2, []), (3, [[745, 747, 17]]), (1, []), (3, [[212, 0]]), (2, [])], [(2, []), (2, []), (3, []), (1, []), (1, []), (3, [[143, 0]]), (2, []), (1, []), (2, []), (1, []), (1, []), (1, []), (1, []), (3, [[751, 678, 679]]), (2, []), (1, []), (2, [])], [(2, []), (2, []), (2, []), (1, []), (3, []), (1, []), (3, [[143, 0]]), (1, []), (1, []), (2, []), (2, []), (1, []), (3, []), (1, []), (3, [])], [(1, [])], [(2, []), (1, []), (2, []), (2, []), (2, []), (2, []), (2, []), (3, [[752, 754, 18]]), (3, []), (3, [])], [(3, []), (3, [])], [(3, []), (3, [])], [(1, [])]] = true := by decide +kernel
set_option maxRecDepth 100000 in
theorem cm_k77 : am_mk am_md am_pg 77 := ⟨am_in_mem (j := 744) (by decide +kernel), am_in_mem (j := 58) (by decide +kernel), ⟨by decide +kernel, by decide +kernel⟩, by decide +kernel⟩
set_option maxRecDepth 100000 in
theorem ck_78 : am_mok am_md am_pg 196 78 [[(1, []), (1, []), (3, [[213, 0]]), (1, []), (1, []), (3, [[214, 0]]), (1, []), (1, []), (3, [[215, 0]]), (1, []), (1, []), (3, [[216, 0]]), (1, []), (3, [[162, 0]]), (3, [[111, 0]]), (1, []), (3, [[143, 0]]), (1, []), (1, []), (1, []), (2, []), (1, []), (2, [])], [(2, []), (2, []), (3, []), (1, []), (2, []), (1, []), (3, [[143, 0]]), (1, []), (1, []), (1, []), (1, []), (3, [[749, 607, 608], [749, 609, 607, 613, 614, 627], [749, 609, 607, 616, 611, 627], [749, 609, 607, 620, 621, 627], [749, 609, 607, 623, 624, 627], [749, 609, 607, 610, 611, 627], [749, 609, 607, 617, 618, 627]]), (1, []), (3, [[209, 0]]), (1, []), (3, [[481, 0]]), (2, []), (1, []), (2, []), (1, []), (1, []), (1, []), (2, []), (1, []), (3, [[147, 0]]), (1, []), (1, []), (2, []), (3, [[750, 647, 648]]), (1, []), (2, []), (2, []), (2, []), (3, []), (1, []), (1, []), (3, [[213, 0]]), (1, []), (1, []), (3, [[213, 0]]), (3, [])], [(2, []), (1, []), (3, []), (1, []), (1, []), (3, [[215, 0]]), (1, []), (1, []), (3, [[215, 0]]), (3, [])], [(2, []), (1, []), (3, []), (1, []), (1, []), (3, [[216, 0]]), (1, []), (1, []), (3, [[216, 0]]), (3, [])], [(1, []), (1, []), (3, [[214, 0]]), (1, []), (1, []), (3, [[214, 0]])], [(3, []), (3, [])], [(1, [])]] = true := by decide +kernel
set_option maxRecDepth 100000 in
theorem cm_k78 : am_mk am_md am_pg 78 := ⟨am_in_mem (j := 748) (by decide +kernel), am_in_mem (j := 58) (by decide +kernel), ⟨by decide +kernel, by decide +kernel⟩, by decide +kernel⟩
set_option maxRecDepth 100000 in
theorem ck_79 : am_mok am_md am_pg 196 79 [[(1, []), (1, []), (1, []), (3, [[756, 757]]), (2, []), (1, []), (3, [[208, 0]]), (2, []), (1, []), (2, []), (2, []), (1, []), (1, []), (3, []), (1, [])], [(2, []), (3, []), (1, []), (3, [[208, 0]]), (2, []), (2, []), (3, [[759]]), (1, []), (1, []), (1, [])], [(1, []), (3, [[208, 0]]), (2, []), (2, []), (1, []), (3, [[213, 0]]), (1, []), (1, []), (1, []), (1, []), (3, [[208, 0]]), (1, []), (1, []), (1, []), (1, []), (1, []), (1, []), (1, []), (3, [[756, 757]]), (1, []), (1, []), (2, []), (1, []), (3, [[216, 0]]), (1, []), (1, []), (1, []), (1, []), (1, []), (3, [[208, 0]]), (1, []), (1, []), (1, []), (1, []), (1, []), (1, []), (1, []), (3, [[756, 757]]), (1, []), (1, []), (2, []), (1, []), (3, [[215, 0]]), (1, []), (1, []), (1, []), (1, []), (2, []), (3, []), (1, []), (1, []), (1, []), (1, []), (1, []), (3, [[756, 757]]), (3, [])], [(1, []), (1, []), (1, []), (1, []), (1, []), (1, []), (1, []), (3, [[756, 757]])], [(2, []), (1, []), (3, [[208, 0]]), (2, []), (1, []), (1, []), (2, []), (1, []), (3, [[214, 0]]), (1, []), (1, []), (1, []), (1, []), (1, [])]] = true := by decide +kernel
set_option maxRecDepth 100000 in
theorem cm_k79 : am_mk am_md am_pg 79 := ⟨am_in_mem (j := 755) (by decide +kernel), am_in_mem (j := 58) (by decide +kernel), ⟨by decide +kernel, by decide +kernel⟩, by decide +kernel⟩
set_option maxRecDepth 100000 in
theorem ck_80 : am_mok am_md am_pg 196 80 [[(1, []), (1, []), (1, []), (2, [])], [(2, []), (1, []), (3, [[212, 0]]), (3, []), (1, []), (2, [])], [(2, []), (2, []), (3, []), (1, []), (2, [])], [(2, []), (2, []), (2, []), (1, []), (3, []), (1, []), (1, []), (3, [[208, 0]]), (2, []), (2, []), (2, []), (3, [[756, 757]]), (1, []), (1, []), (3, [[143, 0]]), (1, []), (2, []), (2, []), (2, []), (3, [[764, 765]]), (1, []), (1, []), (1, []), (3, []), (3, [])], [(3, []), (3, [])], [(3, []), (3, [])], [(1, []), (1, [])]] = true := by decide +kernel
set_option maxRecDepth 100000 in
theorem cm_k80 : am_mk am_md am_pg 80 := ⟨am_in_mem (j := 763) (by decide +kernel), am_in_mem (j := 58) (by decide +kernel), ⟨by decide +kernel, by decide +kernel⟩, by decide +kernel⟩
set_option maxRecDepth 100000 in
theorem ck_81 : am_mok am_md am_pg 196 81 [[(1, []), (27, [])], [(1, []), (1, []), (1, []), (1, []), (1, []), (1, []), (1, []), (1, []), (1, [])], [(1, []), (1, []), (1, []), (1, []), (1, []), (1, []), (1, [])], [(1, []), (2, []), (1, []), (1, []), (1, []), (1, []), (1, [])], [(1, []), (2, []), (1, []), (2, []), (1, []), (1, []), (1, [])]] = true := by decide +kernel
set_option maxRecDepth 100000 in
theorem cm_k81 : am_mk am_md am_pg 81 := ⟨am_in_mem (j := 766) (by decide +kernel), am_in_mem (j := 58) (by decide +kernel), ⟨by decide +kernel, by decide +kernel⟩, by decide +kernel⟩
set_option maxRecDepth 100000 in
theorem ck_82 : am_mok am_md am_pg 196 82 [[(1, []), (1, []), (1, []), (3, [[472, 473]]), (1, [])]] = true := by decide +kernel
set_option maxRecDepth 100000 in
theorem cm_k82 : am_mk am_md am_pg 82 := ⟨am_in_mem (j := 471) (by decide +kernel), am_in_mem (j := 69) (by decide +kernel), ⟨by decide +kernel, by decide +kernel⟩, by decide +kernel⟩
set_option maxRecDepth 100000 in
theorem ck_83 : am_mok am_md am_pg 196 83 [[(1, []), (1, [])]] = true := by decide +kernel
set_option maxRecDepth 100000 in
theorem cm_k83 : am_mk am_md am_pg 83 := ⟨am_in_mem (j := 567) (by decide +kernel), am_in_mem (j := 69) (by decide +kernel), ⟨by decide +kernel, by decide +kernel⟩, by decide +kernel⟩
set_option maxRecDepth 100000 in
theorem ck_84 : am_mok am_md am_pg 196 84 [[(1, []), (1, []), (1, []), (1, []), (3, [[490, 491]]), (1, []), (1, [])]] = true := by decide +kernel
set_option maxRecDepth 100000 in
theorem cm_k84 : am_mk am_md am_pg 84 := ⟨am_in_mem (j := 615) (by decide +kernel), am_in_mem (j := 69) (by decide +kernel), ⟨by decide +kernel, by decide +kernel⟩, by decide +kernel⟩
set_option maxRecDepth 100000 in
theorem ck_85 : am_mok am_md am_pg 196 85 [[(1, []), (2, []), (3, [[837, 828, 829]]), (1, []), (1, []), (1, []), (1, []), (1, []), (3, [[838, 821, 823, 498, 0]]), (1, [])]] = true := by decide +kernel
set_option maxRecDepth 100000 in
theorem cm_k85 : am_mk am_md am_pg 85 := ⟨am_in_mem (j := 836) (by decide +kernel), am_in_mem (j := 69) (by decide +kernel), ⟨by decide +kernel, by decide +kernel⟩, by decide +kernel⟩
set_option maxRecDepth 100000 in
theorem ck_86 : am_mok am_md am_pg 196 86 [[(1, []), (3, [[475, 82, 83]]), (1, []), (1, []), (3, [[476, 0]]), (1, []), (1, []), (3, [[483, 0]]), (1, [])]] = true := by decide +kernel
set_option maxRecDepth 100000 in
theorem cm_k86 : am_mk am_md am_pg 86 := ⟨am_in_mem (j := 474) (by decide +kernel), am_in_mem (j := 68) (by decide +kernel), ⟨by decide +kernel, by decide +kernel⟩, by decide +kernel⟩
set_option maxRecDepth 100000 in
theorem ck_87 : am_mok am_md am_pg 196 87 [[(1, []), (1, [])]] = true := by decide +kernel
set_option maxRecDepth 100000 in
theorem cm_k87 : am_mk am_md am_pg 87 := ⟨am_in_mem (j := 580) (by decide +kernel), am_in_mem (j := 68) (by decide +kernel), ⟨by decide +kernel, by decide +kernel⟩, by decide +kernel⟩
set_option maxRecDepth 100000 in
theorem ck_88 : am_mok am_md am_pg 196 88 [[(1, []), (1, []), (3, [[483, 0]]), (1, []), (1, [])]] = true := by decide +kernel
set_option maxRecDepth 100000 in
theorem cm_k88 : am_mk am_md am_pg 88 := ⟨am_in_mem (j := 627) (by decide +kernel), am_in_mem (j := 68) (by decide +kernel), ⟨by decide +kernel, by decide +kernel⟩, by decide +kernel⟩
set_option maxRecDepth 100000 in
theorem ck_89 : am_mok am_md am_pg 196 89 [[(1, []), (1, [])]] = true := by decide +kernel
set_option maxRecDepth 100000 in
theorem cm_k89 : am_mk am_md am_pg 89 := ⟨am_in_mem (j := 662) (by decide +kernel), am_in_mem (j := 68) (by decide +kernel), ⟨by decide +kernel, by decide +kernel⟩, by decide +kernel⟩
set_option maxRecDepth 100000 in
theorem ck_90 : am_mok am_md am_pg 196 90 [[(1, []), (1, []), (3, [[844, 828, 829]]), (1, []), (1, []), (3, [[476, 0]]), (1, []), (1, [])]] = true := by decide +kernel
set_option maxRecDepth 100000 in
theorem cm_k90 : am_mk am_md am_pg 90 := ⟨am_in_mem (j := 843) (by decide +kernel), am_in_mem (j := 68) (by decide +kernel), ⟨by decide +kernel, by decide +kernel⟩, by decide +kernel⟩
set_option maxRecDepth 100000 in
theorem ck_91 : am_mok am_md am_pg 196 91 [[(1, []), (1, []), (3, [[844, 828, 829]]), (1, []), (1, []), (1, []), (3, [[866, 821, 822], [866, 823, 821, 834, 835, 843], [866, 823, 821, 839, 821, 843], [866, 823, 821, 841, 821, 843], [866, 823, 821, 842, 835, 843], [866, 823, 821, 824, 825, 843], [866, 823, 821, 840, 821, 843]]), (1, []), (3, [[483, 0]]), (1, []), (1, [])]] = true := by decide +kernel
set_option maxRecDepth 100000 in
theorem cm_k91 : am_mk am_md am_pg 91 := ⟨am_in_mem (j := 865) (by decide +kernel), am_in_mem (j := 68) (by decide +kernel), ⟨by decide +kernel, by decide +kernel⟩, by decide +kernel⟩
set_option maxRecDepth 100000 in
theorem ck_92 : am_mok am_md am_pg 196 92 [[(1, []), (1, []), (3, [[844, 828, 829]]), (1, []), (1, []), (1, []), (3, [[892, 846, 847], [892, 848, 846, 854, 846, 865], [892, 848, 846, 855, 850, 865], [892, 848, 846, 863, 846, 865], [892, 848, 846, 864, 846, 865], [892, 848, 846, 849, 850, 865], [892, 848, 846, 856, 857, 865]]), (1, []), (1, []), (1, [])]] = true := by decide +kernel
set_option maxRecDepth 100000 in
theorem cm_k92 : am_mk am_md am_pg 92 := ⟨am_in_mem (j := 891) (by decide +kernel), am_in_mem (j := 68) (by decide +kernel), ⟨by decide +kernel, by decide +kernel⟩, by decide +kernel⟩
set_option maxRecDepth 100000 in
theorem ck_93 : am_mok am_md am_pg 196 93 [[(1, []), (1, []), (1, []), (3, [[504, 473]]), (1, [])]] = true := by decide +kernel
set_option maxRecDepth 100000 in
theorem cm_k93 : am_mk am_md am_pg 93 := ⟨am_in_mem (j := 503) (by decide +kernel), am_in_mem (j := 70) (by decide +kernel), ⟨by decide +kernel, by decide +kernel⟩, by decide +kernel⟩
set_option maxRecDepth 100000 in
theorem ck_94 : am_mok am_md am_pg 196 94 [[(1, []), (1, [])]] = true := by decide +kernel
set_option maxRecDepth 100000 in
theorem cm_k94 : am_mk am_md am_pg 94 := ⟨am_in_mem (j := 570) (by decide +kernel), am_in_mem (j := 70) (by decide +kernel), ⟨by decide +kernel, by decide +kernel⟩, by decide +kernel⟩
set_option maxRecDepth 100000 in
theorem ck_95 : am_mok am_md am_pg 196 95 [[(1, []), (1, []), (3, [[484, 485]]), (1, []), (1, []), (1, []), (1, [])]] = true := by decide +kernel
set_option maxRecDepth 100000 in
theorem cm_k95 : am_mk am_md am_pg 95 := ⟨am_in_mem (j := 612) (by decide +kernel), am_in_mem (j := 70) (by decide +kernel), ⟨by decide +kernel, by decide +kernel⟩, by decide +kernel⟩
set_option maxRecDepth 100000 in
theorem ck_96 : am_mok am_md am_pg 196 96 [[(1, []), (2, []), (3, [[852, 828, 829]]), (1, []), (1, []), (1, []), (3, [[853, 846, 848, 507, 0]]), (1, []), (1, [])]] = true := by decide +kernel
set_option maxRecDepth 100000 in
theorem cm_k96 : am_mk am_md am_pg 96 := ⟨am_in_mem (j := 851) (by decide +kernel), am_in_mem (j := 70) (by decide +kernel), ⟨by decide +kernel, by decide +kernel⟩, by decide +kernel⟩
set_option maxRecDepth 100000 in
theorem ck_97 : am_mok am_md am_pg 196 97 [[(1, []), (1, []), (1, []), (3, [[540, 511]]), (1, [])]] = true := by decide +kernel
set_option maxRecDepth 100000 in
theorem cm_k97 : am_mk am_md am_pg 97 := ⟨am_in_mem (j := 539) (by decide +kernel), am_in_mem (j := 74) (by decide +kernel), ⟨by decide +kernel, by decide +kernel⟩, by decide +kernel⟩
set_option maxRecDepth 100000 in
theorem ck_98 : am_mok am_md am_pg 196 98 [[(2, []), (1, [])]] = true := by decide +kernel
set_option maxRecDepth 100000 in
theorem cm_k98 : am_mk am_md am_pg 98 := ⟨am_in_mem (j := 573) (by decide +kernel), am_in_mem (j := 74) (by decide +kernel), ⟨by decide +kernel, by decide +kernel⟩, by decide +kernel⟩
set_option maxRecDepth 100000 in
theorem ck_99 : am_mok am_md am_pg 196 99 [[(1, []), (1, []), (3, [[486, 487]]), (1, []), (1, []), (1, []), (1, []), (1, []), (1, [])]] = true := by decide +kernel
set_option maxRecDepth 100000 in
theorem cm_k99 : am_mk am_md am_pg 99 := ⟨am_in_mem (j := 619) (by decide +kernel), am_in_mem (j := 74) (by decide +kernel), ⟨by decide +kernel, by decide +kernel⟩, by decide +kernel⟩
