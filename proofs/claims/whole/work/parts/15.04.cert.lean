/-! The check of methods 100 .. -/
set_option maxRecDepth 100000 in
theorem ck_100 : am_mok am_md am_pg 196 100 [[(1, []), (2, []), (3, [[859, 828, 829]]), (1, []), (1, []), (1, []), (3, [[860, 846, 861, 543, 516]]), (1, []), (3, [[486, 487]]), (1, []), (1, [])]] = true := by decide +kernel
set_option maxRecDepth 100000 in
theorem cm_k100 : am_mk am_md am_pg 100 := ⟨am_in_mem (j := 858) (by decide +kernel), am_in_mem (j := 74) (by decide +kernel), ⟨by decide +kernel, by decide +kernel⟩, by decide +kernel⟩
set_option maxRecDepth 100000 in
theorem ck_101 : am_mok am_md am_pg 196 101 [[(1, []), (3, [[89, 82, 83]]), (1, []), (3, [[90]]), (3, [[92, 93, 94, 95, 96]]), (3, [[98]]), (3, [[142, 0]]), (1, []), (2, []), (2, [[140]]), (3, [[145, 0]]), (1, []), (1, []), (3, [[99]]), (3, [[148, 0]]), (1, []), (1, []), (2, [[140]]), (3, [[151, 0]]), (1, []), (2, []), (2, [[141]]), (3, [[156, 0]]), (1, []), (3, [[101, 102, 57]]), (1, []), (3, [[0, 104]]), (3, [[160, 0]]), (1, []), (2, []), (2, [[140]]), (3, [[165, 0]]), (1, []), (2, []), (2, [[140]]), (3, [[167, 0]]), (1, []), (2, []), (2, [[140]]), (3, [[169, 0]]), (1, [])]] = true := by decide +kernel
set_option maxRecDepth 100000 in
theorem cm_k101 : am_mk am_md am_pg 101 := ⟨am_in_mem (j := 88) (by decide +kernel), am_in_mem (j := 56) (by decide +kernel), ⟨by decide +kernel, by decide +kernel⟩, by decide +kernel⟩
set_option maxRecDepth 100000 in
theorem ck_102 : am_mok am_md am_pg 196 102 [[(1, []), (3, [[142, 0]]), (1, []), (1, []), (3, [[142, 0]]), (1, []), (1, []), (3, [[142, 0]]), (1, []), (3, [[814, 459, 458, 67]]), (1, []), (3, [[145, 0]]), (1, []), (1, []), (3, [[145, 0]]), (1, []), (1, []), (3, [[145, 0]]), (1, []), (3, [[814, 459, 458, 67]]), (1, []), (1, [])], [(1, []), (1, []), (3, [[148, 0]]), (1, []), (3, []), (1, []), (3, [[148, 0]]), (1, []), (1, []), (3, [[148, 0]]), (1, []), (1, []), (1, []), (3, []), (3, [])], [(1, []), (3, [[151, 0]]), (1, []), (1, []), (3, [[151, 0]]), (1, []), (1, []), (3, [[151, 0]]), (1, []), (3, [[814, 459, 458, 67]]), (1, []), (1, []), (3, [[153, 0]]), (3, [[153, 0]]), (1, []), (3, [[156, 0]]), (1, []), (1, []), (3, [[156, 0]]), (1, []), (1, []), (3, [[159, 0]]), (3, [[814, 459, 458, 67]]), (1, []), (1, []), (3, [[159, 0]]), (3, [[159, 0]]), (1, []), (3, [[160, 0]]), (1, []), (3, [[160, 0]]), (3, [[815, 454, 455]]), (1, []), (1, []), (3, [[163, 0]]), (3, [[163, 0]]), (1, []), (3, [[165, 0]]), (1, []), (1, []), (3, [[165, 0]]), (1, []), (1, []), (3, [[171, 0]]), (3, [[814, 459, 458, 67]]), (1, []), (3, [[167, 0]]), (1, []), (1, []), (3, [[167, 0]]), (1, []), (1, []), (3, [[171, 0]]), (3, [[814, 459, 458, 67]]), (1, []), (3, [[169, 0]]), (1, []), (1, []), (3, [[169, 0]]), (1, []), (1, []), (3, [[171, 0]]), (3, [[814, 459, 458, 67]]), (1, []), (1, []), (3, [[171, 0]]), (3, [[171, 0]]), (1, [])]] = true := by decide +kernel
set_option maxRecDepth 100000 in
theorem cm_k102 : am_mk am_md am_pg 102 := ⟨am_in_mem (j := 813) (by decide +kernel), am_in_mem (j := 56) (by decide +kernel), ⟨by decide +kernel, by decide +kernel⟩, by decide +kernel⟩
set_option maxRecDepth 100000 in
theorem ck_103 : am_mok am_md am_pg 196 103 [[(1, []), (3, []), (1, []), (1, []), (3, [[153, 0]]), (3, []), (1, []), (3, [[148, 0]]), (1, []), (1, []), (3, [])], [(1, [])], [(1, [])]] = true := by decide +kernel
set_option maxRecDepth 100000 in
theorem cm_k103 : am_mk am_md am_pg 103 := ⟨am_in_mem (j := 557) (by decide +kernel), am_in_mem (j := 56) (by decide +kernel), ⟨by decide +kernel, by decide +kernel⟩, by decide +kernel⟩
set_option maxRecDepth 100000 in
theorem ck_104 : am_mok am_md am_pg 196 104 [[(1, []), (3, []), (1, []), (1, []), (1, []), (3, [])], [(1, []), (3, [[153, 0]]), (1, []), (1, [])], [(1, [])]] = true := by decide +kernel
set_option maxRecDepth 100000 in
theorem cm_k104 : am_mk am_md am_pg 104 := ⟨am_in_mem (j := 784) (by decide +kernel), am_in_mem (j := 56) (by decide +kernel), ⟨by decide +kernel, by decide +kernel⟩, by decide +kernel⟩
set_option maxRecDepth 100000 in
theorem ck_105 : am_mok am_md am_pg 196 105 [[(1, []), (1, []), (1, []), (1, [])], [(1, []), (1, []), (3, [[153, 0]]), (3, []), (1, []), (1, []), (3, [[151, 0]]), (1, []), (1, []), (1, []), (1, []), (3, []), (3, [])], [(1, []), (1, [])]] = true := by decide +kernel
set_option maxRecDepth 100000 in
theorem cm_k105 : am_mk am_md am_pg 105 := ⟨am_in_mem (j := 780) (by decide +kernel), am_in_mem (j := 56) (by decide +kernel), ⟨by decide +kernel, by decide +kernel⟩, by decide +kernel⟩
set_option maxRecDepth 100000 in
theorem ck_106 : am_mok am_md am_pg 196 106 [[(1, []), (1, []), (1, []), (3, [[142, 0]]), (1, []), (1, []), (3, [[606, 607, 608], [606, 609, 607, 613, 614, 627], [606, 609, 607, 616, 611, 627], [606, 609, 607, 620, 621, 627], [606, 609, 607, 623, 624, 627], [606, 609, 607, 610, 611, 627], [606, 609, 607, 617, 618, 627]]), (1, []), (3, [[160, 0]]), (1, []), (1, []), (1, []), (2, []), (1, []), (3, [[142, 0]]), (1, []), (1, []), (3, [[628, 629, 630]]), (1, []), (1, [])]] = true := by decide +kernel
set_option maxRecDepth 100000 in
theorem cm_k106 : am_mk am_md am_pg 106 := ⟨am_in_mem (j := 605) (by decide +kernel), am_in_mem (j := 56) (by decide +kernel), ⟨by decide +kernel, by decide +kernel⟩, by decide +kernel⟩
set_option maxRecDepth 100000 in
theorem ck_107 : am_mok am_md am_pg 196 107 [[(1, []), (1, []), (1, []), (1, []), (3, [[142, 0]]), (1, []), (1, []), (1, []), (3, [[142, 0]]), (1, []), (1, []), (3, [[645, 603, 604]]), (1, []), (3, [[160, 0]]), (3, [[112, 0]]), (1, []), (3, [[142, 0]]), (1, []), (1, []), (1, []), (3, []), (1, []), (3, [])], [(1, [])], [(1, [])]] = true := by decide +kernel
set_option maxRecDepth 100000 in
theorem cm_k107 : am_mk am_md am_pg 107 := ⟨am_in_mem (j := 644) (by decide +kernel), am_in_mem (j := 56) (by decide +kernel), ⟨by decide +kernel, by decide +kernel⟩, by decide +kernel⟩
set_option maxRecDepth 100000 in
theorem ck_108 : am_mok am_md am_pg 196 108 [[(1, []), (1, []), (1, []), (3, [[142, 0]]), (1, []), (1, []), (1, []), (1, []), (1, []), (3, [[493, 0]]), (1, []), (1, []), (3, [[650, 651, 652], [650, 653, 651, 657, 651, 662], [650, 653, 651, 658, 651, 662], [650, 653, 651, 660, 651, 662], [650, 653, 651, 661, 651, 662], [650, 653, 651, 654, 655, 662], [650, 653, 651, 659, 651, 662]]), (1, []), (2, []), (1, []), (1, [])]] = true := by decide +kernel
set_option maxRecDepth 100000 in
theorem cm_k108 : am_mk am_md am_pg 108 := ⟨am_in_mem (j := 649) (by decide +kernel), am_in_mem (j := 56) (by decide +kernel), ⟨by decide +kernel, by decide +kernel⟩, by decide +kernel⟩
set_option maxRecDepth 100000 in
theorem ck_109 : am_mok am_md am_pg 196 109 [[(1, []), (1, []), (1, []), (3, [[675, 642, 643]]), (3, []), (1, []), (1, [])], [(1, []), (3, [[145, 0]]), (1, []), (1, []), (1, []), (3, [[676, 647, 648]]), (1, []), (1, []), (1, []), (1, []), (3, []), (1, []), (1, [])], [(1, []), (1, []), (3, []), (1, []), (1, [])], [(1, []), (1, []), (3, [[142, 0]]), (2, []), (1, []), (1, []), (1, []), (1, []), (3, [[142, 0]]), (1, []), (1, []), (3, [[677, 678, 679]]), (3, []), (1, []), (3, [])], [(1, [])], [(1, [])]] = true := by decide +kernel
set_option maxRecDepth 100000 in
theorem cm_k109 : am_mk am_md am_pg 109 := ⟨am_in_mem (j := 674) (by decide +kernel), am_in_mem (j := 56) (by decide +kernel), ⟨by decide +kernel, by decide +kernel⟩, by decide +kernel⟩
set_option maxRecDepth 100000 in
theorem ck_110 : am_mok am_md am_pg 196 110 [[(1, []), (1, []), (3, []), (1, []), (3, [[142, 0]]), (1, []), (1, []), (1, []), (3, [[160, 0]]), (3, [[116, 0]]), (3, []), (1, []), (3, [])], [(1, [])], [(1, [])]] = true := by decide +kernel
set_option maxRecDepth 100000 in
theorem cm_k110 : am_mk am_md am_pg 110 := ⟨am_in_mem (j := 680) (by decide +kernel), am_in_mem (j := 56) (by decide +kernel), ⟨by decide +kernel, by decide +kernel⟩, by decide +kernel⟩
set_option maxRecDepth 100000 in
theorem ck_111 : am_mok am_md am_pg 196 111 [[(1, []), (1, []), (1, []), (3, [[671, 672, 673]]), (1, []), (1, []), (3, []), (1, []), (1, [])], [(1, []), (3, [[142, 0]]), (2, []), (1, []), (1, []), (1, []), (1, []), (1, []), (1, []), (3, [[145, 0]]), (1, []), (1, []), (1, []), (3, [[676, 647, 648]]), (1, []), (1, []), (3, []), (1, []), (3, [[142, 0]]), (2, []), (1, []), (1, []), (1, []), (1, []), (1, [])], [(1, []), (1, []), (3, []), (1, []), (3, [[151, 0]]), (1, []), (3, [[482, 0]]), (1, []), (1, []), (1, []), (1, []), (1, [])], [(1, []), (1, []), (3, []), (1, []), (3, [[142, 0]]), (1, []), (1, []), (1, []), (1, []), (1, []), (1, []), (1, []), (3, [[142, 0]]), (1, []), (1, []), (3, []), (2, []), (3, [])], [(1, [])], [(1, []), (1, []), (1, []), (1, []), (1, [])], [(1, []), (1, [])]] = true := by decide +kernel
set_option maxRecDepth 100000 in
theorem cm_k111 : am_mk am_md am_pg 111 := ⟨am_in_mem (j := 670) (by decide +kernel), am_in_mem (j := 56) (by decide +kernel), ⟨by decide +kernel, by decide +kernel⟩, by decide +kernel⟩
set_option maxRecDepth 100000 in
theorem ck_112 : am_mok am_md am_pg 196 112 [[(1, []), (3, [[142, 0]]), (2, []), (1, []), (1, []), (1, []), (1, []), (1, []), (1, []), (3, [[142, 0]]), (2, []), (1, []), (1, []), (1, []), (3, [[142, 0]]), (1, []), (2, []), (1, []), (1, []), (3, [[142, 0]]), (2, []), (1, []), (2, []), (1, []), (3, []), (1, []), (3, [[142, 0]]), (1, []), (1, []), (1, []), (1, []), (3, [[142, 0]]), (1, []), (1, []), (1, []), (1, []), (1, []), (3, [[142, 0]]), (1, []), (1, []), (1, [])], [(1, [])]] = true := by decide +kernel
set_option maxRecDepth 100000 in
theorem cm_k112 : am_mk am_md am_pg 112 := ⟨am_in_mem (j := 688) (by decide +kernel), am_in_mem (j := 56) (by decide +kernel), ⟨by decide +kernel, by decide +kernel⟩, by decide +kernel⟩
set_option maxRecDepth 100000 in
theorem ck_113 : am_mok am_md am_pg 196 113 [[(1, []), (1, []), (1, []), (2, [])], [(2, []), (1, []), (3, [[153, 0]]), (3, []), (1, []), (2, [])], [(2, []), (2, []), (3, []), (1, []), (1, []), (3, [[148, 0]]), (2, []), (1, []), (2, []), (1, []), (1, []), (3, [[645, 603, 604]]), (1, []), (3, [[160, 0]]), (3, [[112, 0]]), (1, []), (1, []), (3, []), (3, [])], [(3, []), (3, [])], [(3, []), (3, [])], [(1, []), (1, [])]] = true := by decide +kernel
set_option maxRecDepth 100000 in
theorem cm_k113 : am_mk am_md am_pg 113 := ⟨am_in_mem (j := 712) (by decide +kernel), am_in_mem (j := 56) (by decide +kernel), ⟨by decide +kernel, by decide +kernel⟩, by decide +kernel⟩
set_option maxRecDepth 100000 in
theorem ck_114 : am_mok am_md am_pg 196 114 [[(1, []), (1, []), (1, []), (1, [])], [(1, []), (1, []), (3, [[153, 0]]), (3, []), (1, []), (1, []), (3, [[148, 0]]), (1, []), (1, []), (1, []), (3, [[675, 642, 643]]), (3, []), (3, [])], [(3, []), (3, [])], [(1, []), (1, [])]] = true := by decide +kernel
set_option maxRecDepth 100000 in
theorem cm_k114 : am_mk am_md am_pg 114 := ⟨am_in_mem (j := 724) (by decide +kernel), am_in_mem (j := 56) (by decide +kernel), ⟨by decide +kernel, by decide +kernel⟩, by decide +kernel⟩
set_option maxRecDepth 100000 in
theorem ck_115 : am_mok am_md am_pg 196 115 [[(1, []), (1, []), (1, []), (2, [])], [(2, []), (2, []), (3, []), (1, []), (1, []), (2, []), (3, [[676, 647, 648]]), (1, []), (3, []), (1, []), (1, []), (2, []), (3, [[675, 642, 643]]), (3, []), (3, [])], [(3, []), (3, [])], [(1, []), (1, [])]] = true := by decide +kernel
set_option maxRecDepth 100000 in
theorem cm_k115 : am_mk am_md am_pg 115 := ⟨am_in_mem (j := 792) (by decide +kernel), am_in_mem (j := 56) (by decide +kernel), ⟨by decide +kernel, by decide +kernel⟩, by decide +kernel⟩
set_option maxRecDepth 100000 in
theorem ck_116 : am_mok am_md am_pg 196 116 [[(1, []), (1, []), (1, []), (1, [])], [(1, []), (1, []), (3, [[153, 0]]), (3, []), (1, []), (1, []), (1, []), (3, [[148, 0]]), (1, []), (1, []), (1, []), (3, [[801, 790, 791]]), (1, []), (1, []), (3, []), (3, [])], [(1, []), (1, [])]] = true := by decide +kernel
set_option maxRecDepth 100000 in
theorem cm_k116 : am_mk am_md am_pg 116 := ⟨am_in_mem (j := 800) (by decide +kernel), am_in_mem (j := 56) (by decide +kernel), ⟨by decide +kernel, by decide +kernel⟩, by decide +kernel⟩
set_option maxRecDepth 100000 in
theorem ck_117 : am_mok am_md am_pg 196 117 [[(1, []), (1, []), (1, []), (3, [[513, 473]]), (1, [])]] = true := by decide +kernel
set_option maxRecDepth 100000 in
theorem cm_k117 : am_mk am_md am_pg 117 := ⟨am_in_mem (j := 512) (by decide +kernel), am_in_mem (j := 71) (by decide +kernel), ⟨by decide +kernel, by decide +kernel⟩, by decide +kernel⟩
set_option maxRecDepth 100000 in
theorem ck_118 : am_mok am_md am_pg 196 118 [[(1, []), (1, [])]] = true := by decide +kernel
set_option maxRecDepth 100000 in
theorem cm_k118 : am_mk am_md am_pg 118 := ⟨am_in_mem (j := 576) (by decide +kernel), am_in_mem (j := 71) (by decide +kernel), ⟨by decide +kernel, by decide +kernel⟩, by decide +kernel⟩
set_option maxRecDepth 100000 in
theorem ck_119 : am_mok am_md am_pg 196 119 [[(1, []), (1, []), (3, [[488, 489]]), (1, []), (1, []), (1, []), (1, [])]] = true := by decide +kernel
set_option maxRecDepth 100000 in
theorem cm_k119 : am_mk am_md am_pg 119 := ⟨am_in_mem (j := 622) (by decide +kernel), am_in_mem (j := 71) (by decide +kernel), ⟨by decide +kernel, by decide +kernel⟩, by decide +kernel⟩
set_option maxRecDepth 100000 in
theorem ck_120 : am_mok am_md am_pg 196 120 [[(1, []), (2, []), (3, [[877, 828, 829]]), (1, []), (1, []), (1, []), (3, [[878, 868, 870, 516, 0]]), (2, []), (1, []), (1, [])]] = true := by decide +kernel
set_option maxRecDepth 100000 in
theorem cm_k120 : am_mk am_md am_pg 120 := ⟨am_in_mem (j := 876) (by decide +kernel), am_in_mem (j := 71) (by decide +kernel), ⟨by decide +kernel, by decide +kernel⟩, by decide +kernel⟩
set_option maxRecDepth 100000 in
theorem ck_121 : am_mok am_md am_pg 196 121 [[(1, []), (3, [[240, 82, 83]]), (1, []), (2, []), (2, [[140]]), (3, [[241, 0]]), (1, [])]] = true := by decide +kernel
set_option maxRecDepth 100000 in
theorem cm_k121 : am_mk am_md am_pg 121 := ⟨am_in_mem (j := 239) (by decide +kernel), am_in_mem (j := 59) (by decide +kernel), ⟨by decide +kernel, by decide +kernel⟩, by decide +kernel⟩
set_option maxRecDepth 100000 in
theorem ck_122 : am_mok am_md am_pg 196 122 [[(1, []), (3, [[243, 0]]), (1, []), (3, [[241, 0]]), (1, []), (3, []), (1, []), (3, [[241, 0]]), (1, []), (3, [[243, 0]]), (1, []), (1, [])], [(1, []), (1, []), (3, [[243, 0]]), (1, []), (1, []), (3, [[243, 0]]), (1, [])]] = true := by decide +kernel
set_option maxRecDepth 100000 in
theorem cm_k122 : am_mk am_md am_pg 122 := ⟨am_in_mem (j := 830) (by decide +kernel), am_in_mem (j := 59) (by decide +kernel), ⟨by decide +kernel, by decide +kernel⟩, by decide +kernel⟩
set_option maxRecDepth 100000 in
theorem ck_123 : am_mok am_md am_pg 196 123 [[(1, []), (1, []), (1, []), (3, [[522, 470]]), (1, [])]] = true := by decide +kernel
set_option maxRecDepth 100000 in
theorem cm_k123 : am_mk am_md am_pg 123 := ⟨am_in_mem (j := 521) (by decide +kernel), am_in_mem (j := 72) (by decide +kernel), ⟨by decide +kernel, by decide +kernel⟩, by decide +kernel⟩
set_option maxRecDepth 100000 in
theorem ck_124 : am_mok am_md am_pg 196 124 [[(1, []), (1, [])]] = true := by decide +kernel
set_option maxRecDepth 100000 in
theorem cm_k124 : am_mk am_md am_pg 124 := ⟨am_in_mem (j := 579) (by decide +kernel), am_in_mem (j := 72) (by decide +kernel), ⟨by decide +kernel, by decide +kernel⟩, by decide +kernel⟩
