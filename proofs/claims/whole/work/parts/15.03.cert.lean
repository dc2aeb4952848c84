/-! The check of methods 75 .. -/
set_option maxRecDepth 100000 in
theorem ck_75 : am_mok am_md am_pg 196 75 [[(1, []), (3, [[209, 0]]), (1, []), (3, [[736, 737]]), (1, []), (3, [[209, 0]]), (1, []), (1, []), (1, []), (1, []), (1, []), (3, [[211, 0]]), (1, []), (1, []), (3, [[213, 0]]), (1, []), (3, [[155, 0]]), (3, []), (1, [])], [(1, []), (1, []), (3, [[739, 741, 15]]), (1, []), (2, [])], [(2, []), (1, []), (3, []), (2, []), (2, []), (3, []), (1, []), (2, []), (1, []), (3, [[155, 0]]), (1, []), (3, [[743, 557, 558]]), (2, []), (2, []), (3, []), (1, [])], [(1, []), (1, []), (2, []), (1, []), (3, [[745, 747, 16]]), (1, []), (1, []), (3, [[211, 0]]), (3, [[763]]), (1, []), (3, [[211, 0]]), (1, []), (1, []), (3, [[213, 0]]), (1, []), (1, []), (3, [[213, 0]]), (3, []), (3, [])], [(1, [])]] = true := by decide +kernel
set_option maxRecDepth 100000 in
theorem cm_k75 : am_mk am_md am_pg 75 := ⟨am_in_mem (j := 735) (by decide +kernel), am_in_mem (j := 58) (by decide +kernel), ⟨by decide +kernel, by decide +kernel⟩, by decide +kernel⟩
set_option maxRecDepth 100000 in
theorem ck_76 : am_mok am_md am_pg 196 76 [[(1, []), (3, [[145, 0]]), (1, []), (1, []), (1, [])], [(1, []), (1, []), (3, [[155, 0]]), (3, []), (1, []), (1, []), (3, [[743, 557, 558]]), (2, []), (1, []), (2, [])], [(2, []), (3, []), (2, []), (2, []), (3, []), (1, []), (3, [[210, 0]]), (1, []), (2, []), (1, []), (2, []), (1, []), (1, []), (3, [[163, 0]]), (2, []), (2, []), (1, []), (1, []), (1, []), (1, []), (1, []), (1, []), (1, []), (1, []), (1, []), (3, [[744, 631, 632]]), (1, []), (3, []), (3, [])], [(3, []), (3, [])], [(1, [])]] = true := by decide +kernel
set_option maxRecDepth 100000 in
theorem cm_k76 : am_mk am_md am_pg 76 := ⟨am_in_mem (j := 742) (by decide +kernel), am_in_mem (j := 58) (by decide +kernel), ⟨by decide +kernel, by decide +kernel⟩, by decide +kernel⟩
set_option maxRecDepth 100000 in
theorem ck_77 : am_mok am_md am_pg 196 77 [[(1, []), (3, [[213, 0]]), (2, [])], [(2, []), (3, []), (1, []), (1, []), (1, []), (2, []), (3, [[749, 751, 17]]), (1, []), (3, [[213, 0]]), (2, [])], [(2, []), (2, []), (3, []), (1, []), (1, []), (3, [[145, 0]]), (2, []), (1, []), (2, []), (1, []), (1, []), (1, []), (1, []), (3, [[755, 680, 681]]), (2, []), (1, []), (2, [])], [(2, []), (2, []), (2, []), (1, []), (3, []), (1, []), (3, [[145, 0]]), (1, []), (1, []), (2, []), (2, []), (1, []), (3, []), (1, []), (3, [])], [(1, [])], [(2, []), (1, []), (2, []), (2, []), (2, []), (2, []), (2, []), (3, [[756, 758, 18]]), (3, []), (3, [])], [(3, []), (3, [])], [(3, []), (3, [])], [(1, [])]] = true := by decide +kernel
set_option maxRecDepth 100000 in
theorem cm_k77 : am_mk am_md am_pg 77 := ⟨am_in_mem (j := 748) (by decide +kernel), am_in_mem (j := 58) (by decide +kernel), ⟨by decide +kernel, by decide +kernel⟩, by decide +kernel⟩
set_option maxRecDepth 100000 in
theorem ck_78 : am_mok am_md am_pg 196 78 [[(1, []), (1, []), (3, [[214, 0]]), (1, []), (1, []), (3, [[215, 0]]), (1, []), (1, []), (3, [[216, 0]]), (1, []), (1, []), (3, [[217, 0]]), (1, []), (3, [[163, 0]]), (3, [[113, 0]]), (1, []), (3, [[145, 0]]), (1, []), (1, []), (1, []), (2, []), (1, []), (2, [])], [(2, []), (2, []), (3, []), (1, []), (2, []), (1, []), (3, [[145, 0]]), (1, []), (1, []), (1, []), (1, []), (3, [[753, 609, 610], [753, 611, 609, 615, 616, 629], [753, 611, 609, 618, 613, 629], [753, 611, 609, 622, 623, 629], [753, 611, 609, 625, 626, 629], [753, 611, 609, 612, 613, 629], [753, 611, 609, 619, 620, 629]]), (1, []), (3, [[210, 0]]), (1, []), (3, [[483, 0]]), (2, []), (1, []), (2, []), (1, []), (1, []), (1, []), (2, []), (1, []), (3, [[149, 0]]), (1, []), (1, []), (2, []), (3, [[754, 649, 650]]), (1, []), (2, []), (2, []), (2, []), (3, []), (1, []), (1, []), (3, [[214, 0]]), (1, []), (1, []), (3, [[214, 0]]), (3, [])], [(2, []), (1, []), (3, []), (1, []), (1, []), (3, [[216, 0]]), (1, []), (1, []), (3, [[216, 0]]), (3, [])], [(2, []), (1, []), (3, []), (1, []), (1, []), (3, [[217, 0]]), (1, []), (1, []), (3, [[217, 0]]), (3, [])], [(1, []), (1, []), (3, [[215, 0]]), (1, []), (1, []), (3, [[215, 0]])], [(3, []), (3, [])], [(1, [])]] = true := by decide +kernel
set_option maxRecDepth 100000 in
theorem cm_k78 : am_mk am_md am_pg 78 := ⟨am_in_mem (j := 752) (by decide +kernel), am_in_mem (j := 58) (by decide +kernel), ⟨by decide +kernel, by decide +kernel⟩, by decide +kernel⟩
set_option maxRecDepth 100000 in
theorem ck_79 : am_mok am_md am_pg 196 79 [[(1, []), (1, []), (1, []), (3, [[760, 761]]), (2, []), (1, []), (3, [[209, 0]]), (2, []), (1, []), (2, []), (2, []), (1, []), (1, []), (3, []), (1, [])], [(2, []), (3, []), (1, []), (3, [[209, 0]]), (2, []), (2, []), (3, [[763]]), (1, []), (1, []), (1, [])], [(1, []), (3, [[209, 0]]), (2, []), (2, []), (1, []), (3, [[214, 0]]), (1, []), (1, []), (1, []), (1, []), (3, [[209, 0]]), (1, []), (1, []), (1, []), (1, []), (1, []), (1, []), (1, []), (3, [[760, 761]]), (1, []), (1, []), (2, []), (1, []), (3, [[217, 0]]), (1, []), (1, []), (1, []), (1, []), (1, []), (3, [[209, 0]]), (1, []), (1, []), (1, []), (1, []), (1, []), (1, []), (1, []), (3, [[760, 761]]), (1, []), (1, []), (2, []), (1, []), (3, [[216, 0]]), (1, []), (1, []), (1, []), (1, []), (2, []), (3, []), (1, []), (1, []), (1, []), (1, []), (1, []), (3, [[760, 761]]), (3, [])], [(1, []), (1, []), (1, []), (1, []), (1, []), (1, []), (1, []), (3, [[760, 761]])], [(2, []), (1, []), (3, [[209, 0]]), (2, []), (1, []), (1, []), (2, []), (1, []), (3, [[215, 0]]), (1, []), (1, []), (1, []), (1, []), (1, [])]] = true := by decide +kernel
set_option maxRecDepth 100000 in
theorem cm_k79 : am_mk am_md am_pg 79 := ⟨am_in_mem (j := 759) (by decide +kernel), am_in_mem (j := 58) (by decide +kernel), ⟨by decide +kernel, by decide +kernel⟩, by decide +kernel⟩
set_option maxRecDepth 100000 in
theorem ck_80 : am_mok am_md am_pg 196 80 [[(1, []), (1, []), (1, []), (2, [])], [(2, []), (1, []), (3, [[213, 0]]), (3, []), (1, []), (2, [])], [(2, []), (2, []), (3, []), (1, []), (2, [])], [(2, []), (2, []), (2, []), (1, []), (3, []), (1, []), (1, []), (3, [[209, 0]]), (2, []), (2, []), (2, []), (3, [[760, 761]]), (1, []), (1, []), (3, [[145, 0]]), (1, []), (2, []), (2, []), (2, []), (3, [[768, 769]]), (1, []), (1, []), (1, []), (3, []), (3, [])], [(3, []), (3, [])], [(3, []), (3, [])], [(1, []), (1, [])]] = true := by decide +kernel
set_option maxRecDepth 100000 in
theorem cm_k80 : am_mk am_md am_pg 80 := ⟨am_in_mem (j := 767) (by decide +kernel), am_in_mem (j := 58) (by decide +kernel), ⟨by decide +kernel, by decide +kernel⟩, by decide +kernel⟩
set_option maxRecDepth 100000 in
theorem ck_81 : am_mok am_md am_pg 196 81 [[(1, []), (27, [])], [(1, []), (1, []), (1, []), (1, []), (1, []), (1, []), (1, []), (1, []), (1, [])], [(1, []), (1, []), (1, []), (1, []), (1, []), (1, []), (1, [])], [(1, []), (2, []), (1, []), (1, []), (1, []), (1, []), (1, [])], [(1, []), (2, []), (1, []), (2, []), (1, []), (1, []), (1, [])]] = true := by decide +kernel
set_option maxRecDepth 100000 in
theorem cm_k81 : am_mk am_md am_pg 81 := ⟨am_in_mem (j := 770) (by decide +kernel), am_in_mem (j := 58) (by decide +kernel), ⟨by decide +kernel, by decide +kernel⟩, by decide +kernel⟩
set_option maxRecDepth 100000 in
theorem ck_82 : am_mok am_md am_pg 196 82 [[(1, []), (1, []), (1, []), (3, [[474, 475]]), (1, [])]] = true := by decide +kernel
set_option maxRecDepth 100000 in
theorem cm_k82 : am_mk am_md am_pg 82 := ⟨am_in_mem (j := 473) (by decide +kernel), am_in_mem (j := 69) (by decide +kernel), ⟨by decide +kernel, by decide +kernel⟩, by decide +kernel⟩
set_option maxRecDepth 100000 in
theorem ck_83 : am_mok am_md am_pg 196 83 [[(1, []), (1, [])]] = true := by decide +kernel
set_option maxRecDepth 100000 in
theorem cm_k83 : am_mk am_md am_pg 83 := ⟨am_in_mem (j := 569) (by decide +kernel), am_in_mem (j := 69) (by decide +kernel), ⟨by decide +kernel, by decide +kernel⟩, by decide +kernel⟩
set_option maxRecDepth 100000 in
theorem ck_84 : am_mok am_md am_pg 196 84 [[(1, []), (1, []), (1, []), (1, []), (3, [[492, 493]]), (1, []), (1, [])]] = true := by decide +kernel
set_option maxRecDepth 100000 in
theorem cm_k84 : am_mk am_md am_pg 84 := ⟨am_in_mem (j := 617) (by decide +kernel), am_in_mem (j := 69) (by decide +kernel), ⟨by decide +kernel, by decide +kernel⟩, by decide +kernel⟩
set_option maxRecDepth 100000 in
theorem ck_85 : am_mok am_md am_pg 196 85 [[(1, []), (2, []), (3, [[841, 832, 833]]), (1, []), (1, []), (1, []), (1, []), (1, []), (3, [[842, 825, 827, 500, 0]]), (1, [])]] = true := by decide +kernel
set_option maxRecDepth 100000 in
theorem cm_k85 : am_mk am_md am_pg 85 := ⟨am_in_mem (j := 840) (by decide +kernel), am_in_mem (j := 69) (by decide +kernel), ⟨by decide +kernel, by decide +kernel⟩, by decide +kernel⟩
set_option maxRecDepth 100000 in
theorem ck_86 : am_mok am_md am_pg 196 86 [[(1, []), (3, [[477, 82, 83]]), (1, []), (1, []), (3, [[478, 0]]), (1, []), (1, []), (3, [[485, 0]]), (1, [])]] = true := by decide +kernel
set_option maxRecDepth 100000 in
theorem cm_k86 : am_mk am_md am_pg 86 := ⟨am_in_mem (j := 476) (by decide +kernel), am_in_mem (j := 68) (by decide +kernel), ⟨by decide +kernel, by decide +kernel⟩, by decide +kernel⟩
set_option maxRecDepth 100000 in
theorem ck_87 : am_mok am_md am_pg 196 87 [[(1, []), (1, [])]] = true := by decide +kernel
set_option maxRecDepth 100000 in
theorem cm_k87 : am_mk am_md am_pg 87 := ⟨am_in_mem (j := 582) (by decide +kernel), am_in_mem (j := 68) (by decide +kernel), ⟨by decide +kernel, by decide +kernel⟩, by decide +kernel⟩
set_option maxRecDepth 100000 in
theorem ck_88 : am_mok am_md am_pg 196 88 [[(1, []), (1, []), (3, [[485, 0]]), (1, []), (1, [])]] = true := by decide +kernel
set_option maxRecDepth 100000 in
theorem cm_k88 : am_mk am_md am_pg 88 := ⟨am_in_mem (j := 629) (by decide +kernel), am_in_mem (j := 68) (by decide +kernel), ⟨by decide +kernel, by decide +kernel⟩, by decide +kernel⟩
set_option maxRecDepth 100000 in
theorem ck_89 : am_mok am_md am_pg 196 89 [[(1, []), (1, [])]] = true := by decide +kernel
set_option maxRecDepth 100000 in
theorem cm_k89 : am_mk am_md am_pg 89 := ⟨am_in_mem (j := 664) (by decide +kernel), am_in_mem (j := 68) (by decide +kernel), ⟨by decide +kernel, by decide +kernel⟩, by decide +kernel⟩
set_option maxRecDepth 100000 in
theorem ck_90 : am_mok am_md am_pg 196 90 [[(1, []), (1, []), (3, [[848, 832, 833]]), (1, []), (1, []), (3, [[478, 0]]), (1, []), (1, [])]] = true := by decide +kernel
set_option maxRecDepth 100000 in
theorem cm_k90 : am_mk am_md am_pg 90 := ⟨am_in_mem (j := 847) (by decide +kernel), am_in_mem (j := 68) (by decide +kernel), ⟨by decide +kernel, by decide +kernel⟩, by decide +kernel⟩
set_option maxRecDepth 100000 in
theorem ck_91 : am_mok am_md am_pg 196 91 [[(1, []), (1, []), (3, [[848, 832, 833]]), (1, []), (1, []), (1, []), (3, [[870, 825, 826], [870, 827, 825, 838, 839, 847], [870, 827, 825, 843, 825, 847], [870, 827, 825, 845, 825, 847], [870, 827, 825, 846, 839, 847], [870, 827, 825, 828, 829, 847], [870, 827, 825, 844, 825, 847]]), (1, []), (3, [[485, 0]]), (1, []), (1, [])]] = true := by decide +kernel
set_option maxRecDepth 100000 in
theorem cm_k91 : am_mk am_md am_pg 91 := ⟨am_in_mem (j := 869) (by decide +kernel), am_in_mem (j := 68) (by decide +kernel), ⟨by decide +kernel, by decide +kernel⟩, by decide +kernel⟩
set_option maxRecDepth 100000 in
theorem ck_92 : am_mok am_md am_pg 196 92 [[(1, []), (1, []), (3, [[848, 832, 833]]), (1, []), (1, []), (1, []), (3, [[896, 850, 851], [896, 852, 850, 858, 850, 869], [896, 852, 850, 859, 854, 869], [896, 852, 850, 867, 850, 869], [896, 852, 850, 868, 850, 869], [896, 852, 850, 853, 854, 869], [896, 852, 850, 860, 861, 869]]), (1, []), (1, []), (1, [])]] = true := by decide +kernel
set_option maxRecDepth 100000 in
theorem cm_k92 : am_mk am_md am_pg 92 := ⟨am_in_mem (j := 895) (by decide +kernel), am_in_mem (j := 68) (by decide +kernel), ⟨by decide +kernel, by decide +kernel⟩, by decide +kernel⟩
set_option maxRecDepth 100000 in
theorem ck_93 : am_mok am_md am_pg 196 93 [[(1, []), (1, []), (1, []), (3, [[506, 475]]), (1, [])]] = true := by decide +kernel
set_option maxRecDepth 100000 in
theorem cm_k93 : am_mk am_md am_pg 93 := ⟨am_in_mem (j := 505) (by decide +kernel), am_in_mem (j := 70) (by decide +kernel), ⟨by decide +kernel, by decide +kernel⟩, by decide +kernel⟩
set_option maxRecDepth 100000 in
theorem ck_94 : am_mok am_md am_pg 196 94 [[(1, []), (1, [])]] = true := by decide +kernel
set_option maxRecDepth 100000 in
theorem cm_k94 : am_mk am_md am_pg 94 := ⟨am_in_mem (j := 572) (by decide +kernel), am_in_mem (j := 70) (by decide +kernel), ⟨by decide +kernel, by decide +kernel⟩, by decide +kernel⟩
set_option maxRecDepth 100000 in
theorem ck_95 : am_mok am_md am_pg 196 95 [[(1, []), (1, []), (3, [[486, 487]]), (1, []), (1, []), (1, []), (1, [])]] = true := by decide +kernel
set_option maxRecDepth 100000 in
theorem cm_k95 : am_mk am_md am_pg 95 := ⟨am_in_mem (j := 614) (by decide +kernel), am_in_mem (j := 70) (by decide +kernel), ⟨by decide +kernel, by decide +kernel⟩, by decide +kernel⟩
set_option maxRecDepth 100000 in
theorem ck_96 : am_mok am_md am_pg 196 96 [[(1, []), (2, []), (3, [[856, 832, 833]]), (1, []), (1, []), (1, []), (3, [[857, 850, 852, 509, 0]]), (1, []), (1, [])]] = true := by decide +kernel
set_option maxRecDepth 100000 in
theorem cm_k96 : am_mk am_md am_pg 96 := ⟨am_in_mem (j := 855) (by decide +kernel), am_in_mem (j := 70) (by decide +kernel), ⟨by decide +kernel, by decide +kernel⟩, by decide +kernel⟩
set_option maxRecDepth 100000 in
theorem ck_97 : am_mok am_md am_pg 196 97 [[(1, []), (1, []), (1, []), (3, [[542, 513]]), (1, [])]] = true := by decide +kernel
set_option maxRecDepth 100000 in
theorem cm_k97 : am_mk am_md am_pg 97 := ⟨am_in_mem (j := 541) (by decide +kernel), am_in_mem (j := 74) (by decide +kernel), ⟨by decide +kernel, by decide +kernel⟩, by decide +kernel⟩
set_option maxRecDepth 100000 in
theorem ck_98 : am_mok am_md am_pg 196 98 [[(2, []), (1, [])]] = true := by decide +kernel
set_option maxRecDepth 100000 in
theorem cm_k98 : am_mk am_md am_pg 98 := ⟨am_in_mem (j := 575) (by decide +kernel), am_in_mem (j := 74) (by decide +kernel), ⟨by decide +kernel, by decide +kernel⟩, by decide +kernel⟩
set_option maxRecDepth 100000 in
theorem ck_99 : am_mok am_md am_pg 196 99 [[(1, []), (1, []), (3, [[488, 489]]), (1, []), (1, []), (1, []), (1, []), (1, []), (1, [])]] = true := by decide +kernel
set_option maxRecDepth 100000 in
theorem cm_k99 : am_mk am_md am_pg 99 := ⟨am_in_mem (j := 621) (by decide +kernel), am_in_mem (j := 74) (by decide +kernel), ⟨by decide +kernel, by decide +kernel⟩, by decide +kernel⟩
