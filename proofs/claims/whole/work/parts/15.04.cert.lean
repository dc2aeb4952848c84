/-! The check of methods 100 .. -/
set_option maxRecDepth 100000 in
theorem ck_100 : am_mok am_md am_pg 196 100 [[(1, []), (2, []), (3, [[863, 832, 833]]), (1, []), (1, []), (1, []), (3, [[864, 850, 865, 545, 518]]), (1, []), (3, [[488, 489]]), (1, []), (1, [])]] = true := by decide +kernel
set_option maxRecDepth 100000 in
theorem cm_k100 : am_mk am_md am_pg 100 := ⟨am_in_mem (j := 862) (by decide +kernel), am_in_mem (j := 74) (by decide +kernel), ⟨by decide +kernel, by decide +kernel⟩, by decide +kernel⟩
set_option maxRecDepth 100000 in
theorem ck_101 : am_mok am_md am_pg 196 101 [[(1, []), (3, [[89, 82, 83]]), (1, []), (3, [[90]]), (3, [[92, 93, 94, 95, 96]]), (3, [[98]]), (3, [[144, 0]]), (1, []), (2, []), (2, [[142]]), (3, [[147, 0]]), (1, []), (1, []), (3, [[99]]), (3, [[150, 0]]), (1, []), (1, []), (2, [[142]]), (3, [[152, 0]]), (1, []), (2, []), (2, [[143]]), (3, [[157, 0]]), (1, []), (3, [[101, 102, 57]]), (1, []), (3, [[0, 104]]), (3, [[161, 0]]), (1, []), (2, []), (2, [[142]]), (3, [[166, 0]]), (1, []), (2, []), (2, [[142]]), (3, [[168, 0]]), (1, []), (2, []), (2, [[142]]), (3, [[170, 0]]), (1, [])]] = true := by decide +kernel
set_option maxRecDepth 100000 in
theorem cm_k101 : am_mk am_md am_pg 101 := ⟨am_in_mem (j := 88) (by decide +kernel), am_in_mem (j := 56) (by decide +kernel), ⟨by decide +kernel, by decide +kernel⟩, by decide +kernel⟩
set_option maxRecDepth 100000 in
theorem ck_102 : am_mok am_md am_pg 196 102 [[(1, []), (3, [[144, 0]]), (1, []), (1, []), (3, [[144, 0]]), (1, []), (1, []), (3, [[144, 0]]), (1, []), (3, [[818, 461, 460, 67]]), (1, []), (3, [[147, 0]]), (1, []), (1, []), (3, [[147, 0]]), (1, []), (1, []), (3, [[147, 0]]), (1, []), (3, [[818, 461, 460, 67]]), (1, []), (1, [])], [(1, []), (1, []), (3, [[150, 0]]), (1, []), (3, []), (1, []), (3, [[150, 0]]), (1, []), (1, []), (3, [[150, 0]]), (1, []), (1, []), (1, []), (3, []), (3, [])], [(1, []), (3, [[152, 0]]), (1, []), (1, []), (3, [[152, 0]]), (1, []), (1, []), (3, [[152, 0]]), (1, []), (3, [[818, 461, 460, 67]]), (1, []), (1, []), (3, [[154, 0]]), (3, [[154, 0]]), (1, []), (3, [[157, 0]]), (1, []), (1, []), (3, [[157, 0]]), (1, []), (1, []), (3, [[160, 0]]), (3, [[818, 461, 460, 67]]), (1, []), (1, []), (3, [[160, 0]]), (3, [[160, 0]]), (1, []), (3, [[161, 0]]), (1, []), (3, [[161, 0]]), (3, [[819, 456, 457]]), (1, []), (1, []), (3, [[164, 0]]), (3, [[164, 0]]), (1, []), (3, [[166, 0]]), (1, []), (1, []), (3, [[166, 0]]), (1, []), (1, []), (3, [[172, 0]]), (3, [[818, 461, 460, 67]]), (1, []), (3, [[168, 0]]), (1, []), (1, []), (3, [[168, 0]]), (1, []), (1, []), (3, [[172, 0]]), (3, [[818, 461, 460, 67]]), (1, []), (3, [[170, 0]]), (1, []), (1, []), (3, [[170, 0]]), (1, []), (1, []), (3, [[172, 0]]), (3, [[818, 461, 460, 67]]), (1, []), (1, []), (3, [[172, 0]]), (3, [[172, 0]]), (1, [])]] = true := by decide +kernel
set_option maxRecDepth 100000 in
theorem cm_k102 : am_mk am_md am_pg 102 := ⟨am_in_mem (j := 817) (by decide +kernel), am_in_mem (j := 56) (by decide +kernel), ⟨by decide +kernel, by decide +kernel⟩, by decide +kernel⟩
set_option maxRecDepth 100000 in
theorem ck_103 : am_mok am_md am_pg 196 103 [[(1, []), (3, []), (1, []), (1, []), (3, [[154, 0]]), (3, []), (1, []), (3, [[150, 0]]), (1, []), (1, []), (3, [])], [(1, [])], [(1, [])]] = true := by decide +kernel
set_option maxRecDepth 100000 in
theorem cm_k103 : am_mk am_md am_pg 103 := ⟨am_in_mem (j := 559) (by decide +kernel), am_in_mem (j := 56) (by decide +kernel), ⟨by decide +kernel, by decide +kernel⟩, by decide +kernel⟩
set_option maxRecDepth 100000 in
theorem ck_104 : am_mok am_md am_pg 196 104 [[(1, []), (3, []), (1, []), (1, []), (1, []), (3, [])], [(1, []), (3, [[154, 0]]), (1, []), (1, [])], [(1, [])]] = true := by decide +kernel
set_option maxRecDepth 100000 in
theorem cm_k104 : am_mk am_md am_pg 104 := ⟨am_in_mem (j := 788) (by decide +kernel), am_in_mem (j := 56) (by decide +kernel), ⟨by decide +kernel, by decide +kernel⟩, by decide +kernel⟩
set_option maxRecDepth 100000 in
theorem ck_105 : am_mok am_md am_pg 196 105 [[(1, []), (1, []), (1, []), (1, [])], [(1, []), (1, []), (3, [[154, 0]]), (3, []), (1, []), (1, []), (3, [[152, 0]]), (1, []), (1, []), (1, []), (1, []), (3, []), (3, [])], [(1, []), (1, [])]] = true := by decide +kernel
set_option maxRecDepth 100000 in
theorem cm_k105 : am_mk am_md am_pg 105 := ⟨am_in_mem (j := 784) (by decide +kernel), am_in_mem (j := 56) (by decide +kernel), ⟨by decide +kernel, by decide +kernel⟩, by decide +kernel⟩
set_option maxRecDepth 100000 in
theorem ck_106 : am_mok am_md am_pg 196 106 [[(1, []), (1, []), (1, []), (3, [[144, 0]]), (1, []), (1, []), (3, [[608, 609, 610], [608, 611, 609, 615, 616, 629], [608, 611, 609, 618, 613, 629], [608, 611, 609, 622, 623, 629], [608, 611, 609, 625, 626, 629], [608, 611, 609, 612, 613, 629], [608, 611, 609, 619, 620, 629]]), (1, []), (3, [[161, 0]]), (1, []), (1, []), (1, []), (2, []), (1, []), (3, [[144, 0]]), (1, []), (1, []), (3, [[630, 631, 632]]), (1, []), (1, [])]] = true := by decide +kernel
set_option maxRecDepth 100000 in
theorem cm_k106 : am_mk am_md am_pg 106 := ⟨am_in_mem (j := 607) (by decide +kernel), am_in_mem (j := 56) (by decide +kernel), ⟨by decide +kernel, by decide +kernel⟩, by decide +kernel⟩
set_option maxRecDepth 100000 in
theorem ck_107 : am_mok am_md am_pg 196 107 [[(1, []), (1, []), (1, []), (1, []), (3, [[144, 0]]), (1, []), (1, []), (1, []), (3, [[144, 0]]), (1, []), (1, []), (3, [[647, 605, 606]]), (1, []), (3, [[161, 0]]), (3, [[114, 0]]), (1, []), (3, [[144, 0]]), (1, []), (1, []), (1, []), (3, []), (1, []), (3, [])], [(1, [])], [(1, [])]] = true := by decide +kernel
set_option maxRecDepth 100000 in
theorem cm_k107 : am_mk am_md am_pg 107 := ⟨am_in_mem (j := 646) (by decide +kernel), am_in_mem (j := 56) (by decide +kernel), ⟨by decide +kernel, by decide +kernel⟩, by decide +kernel⟩
set_option maxRecDepth 100000 in
theorem ck_108 : am_mok am_md am_pg 196 108 [[(1, []), (1, []), (1, []), (3, [[144, 0]]), (1, []), (1, []), (1, []), (1, []), (1, []), (3, [[495, 0]]), (1, []), (1, []), (3, [[652, 653, 654], [652, 655, 653, 659, 653, 664], [652, 655, 653, 660, 653, 664], [652, 655, 653, 662, 653, 664], [652, 655, 653, 663, 653, 664], [652, 655, 653, 656, 657, 664], [652, 655, 653, 661, 653, 664]]), (1, []), (2, []), (1, []), (1, [])]] = true := by decide +kernel
set_option maxRecDepth 100000 in
theorem cm_k108 : am_mk am_md am_pg 108 := ⟨am_in_mem (j := 651) (by decide +kernel), am_in_mem (j := 56) (by decide +kernel), ⟨by decide +kernel, by decide +kernel⟩, by decide +kernel⟩
set_option maxRecDepth 100000 in
theorem ck_109 : am_mok am_md am_pg 196 109 [[(1, []), (1, []), (1, []), (3, [[677, 644, 645]]), (3, []), (1, []), (1, [])], [(1, []), (3, [[147, 0]]), (1, []), (1, []), (1, []), (3, [[678, 649, 650]]), (1, []), (1, []), (1, []), (1, []), (3, []), (1, []), (1, [])], [(1, []), (1, []), (3, []), (1, []), (1, [])], [(1, []), (1, []), (3, [[144, 0]]), (2, []), (1, []), (1, []), (1, []), (1, []), (3, [[144, 0]]), (1, []), (1, []), (3, [[679, 680, 681]]), (3, []), (1, []), (3, [])], [(1, [])], [(1, [])]] = true := by decide +kernel
set_option maxRecDepth 100000 in
theorem cm_k109 : am_mk am_md am_pg 109 := ⟨am_in_mem (j := 676) (by decide +kernel), am_in_mem (j := 56) (by decide +kernel), ⟨by decide +kernel, by decide +kernel⟩, by decide +kernel⟩
set_option maxRecDepth 100000 in
theorem ck_110 : am_mok am_md am_pg 196 110 [[(1, []), (1, []), (3, []), (1, []), (3, [[144, 0]]), (1, []), (1, []), (1, []), (3, [[161, 0]]), (3, [[118, 0]]), (3, []), (1, []), (3, [])], [(1, [])], [(1, [])]] = true := by decide +kernel
set_option maxRecDepth 100000 in
theorem cm_k110 : am_mk am_md am_pg 110 := ⟨am_in_mem (j := 682) (by decide +kernel), am_in_mem (j := 56) (by decide +kernel), ⟨by decide +kernel, by decide +kernel⟩, by decide +kernel⟩
set_option maxRecDepth 100000 in
theorem ck_111 : am_mok am_md am_pg 196 111 [[(1, []), (1, []), (1, []), (3, [[673, 674, 675]]), (1, []), (1, []), (3, []), (1, []), (1, [])], [(1, []), (3, [[144, 0]]), (2, []), (1, []), (1, []), (1, []), (1, []), (1, []), (1, []), (3, [[147, 0]]), (1, []), (1, []), (1, []), (3, [[678, 649, 650]]), (1, []), (1, []), (3, []), (1, []), (3, [[144, 0]]), (2, []), (1, []), (1, []), (1, []), (1, []), (1, [])], [(1, []), (1, []), (3, []), (1, []), (3, [[152, 0]]), (1, []), (3, [[484, 0]]), (1, []), (1, []), (1, []), (1, []), (1, [])], [(1, []), (1, []), (3, []), (1, []), (3, [[144, 0]]), (1, []), (1, []), (1, []), (1, []), (1, []), (1, []), (1, []), (3, [[144, 0]]), (1, []), (1, []), (3, []), (2, []), (3, [])], [(1, [])], [(1, []), (1, []), (1, []), (1, []), (1, [])], [(1, []), (1, [])]] = true := by decide +kernel
set_option maxRecDepth 100000 in
theorem cm_k111 : am_mk am_md am_pg 111 := ⟨am_in_mem (j := 672) (by decide +kernel), am_in_mem (j := 56) (by decide +kernel), ⟨by decide +kernel, by decide +kernel⟩, by decide +kernel⟩
set_option maxRecDepth 100000 in
theorem ck_112 : am_mok am_md am_pg 196 112 [[(1, []), (3, [[144, 0]]), (2, []), (1, []), (1, []), (1, []), (1, []), (1, []), (1, []), (3, [[144, 0]]), (2, []), (1, []), (1, []), (1, []), (3, [[144, 0]]), (1, []), (2, []), (1, []), (1, []), (3, [[144, 0]]), (2, []), (1, []), (2, []), (1, []), (3, []), (1, []), (3, [[144, 0]]), (1, []), (1, []), (1, []), (1, []), (3, [[144, 0]]), (1, []), (1, []), (1, []), (1, []), (1, []), (3, [[144, 0]]), (1, []), (1, []), (1, [])], [(1, [])]] = true := by decide +kernel
set_option maxRecDepth 100000 in
theorem cm_k112 : am_mk am_md am_pg 112 := ⟨am_in_mem (j := 690) (by decide +kernel), am_in_mem (j := 56) (by decide +kernel), ⟨by decide +kernel, by decide +kernel⟩, by decide +kernel⟩
set_option maxRecDepth 100000 in
theorem ck_113 : am_mok am_md am_pg 196 113 [[(1, []), (1, []), (1, []), (2, [])], [(2, []), (1, []), (3, [[154, 0]]), (3, []), (1, []), (2, []), (3, [[715, 557, 558]]), (2, []), (1, []), (2, [])], [(2, []), (3, []), (2, []), (2, []), (3, []), (1, []), (2, []), (2, []), (1, []), (1, []), (3, [[647, 605, 606]]), (1, []), (3, [[161, 0]]), (3, [[114, 0]]), (1, []), (1, []), (3, []), (3, [])], [(3, []), (3, [])], [(3, []), (3, [])], [(1, []), (1, [])]] = true := by decide +kernel
set_option maxRecDepth 100000 in
theorem cm_k113 : am_mk am_md am_pg 113 := ⟨am_in_mem (j := 714) (by decide +kernel), am_in_mem (j := 56) (by decide +kernel), ⟨by decide +kernel, by decide +kernel⟩, by decide +kernel⟩
set_option maxRecDepth 100000 in
theorem ck_114 : am_mok am_md am_pg 196 114 [[(1, []), (1, []), (1, []), (1, [])], [(1, []), (1, []), (3, [[154, 0]]), (3, []), (1, []), (1, []), (3, [[715, 557, 558]]), (2, []), (2, []), (3, []), (1, []), (2, []), (1, []), (3, [[677, 644, 645]]), (3, []), (3, [])], [(3, []), (3, [])], [(1, []), (1, [])]] = true := by decide +kernel
set_option maxRecDepth 100000 in
theorem cm_k114 : am_mk am_md am_pg 114 := ⟨am_in_mem (j := 727) (by decide +kernel), am_in_mem (j := 56) (by decide +kernel), ⟨by decide +kernel, by decide +kernel⟩, by decide +kernel⟩
set_option maxRecDepth 100000 in
theorem ck_115 : am_mok am_md am_pg 196 115 [[(1, []), (1, []), (1, []), (2, [])], [(2, []), (2, []), (3, []), (1, []), (1, []), (2, []), (3, [[678, 649, 650]]), (1, []), (3, []), (1, []), (1, []), (2, []), (3, [[677, 644, 645]]), (3, []), (3, [])], [(3, []), (3, [])], [(1, []), (1, [])]] = true := by decide +kernel
set_option maxRecDepth 100000 in
theorem cm_k115 : am_mk am_md am_pg 115 := ⟨am_in_mem (j := 796) (by decide +kernel), am_in_mem (j := 56) (by decide +kernel), ⟨by decide +kernel, by decide +kernel⟩, by decide +kernel⟩
set_option maxRecDepth 100000 in
theorem ck_116 : am_mok am_md am_pg 196 116 [[(1, []), (1, []), (1, []), (1, [])], [(1, []), (1, []), (3, [[154, 0]]), (3, []), (1, []), (1, []), (3, [[715, 557, 558]]), (2, []), (2, []), (3, []), (1, []), (1, []), (2, []), (1, []), (3, [[805, 794, 795]]), (1, []), (1, [])], [(3, []), (3, [])], [(1, []), (1, [])]] = true := by decide +kernel
set_option maxRecDepth 100000 in
theorem cm_k116 : am_mk am_md am_pg 116 := ⟨am_in_mem (j := 804) (by decide +kernel), am_in_mem (j := 56) (by decide +kernel), ⟨by decide +kernel, by decide +kernel⟩, by decide +kernel⟩
set_option maxRecDepth 100000 in
theorem ck_117 : am_mok am_md am_pg 196 117 [[(1, []), (1, []), (1, []), (3, [[515, 475]]), (1, [])]] = true := by decide +kernel
set_option maxRecDepth 100000 in
theorem cm_k117 : am_mk am_md am_pg 117 := ⟨am_in_mem (j := 514) (by decide +kernel), am_in_mem (j := 71) (by decide +kernel), ⟨by decide +kernel, by decide +kernel⟩, by decide +kernel⟩
set_option maxRecDepth 100000 in
theorem ck_118 : am_mok am_md am_pg 196 118 [[(1, []), (1, [])]] = true := by decide +kernel
set_option maxRecDepth 100000 in
theorem cm_k118 : am_mk am_md am_pg 118 := ⟨am_in_mem (j := 578) (by decide +kernel), am_in_mem (j := 71) (by decide +kernel), ⟨by decide +kernel, by decide +kernel⟩, by decide +kernel⟩
set_option maxRecDepth 100000 in
theorem ck_119 : am_mok am_md am_pg 196 119 [[(1, []), (1, []), (3, [[490, 491]]), (1, []), (1, []), (1, []), (1, [])]] = true := by decide +kernel
set_option maxRecDepth 100000 in
theorem cm_k119 : am_mk am_md am_pg 119 := ⟨am_in_mem (j := 624) (by decide +kernel), am_in_mem (j := 71) (by decide +kernel), ⟨by decide +kernel, by decide +kernel⟩, by decide +kernel⟩
set_option maxRecDepth 100000 in
theorem ck_120 : am_mok am_md am_pg 196 120 [[(1, []), (2, []), (3, [[881, 832, 833]]), (1, []), (1, []), (1, []), (3, [[882, 872, 874, 518, 0]]), (2, []), (1, []), (1, [])]] = true := by decide +kernel
set_option maxRecDepth 100000 in
theorem cm_k120 : am_mk am_md am_pg 120 := ⟨am_in_mem (j := 880) (by decide +kernel), am_in_mem (j := 71) (by decide +kernel), ⟨by decide +kernel, by decide +kernel⟩, by decide +kernel⟩
set_option maxRecDepth 100000 in
theorem ck_121 : am_mok am_md am_pg 196 121 [[(1, []), (3, [[241, 82, 83]]), (1, []), (2, []), (2, [[142]]), (3, [[242, 0]]), (1, [])]] = true := by decide +kernel
set_option maxRecDepth 100000 in
theorem cm_k121 : am_mk am_md am_pg 121 := ⟨am_in_mem (j := 240) (by decide +kernel), am_in_mem (j := 59) (by decide +kernel), ⟨by decide +kernel, by decide +kernel⟩, by decide +kernel⟩
set_option maxRecDepth 100000 in
theorem ck_122 : am_mok am_md am_pg 196 122 [[(1, []), (3, [[244, 0]]), (1, []), (3, [[242, 0]]), (1, []), (3, []), (1, []), (3, [[242, 0]]), (1, []), (3, [[244, 0]]), (1, []), (1, [])], [(1, []), (1, []), (3, [[244, 0]]), (1, []), (1, []), (3, [[244, 0]]), (1, [])]] = true := by decide +kernel
set_option maxRecDepth 100000 in
theorem cm_k122 : am_mk am_md am_pg 122 := ⟨am_in_mem (j := 834) (by decide +kernel), am_in_mem (j := 59) (by decide +kernel), ⟨by decide +kernel, by decide +kernel⟩, by decide +kernel⟩
set_option maxRecDepth 100000 in
theorem ck_123 : am_mok am_md am_pg 196 123 [[(1, []), (1, []), (1, []), (3, [[524, 472]]), (1, [])]] = true := by decide +kernel
set_option maxRecDepth 100000 in
theorem cm_k123 : am_mk am_md am_pg 123 := ⟨am_in_mem (j := 523) (by decide +kernel), am_in_mem (j := 72) (by decide +kernel), ⟨by decide +kernel, by decide +kernel⟩, by decide +kernel⟩
set_option maxRecDepth 100000 in
theorem ck_124 : am_mok am_md am_pg 196 124 [[(1, []), (1, [])]] = true := by decide +kernel
set_option maxRecDepth 100000 in
theorem cm_k124 : am_mk am_md am_pg 124 := ⟨am_in_mem (j := 581) (by decide +kernel), am_in_mem (j := 72) (by decide +kernel), ⟨by decide +kernel, by decide +kernel⟩, by decide +kernel⟩
