theorem dL_wires_827 : decode cL_wires 827 = .ok (.iconst 3, 1) := by decide +kernel
theorem dL_wires_828 : decode cL_wires 828 = .ok (.if_icmp .ne 50, 3) := by decide +kernel
theorem dL_wires_831 : decode cL_wires 831 = .ok (.aload_n 0, 1) := by decide +kernel
theorem dL_wires_832 : decode cL_wires 832 = .ok (.invokevirtual 75, 3) := by decide +kernel
theorem dL_wires_835 : decode cL_wires 835 = .ok (.iconst 2, 1) := by decide +kernel
theorem dL_wires_836 : decode cL_wires 836 = .ok (.if_icmp .ne 42, 3) := by decide +kernel
theorem dL_wires_839 : decode cL_wires 839 = .ok (.aload_n 0, 1) := by decide +kernel
theorem dL_wires_840 : decode cL_wires 840 = .ok (.iconst 5, 1) := by decide +kernel
theorem dL_wires_841 : decode cL_wires 841 = .ok (.invokevirtual 13, 3) := by decide +kernel
theorem dL_wires_844 : decode cL_wires 844 = .ok (.iconst 1, 1) := by decide +kernel
theorem dL_wires_845 : decode cL_wires 845 = .ok (.if_icmp .ne 33, 3) := by decide +kernel
theorem dL_wires_848 : decode cL_wires 848 = .ok (.aload_n 0, 1) := by decide +kernel
theorem dL_wires_849 : decode cL_wires 849 = .ok (.invokevirtual 75, 3) := by decide +kernel
theorem dL_wires_852 : decode cL_wires 852 = .ok (.iconst 1, 1) := by decide +kernel
theorem dL_wires_853 : decode cL_wires 853 = .ok (.if_icmp .ne 25, 3) := by decide +kernel
theorem dL_wires_856 : decode cL_wires 856 = .ok (.aload_n 0, 1) := by decide +kernel
theorem dL_wires_857 : decode cL_wires 857 = .ok (.iconst 5, 1) := by decide +kernel
theorem dL_wires_858 : decode cL_wires 858 = .ok (.invokevirtual 13, 3) := by decide +kernel
theorem dL_wires_861 : decode cL_wires 861 = .ok (.ifCond .ne 17, 3) := by decide +kernel
theorem dL_wires_864 : decode cL_wires 864 = .ok (.aload_n 0, 1) := by decide +kernel
theorem dL_wires_865 : decode cL_wires 865 = .ok (.iconst 1, 1) := by decide +kernel
theorem dL_wires_866 : decode cL_wires 866 = .ok (.invokevirtual 13, 3) := by decide +kernel
theorem dL_wires_869 : decode cL_wires 869 = .ok (.bipush 6, 2) := by decide +kernel
theorem dL_wires_871 : decode cL_wires 871 = .ok (.if_icmp .ne 7, 3) := by decide +kernel
theorem dL_wires_874 : decode cL_wires 874 = .ok (.iconst 1, 1) := by decide +kernel
theorem dL_wires_875 : decode cL_wires 875 = .ok (.goto 4, 3) := by decide +kernel
theorem dL_wires_878 : decode cL_wires 878 = .ok (.iconst 0, 1) := by decide +kernel
theorem dL_wires_879 : decode cL_wires 879 = .ok (.ireturn, 1) := by decide +kernel
set_option maxRecDepth 20000 in
theorem ggL_tool_X3_init : GoodIn wsL_tool wsX3_init := goodIn_r _ [6, 7, 8, 9, 10, 11, 12, 13, 14, 15, 16, 17, 18, 19, 20, 21, 22, 23, 24, 25, 26, 27, 28, 29, 30, 31, 32, 33, 34, 35, 36, 37, 38, 39, 40, 41, 42, 43, 44, 45, 46, 47, 48, 49, 50, 51, 52, 53, 54, 55, 351, 352, 353, 354, 355, 356, 357, 358, 359, 360, 361, 362, 345, 346, 347, 348, 349, 350, 363, 364, 365, 366, 367, 368, 369, 370, 371] (by decide +kernel) (by decide +kernel)
set_option maxRecDepth 20000 in
theorem gL_tool_X3_init : GoodIn wsL_tool (wsX3_init) := ggL_tool_X3_init
set_option maxRecDepth 20000 in
theorem ggL_tool_X3_laysLeft : GoodIn wsL_tool wsX3_laysLeft := goodIn_r _ [59, 13, 60, 61, 3, 62, 63, 64, 65, 66, 67, 68, 12, 69, 70, 71, 72, 73, 74, 75, 76, 77, 78, 345, 346, 347, 348, 349, 350, 351, 352, 353, 354, 355, 356, 357, 358, 359, 360, 361, 362] (by decide +kernel) (by decide +kernel)
set_option maxRecDepth 20000 in
theorem gL_tool_X3_laysLeft : GoodIn wsL_tool (wsV RL 26 RX3 yX3_laysLeft wsX3_laysLeft) := goodIn_app (goodIn_of _ (by decide +kernel)) ggL_tool_X3_laysLeft
set_option maxRecDepth 20000 in
set_option maxRecDepth 20000 in
theorem ggL_tool_X3_lay_c : GoodIn wsL_tool [.code yX3_lay cX3_lay 5 (some .int)] := goodIn_r _ [82] (by first | exact Eq.refl _ | decide +kernel) (by decide +kernel)
set_option maxRecDepth 20000 in
theorem ggL_tool_X3_lay_r1 : GoodIn wsL_tool wsX3_lay_r1 := goodIn_r _ [13, 20, 83, 84, 3, 85, 86, 87, 88, 60, 61, 62, 63, 64, 65, 89, 90, 91, 12, 92, 71, 70, 93, 94] (by first | exact Eq.refl _ | decide +kernel) (by decide +kernel)
set_option maxRecDepth 20000 in
theorem ggL_tool_X3_lay_r2 : GoodIn wsL_tool wsX3_lay_r2 := goodIn_r _ [95, 96, 31, 97, 98, 99, 100, 101, 102, 103, 19, 104, 46, 105, 106, 107, 108, 45, 109, 110, 111, 112, 113, 114] (by first | exact Eq.refl _ | decide +kernel) (by decide +kernel)
set_option maxRecDepth 20000 in
theorem ggL_tool_X3_lay_r3 : GoodIn wsL_tool wsX3_lay_r3 := goodIn_r _ [115, 116, 30, 117, 118, 119, 120, 32, 33, 34, 72, 35, 121, 122, 123, 124, 125, 126, 127, 128, 129, 130, 131, 132] (by first | exact Eq.refl _ | decide +kernel) (by decide +kernel)
set_option maxRecDepth 20000 in
theorem ggL_tool_X3_lay_r4 : GoodIn wsL_tool wsX3_lay_r4 := goodIn_r _ [133, 134, 135, 136, 137, 138, 139, 140, 141, 142, 143, 144, 73, 74, 75, 76, 77, 78, 145, 146, 147, 148] (by first | exact Eq.refl _ | decide +kernel) (by decide +kernel)
set_option maxRecDepth 20000 in
theorem ggL_tool_X3_lay_wsX30 : GoodIn wsL_tool wsX30 := goodIn_r _ [345, 346, 347, 348, 349, 350] (by first | exact Eq.refl _ | decide +kernel) (by decide +kernel)
set_option maxRecDepth 20000 in
theorem ggL_tool_X3_lay_wsX00 : GoodIn wsL_tool wsX00 := goodIn_r _ [351, 352, 353, 354, 355, 356, 357, 358, 359, 360, 361, 362] (by first | exact Eq.refl _ | decide +kernel) (by decide +kernel)
set_option maxRecDepth 20000 in
theorem ggL_tool_X3_lay_wsX10 : GoodIn wsL_tool wsX10 := goodIn_r _ [363, 364] (by first | exact Eq.refl _ | decide +kernel) (by decide +kernel)
theorem ggL_tool_X3_lay : GoodIn wsL_tool wsX3_lay := goodIn_app (b := ((wsX3_lay_r1 ++ (wsX3_lay_r2 ++ (wsX3_lay_r3 ++ wsX3_lay_r4))) ++ wsX30 ++ wsX00 ++ wsX10)) ggL_tool_X3_lay_c (goodIn_app (goodIn_app (goodIn_app (goodIn_app ggL_tool_X3_lay_r1 (goodIn_app ggL_tool_X3_lay_r2 (goodIn_app ggL_tool_X3_lay_r3 (ggL_tool_X3_lay_r4)))) ggL_tool_X3_lay_wsX30) ggL_tool_X3_lay_wsX00) ggL_tool_X3_lay_wsX10)
set_option maxRecDepth 20000 in
theorem gL_tool_X3_lay : GoodIn wsL_tool (wsV RL 29 RX3 yX3_lay wsX3_lay) := goodIn_app (goodIn_of _ (by decide +kernel)) ggL_tool_X3_lay
set_option maxRecDepth 20000 in
theorem ggL_tool_X3_takeOff : GoodIn wsL_tool wsX3_takeOff := goodIn_r _ [152, 13, 20, 153, 94, 95, 12, 96, 31, 84, 3, 85, 101, 102, 103, 19, 104, 46, 105, 106, 107, 108, 45, 109, 110, 111, 112, 64, 65, 113, 114, 115, 116, 30, 117, 118, 119, 120, 32, 33, 34, 72, 35, 70, 121, 71, 122, 123, 145, 146, 147, 148, 154, 155, 156, 157, 345, 346, 347, 348, 349, 350, 351, 352, 353, 354, 355, 356, 357, 358, 359, 360, 361, 362, 363, 364] (by decide +kernel) (by decide +kernel)
set_option maxRecDepth 20000 in
theorem gL_tool_X3_takeOff : GoodIn wsL_tool (wsV RL 35 RX3 yX3_takeOff wsX3_takeOff) := goodIn_app (goodIn_of _ (by decide +kernel)) ggL_tool_X3_takeOff
set_option maxRecDepth 20000 in
theorem ggL_tool_X3_thread : GoodIn wsL_tool wsX3_thread := goodIn_r _ [161, 13, 20, 101, 102, 103, 19, 104, 46, 105, 106, 107, 108, 45, 109, 110, 111, 112, 64, 3, 65, 113, 114, 115, 12, 116, 30, 117, 118, 119, 120, 31, 32, 33, 34, 72, 35, 70, 121, 71, 122, 123, 345, 346, 347, 348, 349, 350, 351, 352, 353, 354, 355, 356, 357, 358, 359, 360, 361, 362, 363, 364] (by decide +kernel) (by decide +kernel)
set_option maxRecDepth 20000 in
theorem gL_tool_X3_thread : GoodIn wsL_tool (wsV RL 85 RX3 yX3_thread wsX3_thread) := goodIn_app (goodIn_of _ (by decide +kernel)) ggL_tool_X3_thread
set_option maxRecDepth 20000 in
set_option maxRecDepth 20000 in
theorem ggL_tool_X3_count_c : GoodIn wsL_tool [.code yX3_count cX3_count 2 (some .int)] := goodIn_r _ [165] (by first | exact Eq.refl _ | decide +kernel) (by decide +kernel)
set_option maxRecDepth 20000 in
theorem ggL_tool_X3_count_r1 : GoodIn wsL_tool wsX3_count_r1 := goodIn_r _ [13, 20, 24, 166, 167, 168, 12, 169, 93, 94, 95, 96, 31, 84, 3, 85, 170, 171, 172, 173, 174, 175, 176, 177] (by first | exact Eq.refl _ | decide +kernel) (by decide +kernel)
set_option maxRecDepth 20000 in
theorem ggL_tool_X3_count_r2 : GoodIn wsL_tool wsX3_count_r2 := goodIn_r _ [178, 179, 180, 181, 30, 182, 183, 184, 185, 186, 187, 188, 189, 32, 190, 191, 192, 193, 35, 194, 195, 196, 197, 136] (by first | exact Eq.refl _ | decide +kernel) (by decide +kernel)
set_option maxRecDepth 20000 in
theorem ggL_tool_X3_count_r3 : GoodIn wsL_tool wsX3_count_r3 := goodIn_r _ [137, 134, 138, 198, 199, 200, 201, 139, 140, 202, 203, 204, 205, 206, 207, 208, 33, 209, 146, 147, 148, 210, 211, 212] (by first | exact Eq.refl _ | decide +kernel) (by decide +kernel)
set_option maxRecDepth 20000 in
theorem ggL_tool_X3_count_r4 : GoodIn wsL_tool wsX3_count_r4 := goodIn_r _ [213, 214, 215, 216, 19, 217, 46, 218, 219, 220, 23, 221, 222] (by first | exact Eq.refl _ | decide +kernel) (by decide +kernel)
set_option maxRecDepth 20000 in
theorem ggL_tool_X3_count_wsX30 : GoodIn wsL_tool wsX30 := goodIn_r _ [345, 346, 347, 348, 349, 350] (by first | exact Eq.refl _ | decide +kernel) (by decide +kernel)
set_option maxRecDepth 20000 in
theorem ggL_tool_X3_count_wsX00 : GoodIn wsL_tool wsX00 := goodIn_r _ [351, 352, 353, 354, 355, 356, 357, 358, 359, 360, 361, 362] (by first | exact Eq.refl _ | decide +kernel) (by decide +kernel)
set_option maxRecDepth 20000 in
theorem ggL_tool_X3_count_wsX10 : GoodIn wsL_tool wsX10 := goodIn_r _ [363, 364] (by first | exact Eq.refl _ | decide +kernel) (by decide +kernel)
set_option maxRecDepth 20000 in
theorem ggL_tool_X3_count_wsX20 : GoodIn wsL_tool wsX20 := goodIn_r _ [365, 366, 367, 368, 369, 370, 371] (by first | exact Eq.refl _ | decide +kernel) (by decide +kernel)
theorem ggL_tool_X3_count : GoodIn wsL_tool wsX3_count := goodIn_app (b := ((wsX3_count_r1 ++ (wsX3_count_r2 ++ (wsX3_count_r3 ++ wsX3_count_r4))) ++ wsX30 ++ wsX00 ++ wsX10 ++ wsX20)) ggL_tool_X3_count_c (goodIn_app (goodIn_app (goodIn_app (goodIn_app (goodIn_app ggL_tool_X3_count_r1 (goodIn_app ggL_tool_X3_count_r2 (goodIn_app ggL_tool_X3_count_r3 (ggL_tool_X3_count_r4)))) ggL_tool_X3_count_wsX30) ggL_tool_X3_count_wsX00) ggL_tool_X3_count_wsX10) ggL_tool_X3_count_wsX20)
set_option maxRecDepth 20000 in
theorem gL_tool_X3_count : GoodIn wsL_tool (wsV RL 13 RX3 yX3_count wsX3_count) := goodIn_app (goodIn_of _ (by decide +kernel)) ggL_tool_X3_count
set_option maxRecDepth 20000 in
theorem ggL_tool_X3_changeTool : GoodIn wsL_tool wsX3_changeTool := goodIn_r _ [226, 13, 20, 101, 102, 103, 19, 104, 46, 105, 106, 107, 108, 45, 109, 110, 111, 112, 64, 3, 65, 113, 114, 115, 12, 116, 30, 117, 118, 119, 120, 31, 32, 33, 34, 72, 35, 70, 121, 71, 122, 123, 345, 346, 347, 348, 349, 350, 351, 352, 353, 354, 355, 356, 357, 358, 359, 360, 361, 362, 363, 364] (by decide +kernel) (by decide +kernel)
set_option maxRecDepth 20000 in
theorem gL_tool_X3_changeTool : GoodIn wsL_tool (wsV RL 82 RX3 yX3_changeTool wsX3_changeTool) := goodIn_app (goodIn_of _ (by decide +kernel)) ggL_tool_X3_changeTool
set_option maxRecDepth 20000 in
theorem ggL_tool_X3_keep : GoodIn wsL_tool wsX3_keep := goodIn_r _ [230, 15, 13, 16, 231, 114, 115, 12, 116, 30, 117, 118, 119, 120, 31, 32, 33, 34, 72, 35, 70, 121, 71, 122, 123, 166, 167, 168, 169, 93, 94, 95, 96, 84, 3, 85, 345, 346, 347, 348, 349, 350, 351, 352, 353, 354, 355, 356, 357, 358, 359, 360, 361, 362] (by decide +kernel) (by decide +kernel)
set_option maxRecDepth 20000 in
theorem gL_tool_X3_keep : GoodIn wsL_tool (wsV RL 92 RX3 yX3_keep wsX3_keep) := goodIn_app (goodIn_of _ (by decide +kernel)) ggL_tool_X3_keep
set_option maxRecDepth 20000 in
theorem ggL_tool_X3_pull : GoodIn wsL_tool wsX3_pull := goodIn_r _ [235, 13, 20, 153, 94, 95, 12, 96, 31, 84, 3, 85, 63, 64, 65, 101, 102, 103, 19, 104, 46, 105, 106, 107, 108, 45, 109, 110, 111, 112, 113, 114, 115, 116, 30, 117, 118, 119, 120, 32, 33, 34, 72, 35, 70, 121, 71, 122, 123, 236, 237, 238, 239, 132, 133, 134, 135, 93, 240, 155, 156, 157, 145, 146, 147, 148, 345, 346, 347, 348, 349, 350, 351, 352, 353, 354, 355, 356, 357, 358, 359, 360, 361, 362, 363, 364] (by decide +kernel) (by decide +kernel)
set_option maxRecDepth 20000 in
theorem gL_tool_X3_pull : GoodIn wsL_tool (wsV RL 47 RX3 yX3_pull wsX3_pull) := goodIn_app (goodIn_of _ (by decide +kernel)) ggL_tool_X3_pull
set_option maxRecDepth 20000 in
theorem ggL_tool_X3_restore : GoodIn wsL_tool wsX3_restore := goodIn_r _ [244, 16, 20, 13, 15, 101, 102, 103, 19, 104, 46, 105, 106, 107, 108, 45, 109, 110, 111, 112, 64, 3, 65, 113, 114, 115, 12, 116, 30, 117, 118, 119, 120, 31, 32, 33, 34, 72, 35, 70, 121, 71, 122, 123, 231, 166, 167, 168, 169, 93, 94, 95, 96, 84, 85, 345, 346, 347, 348, 349, 350, 363, 364, 351, 352, 353, 354, 355, 356, 357, 358, 359, 360, 361, 362] (by decide +kernel) (by decide +kernel)
set_option maxRecDepth 20000 in
theorem gL_tool_X3_restore : GoodIn wsL_tool (wsV RL 79 RX3 yX3_restore wsX3_restore) := goodIn_app (goodIn_of _ (by decide +kernel)) ggL_tool_X3_restore
set_option maxRecDepth 20000 in
theorem ggL_tool_X3_wire : GoodIn wsL_tool wsX3_wire := goodIn_r _ [248, 13, 153, 94, 95, 12, 96, 31, 84, 3, 85, 249, 250, 251, 252, 253, 187, 188, 189, 32, 145, 146, 147, 148, 33, 254, 255, 256, 257, 174, 175, 176, 177, 93, 178, 179, 180, 181, 30, 258, 259, 260, 261, 190, 191, 192, 193, 35, 194, 195, 196, 197, 136, 137, 134, 138, 198, 199, 200, 201, 139, 140, 202, 203, 204, 186, 262, 263, 264, 265, 266, 267, 268, 269, 270, 271, 272, 34, 345, 346, 347, 348, 349, 350, 351, 352, 353, 354, 355, 356, 357, 358, 359, 360, 361, 362] (by decide +kernel) (by decide +kernel)
set_option maxRecDepth 20000 in
theorem gL_tool_X3_wire : GoodIn wsL_tool (wsV RL 19 RX3 yX3_wire wsX3_wire) := goodIn_app (goodIn_of _ (by decide +kernel)) ggL_tool_X3_wire
set_option maxRecDepth 20000 in
set_option maxRecDepth 20000 in
theorem ggL_tool_L_refused_c : GoodIn wsL_tool [.code yL_refused cL_refused 6 (some .boolean)] := goodIn_r _ [276] (by first | exact Eq.refl _ | decide +kernel) (by decide +kernel)
set_option maxRecDepth 20000 in
theorem ggL_tool_L_refused_r1 : GoodIn wsL_tool wsL_refused_r1 := goodIn_r _ [277, 278, 275, 279, 280, 281, 162, 163, 164, 3, 165, 13, 20, 24, 166, 167, 168, 12, 169, 93, 94, 95, 96, 31] (by first | exact Eq.refl _ | decide +kernel) (by decide +kernel)
set_option maxRecDepth 20000 in
theorem ggL_tool_L_refused_r2 : GoodIn wsL_tool wsL_refused_r2 := goodIn_r _ [84, 85, 170, 171, 172, 173, 174, 175, 176, 177, 178, 179, 180, 181, 30, 182, 183, 184, 185, 186, 187, 188, 189, 32] (by first | exact Eq.refl _ | decide +kernel) (by decide +kernel)
set_option maxRecDepth 20000 in
theorem ggL_tool_L_refused_r3 : GoodIn wsL_tool wsL_refused_r3 := goodIn_r _ [190, 191, 192, 193, 35, 194, 195, 196, 197, 136, 137, 134, 138, 198, 199, 200, 201, 139, 140, 202, 203, 204, 205, 206] (by first | exact Eq.refl _ | decide +kernel) (by decide +kernel)
set_option maxRecDepth 20000 in
theorem ggL_tool_L_refused_r4 : GoodIn wsL_tool wsL_refused_r4 := goodIn_r _ [207, 208, 33, 209, 146, 147, 148, 210, 211, 212, 213, 214, 215, 216, 19, 217, 46, 218, 219, 220, 23, 221, 222, 245] (by first | exact Eq.refl _ | decide +kernel) (by decide +kernel)
set_option maxRecDepth 20000 in
theorem ggL_tool_L_refused_r5 : GoodIn wsL_tool wsL_refused_r5 := goodIn_r _ [246, 247, 248, 153, 249, 250, 251, 252, 253, 145, 254, 255, 256, 257, 258, 259, 260, 261, 262, 263, 264, 265, 266, 267] (by first | exact Eq.refl _ | decide +kernel) (by decide +kernel)
set_option maxRecDepth 20000 in
theorem ggL_tool_L_refused_r6 : GoodIn wsL_tool wsL_refused_r6 := goodIn_r _ [268, 269, 270, 271, 272, 34, 282, 283, 284, 285, 86, 87, 88, 286, 142, 143, 144, 287, 98, 99, 100, 56, 57, 58] (by first | exact Eq.refl _ | decide +kernel) (by decide +kernel)
set_option maxRecDepth 20000 in
theorem ggL_tool_L_refused_r7 : GoodIn wsL_tool wsL_refused_r7 := goodIn_r _ [59, 60, 61, 62, 63, 64, 65, 66, 67, 68, 69, 70, 71, 72, 73, 74, 75, 76, 77, 78, 288, 289, 290, 291] (by first | exact Eq.refl _ | decide +kernel) (by decide +kernel)
set_option maxRecDepth 20000 in
theorem ggL_tool_L_refused_r8 : GoodIn wsL_tool wsL_refused_r8 := goodIn_r _ [292, 293, 294, 101, 102, 103, 104, 105, 106, 107, 108, 45, 109, 110, 111, 112, 113, 114, 115, 116, 117, 118, 119, 120] (by first | exact Eq.refl _ | decide +kernel) (by decide +kernel)
set_option maxRecDepth 20000 in
theorem ggL_tool_L_refused_r9 : GoodIn wsL_tool wsL_refused_r9 := goodIn_r _ [121, 122, 123, 295, 296, 297, 298, 232, 233, 234, 235, 236, 237, 238, 239, 132, 133, 135, 240, 155, 156, 157, 299, 300] (by first | exact Eq.refl _ | decide +kernel) (by decide +kernel)
set_option maxRecDepth 20000 in
theorem ggL_tool_L_refused_r10 : GoodIn wsL_tool wsL_refused_r10 := goodIn_r _ [301, 302, 303, 304, 305, 306, 307, 308, 309, 310, 311, 312, 313, 314, 315, 316, 317, 318, 319, 320, 321, 322, 323, 79] (by first | exact Eq.refl _ | decide +kernel) (by decide +kernel)
set_option maxRecDepth 20000 in
theorem ggL_tool_L_refused_r11 : GoodIn wsL_tool wsL_refused_r11 := goodIn_r _ [80, 81, 82, 83, 89, 90, 91, 92, 97, 124, 125, 126, 127, 128, 129, 130, 131, 141, 149, 150, 151, 152, 154, 324] (by first | exact Eq.refl _ | decide +kernel) (by decide +kernel)
set_option maxRecDepth 20000 in
theorem ggL_tool_L_refused_r12 : GoodIn wsL_tool wsL_refused_r12 := goodIn_r _ [325, 326, 327, 328, 329, 330, 331, 332, 333, 334, 335, 336, 337, 338, 339, 340, 341, 342, 343, 344] (by first | exact Eq.refl _ | decide +kernel) (by decide +kernel)
set_option maxRecDepth 20000 in
theorem ggL_tool_L_refused_wsX30 : GoodIn wsL_tool wsX30 := goodIn_r _ [345, 346, 347, 348, 349, 350] (by first | exact Eq.refl _ | decide +kernel) (by decide +kernel)
set_option maxRecDepth 20000 in
theorem ggL_tool_L_refused_wsX00 : GoodIn wsL_tool wsX00 := goodIn_r _ [351, 352, 353, 354, 355, 356, 357, 358, 359, 360, 361, 362] (by first | exact Eq.refl _ | decide +kernel) (by decide +kernel)
set_option maxRecDepth 20000 in
theorem ggL_tool_L_refused_wsX10 : GoodIn wsL_tool wsX10 := goodIn_r _ [363, 364] (by first | exact Eq.refl _ | decide +kernel) (by decide +kernel)
set_option maxRecDepth 20000 in
theorem ggL_tool_L_refused_wsX20 : GoodIn wsL_tool wsX20 := goodIn_r _ [365, 366, 367, 368, 369, 370, 371] (by first | exact Eq.refl _ | decide +kernel) (by decide +kernel)
theorem ggL_tool_L_refused : GoodIn wsL_tool wsL_refused := goodIn_app (b := ((wsL_refused_r1 ++ (wsL_refused_r2 ++ (wsL_refused_r3 ++ (wsL_refused_r4 ++ (wsL_refused_r5 ++ (wsL_refused_r6 ++ (wsL_refused_r7 ++ (wsL_refused_r8 ++ (wsL_refused_r9 ++ (wsL_refused_r10 ++ (wsL_refused_r11 ++ wsL_refused_r12))))))))))) ++ wsX30 ++ wsX00 ++ wsX10 ++ wsX20)) ggL_tool_L_refused_c (goodIn_app (goodIn_app (goodIn_app (goodIn_app (goodIn_app ggL_tool_L_refused_r1 (goodIn_app ggL_tool_L_refused_r2 (goodIn_app ggL_tool_L_refused_r3 (goodIn_app ggL_tool_L_refused_r4 (goodIn_app ggL_tool_L_refused_r5 (goodIn_app ggL_tool_L_refused_r6 (goodIn_app ggL_tool_L_refused_r7 (goodIn_app ggL_tool_L_refused_r8 (goodIn_app ggL_tool_L_refused_r9 (goodIn_app ggL_tool_L_refused_r10 (goodIn_app ggL_tool_L_refused_r11 (ggL_tool_L_refused_r12)))))))))))) ggL_tool_L_refused_wsX30) ggL_tool_L_refused_wsX00) ggL_tool_L_refused_wsX10) ggL_tool_L_refused_wsX20)
set_option maxRecDepth 20000 in
theorem gL_tool_L_refused : GoodIn wsL_tool (va_wsS RL 88 yL_refused wsL_refused) := goodIn_app (goodIn_of _ (by decide +kernel)) ggL_tool_L_refused
theorem dL_tool_0 : decode cL_tool 0 = .ok (.new 14, 3) := by decide +kernel
theorem dL_tool_3 : decode cL_tool 3 = .ok (.dup, 1) := by decide +kernel
theorem dL_tool_4 : decode cL_tool 4 = .ok (.invokespecial 74, 3) := by decide +kernel
theorem dL_tool_7 : decode cL_tool 7 = .ok (.astore_n 0, 1) := by decide +kernel
theorem dL_tool_8 : decode cL_tool 8 = .ok (.iconst 0, 1) := by decide +kernel
theorem dL_tool_9 : decode cL_tool 9 = .ok (.istore_n 1, 1) := by decide +kernel
theorem dL_tool_10 : decode cL_tool 10 = .ok (.iload_n 1, 1) := by decide +kernel
theorem dL_tool_11 : decode cL_tool 11 = .ok (.bipush 34, 2) := by decide +kernel
theorem dL_tool_13 : decode cL_tool 13 = .ok (.if_icmp .ge 109, 3) := by decide +kernel
theorem dL_tool_16 : decode cL_tool 16 = .ok (.aload_n 0, 1) := by decide +kernel
theorem dL_tool_17 : decode cL_tool 17 = .ok (.sipush 200, 3) := by decide +kernel
theorem dL_tool_20 : decode cL_tool 20 = .ok (.invokevirtual 26, 3) := by decide +kernel
theorem dL_tool_23 : decode cL_tool 23 = .ok (.bipush 33, 2) := by decide +kernel
theorem dL_tool_25 : decode cL_tool 25 = .ok (.iload_n 1, 1) := by decide +kernel
theorem dL_tool_26 : decode cL_tool 26 = .ok (.isub, 1) := by decide +kernel
theorem dL_tool_27 : decode cL_tool 27 = .ok (.bipush 6, 2) := by decide +kernel
theorem dL_tool_29 : decode cL_tool 29 = .ok (.iload_n 1, 1) := by decide +kernel
theorem dL_tool_30 : decode cL_tool 30 = .ok (.bipush 7, 2) := by decide +kernel
theorem dL_tool_32 : decode cL_tool 32 = .ok (.irem, 1) := by decide +kernel
theorem dL_tool_33 : decode cL_tool 33 = .ok (.isub, 1) := by decide +kernel
theorem dL_tool_34 : decode cL_tool 34 = .ok (.if_icmp .ge 10, 3) := by decide +kernel
theorem dL_tool_37 : decode cL_tool 37 = .ok (.bipush 34, 2) := by decide +kernel
theorem dL_tool_39 : decode cL_tool 39 = .ok (.iload_n 1, 1) := by decide +kernel
theorem dL_tool_40 : decode cL_tool 40 = .ok (.isub, 1) := by decide +kernel
theorem dL_tool_41 : decode cL_tool 41 = .ok (.goto 10, 3) := by decide +kernel
theorem dL_tool_44 : decode cL_tool 44 = .ok (.bipush 7, 2) := by decide +kernel
theorem dL_tool_46 : decode cL_tool 46 = .ok (.iload_n 1, 1) := by decide +kernel
theorem dL_tool_47 : decode cL_tool 47 = .ok (.bipush 7, 2) := by decide +kernel
theorem dL_tool_49 : decode cL_tool 49 = .ok (.irem, 1) := by decide +kernel
theorem dL_tool_50 : decode cL_tool 50 = .ok (.isub, 1) := by decide +kernel
theorem dL_tool_51 : decode cL_tool 51 = .ok (.if_icmp .ne 63, 3) := by decide +kernel
theorem dL_tool_54 : decode cL_tool 54 = .ok (.aload_n 0, 1) := by decide +kernel
theorem dL_tool_55 : decode cL_tool 55 = .ok (.iconst 0, 1) := by decide +kernel
theorem dL_tool_56 : decode cL_tool 56 = .ok (.iconst 0, 1) := by decide +kernel
theorem dL_tool_57 : decode cL_tool 57 = .ok (.sipush 200, 3) := by decide +kernel
theorem dL_tool_60 : decode cL_tool 60 = .ok (.invokevirtual 29, 3) := by decide +kernel
theorem dL_tool_63 : decode cL_tool 63 = .ok (.bipush 95, 2) := by decide +kernel
theorem dL_tool_65 : decode cL_tool 65 = .ok (.bipush 6, 2) := by decide +kernel
theorem dL_tool_67 : decode cL_tool 67 = .ok (.iload_n 1, 1) := by decide +kernel
theorem dL_tool_68 : decode cL_tool 68 = .ok (.imul, 1) := by decide +kernel
theorem dL_tool_69 : decode cL_tool 69 = .ok (.iconst 4, 1) := by decide +kernel
theorem dL_tool_70 : decode cL_tool 70 = .ok (.idiv, 1) := by decide +kernel
theorem dL_tool_71 : decode cL_tool 71 = .ok (.isub, 1) := by decide +kernel
theorem dL_tool_72 : decode cL_tool 72 = .ok (.if_icmp .ne 42, 3) := by decide +kernel
theorem dL_tool_75 : decode cL_tool 75 = .ok (.aload_n 0, 1) := by decide +kernel
theorem dL_tool_76 : decode cL_tool 76 = .ok (.iconst 0, 1) := by decide +kernel
theorem dL_tool_77 : decode cL_tool 77 = .ok (.invokevirtual 35, 3) := by decide +kernel
theorem dL_tool_80 : decode cL_tool 80 = .ok (.bipush 95, 2) := by decide +kernel
theorem dL_tool_82 : decode cL_tool 82 = .ok (.bipush 6, 2) := by decide +kernel
theorem dL_tool_84 : decode cL_tool 84 = .ok (.iload_n 1, 1) := by decide +kernel
theorem dL_tool_85 : decode cL_tool 85 = .ok (.imul, 1) := by decide +kernel
theorem dL_tool_86 : decode cL_tool 86 = .ok (.iconst 4, 1) := by decide +kernel
theorem dL_tool_87 : decode cL_tool 87 = .ok (.idiv, 1) := by decide +kernel
theorem dL_tool_88 : decode cL_tool 88 = .ok (.isub, 1) := by decide +kernel
theorem dL_tool_89 : decode cL_tool 89 = .ok (.if_icmp .ne 25, 3) := by decide +kernel
theorem dL_tool_92 : decode cL_tool 92 = .ok (.iload_n 1, 1) := by decide +kernel
theorem dL_tool_93 : decode cL_tool 93 = .ok (.bipush 7, 2) := by decide +kernel
theorem dL_tool_95 : decode cL_tool 95 = .ok (.irem, 1) := by decide +kernel
theorem dL_tool_96 : decode cL_tool 96 = .ok (.bipush 6, 2) := by decide +kernel
theorem dL_tool_98 : decode cL_tool 98 = .ok (.if_icmp .ne 18, 3) := by decide +kernel
theorem dL_tool_101 : decode cL_tool 101 = .ok (.aload_n 0, 1) := by decide +kernel
theorem dL_tool_102 : decode cL_tool 102 = .ok (.invokevirtual 85, 3) := by decide +kernel
theorem dL_tool_105 : decode cL_tool 105 = .ok (.iload_n 1, 1) := by decide +kernel
theorem dL_tool_106 : decode cL_tool 106 = .ok (.bipush 7, 2) := by decide +kernel
theorem dL_tool_108 : decode cL_tool 108 = .ok (.idiv, 1) := by decide +kernel
theorem dL_tool_109 : decode cL_tool 109 = .ok (.iconst 1, 1) := by decide +kernel
theorem dL_tool_110 : decode cL_tool 110 = .ok (.iadd, 1) := by decide +kernel
theorem dL_tool_111 : decode cL_tool 111 = .ok (.if_icmp .eq 5, 3) := by decide +kernel
theorem dL_tool_114 : decode cL_tool 114 = .ok (.iconst 0, 1) := by decide +kernel
theorem dL_tool_115 : decode cL_tool 115 = .ok (.ireturn, 1) := by decide +kernel
theorem dL_tool_116 : decode cL_tool 116 = .ok (.iinc 1 1, 3) := by decide +kernel
theorem dL_tool_119 : decode cL_tool 119 = .ok (.goto (-109), 3) := by decide +kernel
theorem dL_tool_122 : decode cL_tool 122 = .ok (.aload_n 0, 1) := by decide +kernel
theorem dL_tool_123 : decode cL_tool 123 = .ok (.iconst 0, 1) := by decide +kernel
