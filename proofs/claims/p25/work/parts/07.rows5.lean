set_option maxRecDepth 20000 in
theorem ggL_tool_X3_lay : GoodIn wsL_tool wsX3_lay := goodIn_r _ [82, 13, 20, 83, 84, 3, 85, 86, 87, 88, 60, 61, 62, 63, 64, 65, 89, 90, 91, 12, 92, 71, 70, 93, 94, 95, 96, 31, 97, 98, 99, 100, 101, 102, 103, 19, 104, 46, 105, 106, 107, 108, 45, 109, 110, 111, 112, 113, 114, 115, 116, 30, 117, 118, 119, 120, 32, 33, 34, 72, 35, 121, 122, 123, 124, 125, 126, 127, 128, 129, 130, 131, 132, 133, 134, 135, 136, 137, 138, 139, 140, 141, 142, 143, 144, 73, 74, 75, 76, 77, 78, 145, 146, 147, 148, 345, 346, 347, 348, 349, 350, 351, 352, 353, 354, 355, 356, 357, 358, 359, 360, 361, 362, 363, 364] (by decide +kernel) (by decide +kernel)
set_option maxRecDepth 20000 in
theorem gL_tool_X3_lay : GoodIn wsL_tool (wsV RL 29 RX3 yX3_lay wsX3_lay) := goodIn_app (goodIn_of _ (by decide +kernel)) ggL_tool_X3_lay
set_option maxRecDepth 20000 in
theorem ggL_tool_X3_takeOff : GoodIn wsL_tool wsX3_takeOff := goodIn_r _ [152, 13, 20, 153, 94, 95, 12, 96, 31, 84, 3, 85, 101, 102, 103, 19, 104, 46, 105, 106, 107, 108, 45, 109, 110, 111, 112, 64, 65, 113, 114, 115, 116, 30, 117, 118, 119, 120, 32, 33, 34, 72, 35, 70, 121, 71, 122, 123, 145, 146, 147, 148, 154, 155, 156, 157, 345, 346, 347, 348, 349, 350, 351, 352, 353, 354, 355, 356, 357, 358, 359, 360, 361, 362, 363, 364] (by decide +kernel) (by decide +kernel)
set_option maxRecDepth 20000 in
theorem gL_tool_X3_takeOff : GoodIn wsL_tool (wsV RL 35 RX3 yX3_takeOff wsX3_takeOff) := goodIn_app (goodIn_of _ (by decide +kernel)) ggL_tool_X3_takeOff
set_option maxRecDepth 20000 in
theorem ggL_tool_X3_thread : GoodIn wsL_tool wsX3_thread := goodIn_r _ [161, 13, 20, 101, 102, 103, 19, 104, 46, 105, 106, 107, 108, 45, 109, 110, 111, 112, 64, 3, 65, 113, 114, 115, 12, 116, 30, 117, 118, 119, 120, 31, 32, 33, 34, 72, 35, 70, 121, 71, 122, 123, 345, 346, 347, 348, 349, 350, 351, 352, 353, 354, 355, 356, 357, 358, 359, 360, 361, 362, 363, 364] (by decide +kernel) (by decide +kernel)
set_option maxRecDepth 20000 in
theorem gL_tool_X3_thread : GoodIn wsL_tool (wsV RL 85 RX3 yX3_thread wsX3_thread) := goodIn_app (goodIn_of _ (by decide +kernel)) ggL_tool_X3_thread
set_option maxRecDepth 20000 in
theorem ggL_tool_X3_count : GoodIn wsL_tool wsX3_count := goodIn_r _ [165, 13, 20, 24, 166, 167, 168, 12, 169, 93, 94, 95, 96, 31, 84, 3, 85, 170, 171, 172, 173, 174, 175, 176, 177, 178, 179, 180, 181, 30, 182, 183, 184, 185, 186, 187, 188, 189, 32, 190, 191, 192, 193, 35, 194, 195, 196, 197, 136, 137, 134, 138, 198, 199, 200, 201, 139, 140, 202, 203, 204, 205, 206, 207, 208, 33, 209, 146, 147, 148, 210, 211, 212, 213, 214, 215, 216, 19, 217, 46, 218, 219, 220, 23, 221, 222, 345, 346, 347, 348, 349, 350, 351, 352, 353, 354, 355, 356, 357, 358, 359, 360, 361, 362, 363, 364, 365, 366, 367, 368, 369, 370, 371] (by decide +kernel) (by decide +kernel)
set_option maxRecDepth 20000 in
theorem gL_tool_X3_count : GoodIn wsL_tool (wsV RL 13 RX3 yX3_count wsX3_count) := goodIn_app (goodIn_of _ (by decide +kernel)) ggL_tool_X3_count
set_option maxRecDepth 20000 in
theorem ggL_tool_X3_changeTool : GoodIn wsL_tool wsX3_changeTool := goodIn_r _ [226, 13, 20, 101, 102, 103, 19, 104, 46, 105, 106, 107, 108, 45, 109, 110, 111, 112, 64, 3, 65, 113, 114, 115, 12, 116, 30, 117, 118, 119, 120, 31, 32, 33, 34, 72, 35, 70, 121, 71, 122, 123, 345, 346, 347, 348, 349, 350, 351, 352, 353, 354, 355, 356, 357, 358, 359, 360, 361, 362, 363, 364] (by decide +kernel) (by decide +kernel)
set_option maxRecDepth 20000 in
theorem gL_tool_X3_changeTool : GoodIn wsL_tool (wsV RL 82 RX3 yX3_changeTool wsX3_changeTool) := goodIn_app (goodIn_of _ (by decide +kernel)) ggL_tool_X3_changeTool
set_option maxRecDepth 20000 in
theorem ggL_tool_X3_keep : GoodIn wsL_tool wsX3_keep := goodIn_r _ [230, 15, 13, 16, 231, 114, 115, 12, 116, 30, 117, 118, 119, 120, 31, 32, 33, 34, 72, 35, 70, 121, 71, 122, 123, 166, 167, 168, 169, 93, 94, 95, 96, 84, 3, 85, 345, 346, 347, 348, 349, 350, 351, 352, 353, 354, 355, 356, 357, 358, 359, 360, 361, 362] (by decide +kernel) (by decide +kernel)
set_option maxRecDepth 20000 in
theorem gL_tool_X3_keep : GoodIn wsL_tool (wsV RL 92 RX3 yX3_keep wsX3_keep) := goodIn_app (goodIn_of _ (by decide +kernel)) ggL_tool_X3_keep
set_option maxRecDepth 20000 in
theorem ggL_tool_X3_pull : GoodIn wsL_tool wsX3_pull := goodIn_r _ [235, 13, 20, 153, 94, 95, 12, 96, 31, 84, 3, 85, 63, 64, 65, 101, 102, 103, 19, 104, 46, 105, 106, 107, 108, 45, 109, 110, 111, 112, 113, 114, 115, 116, 30, 117, 118, 119, 120, 32, 33, 34, 72, 35, 70, 121, 71, 122, 123, 236, 237, 238, 239, 132, 133, 134, 135, 93, 240, 155, 156, 157, 145, 146, 147, 148, 345, 346, 347, 348, 349, 350, 351, 352, 353, 354, 355, 356, 357, 358, 359, 360, 361, 362, 363, 364] (by decide +kernel) (by decide +kernel)
set_option maxRecDepth 20000 in
theorem gL_tool_X3_pull : GoodIn wsL_tool (wsV RL 47 RX3 yX3_pull wsX3_pull) := goodIn_app (goodIn_of _ (by decide +kernel)) ggL_tool_X3_pull
set_option maxRecDepth 20000 in
theorem ggL_tool_X3_restore : GoodIn wsL_tool wsX3_restore := goodIn_r _ [244, 16, 20, 13, 15, 101, 102, 103, 19, 104, 46, 105, 106, 107, 108, 45, 109, 110, 111, 112, 64, 3, 65, 113, 114, 115, 12, 116, 30, 117, 118, 119, 120, 31, 32, 33, 34, 72, 35, 70, 121, 71, 122, 123, 231, 166, 167, 168, 169, 93, 94, 95, 96, 84, 85, 345, 346, 347, 348, 349, 350, 363, 364, 351, 352, 353, 354, 355, 356, 357, 358, 359, 360, 361, 362] (by decide +kernel) (by decide +kernel)
set_option maxRecDepth 20000 in
theorem gL_tool_X3_restore : GoodIn wsL_tool (wsV RL 79 RX3 yX3_restore wsX3_restore) := goodIn_app (goodIn_of _ (by decide +kernel)) ggL_tool_X3_restore
set_option maxRecDepth 20000 in
theorem ggL_tool_X3_wire : GoodIn wsL_tool wsX3_wire := goodIn_r _ [248, 13, 153, 94, 95, 12, 96, 31, 84, 3, 85, 249, 250, 251, 252, 253, 187, 188, 189, 32, 145, 146, 147, 148, 33, 254, 255, 256, 257, 174, 175, 176, 177, 93, 178, 179, 180, 181, 30, 258, 259, 260, 261, 190, 191, 192, 193, 35, 194, 195, 196, 197, 136, 137, 134, 138, 198, 199, 200, 201, 139, 140, 202, 203, 204, 186, 262, 263, 264, 265, 266, 267, 268, 269, 270, 271, 272, 34, 345, 346, 347, 348, 349, 350, 351, 352, 353, 354, 355, 356, 357, 358, 359, 360, 361, 362] (by decide +kernel) (by decide +kernel)
set_option maxRecDepth 20000 in
theorem gL_tool_X3_wire : GoodIn wsL_tool (wsV RL 19 RX3 yX3_wire wsX3_wire) := goodIn_app (goodIn_of _ (by decide +kernel)) ggL_tool_X3_wire
set_option maxRecDepth 20000 in
theorem ggL_tool_L_refused : GoodIn wsL_tool wsL_refused := goodIn_r _ [276, 277, 278, 275, 279, 280, 281, 162, 163, 164, 3, 165, 13, 20, 24, 166, 167, 168, 12, 169, 93, 94, 95, 96, 31, 84, 85, 170, 171, 172, 173, 174, 175, 176, 177, 178, 179, 180, 181, 30, 182, 183, 184, 185, 186, 187, 188, 189, 32, 190, 191, 192, 193, 35, 194, 195, 196, 197, 136, 137, 134, 138, 198, 199, 200, 201, 139, 140, 202, 203, 204, 205, 206, 207, 208, 33, 209, 146, 147, 148, 210, 211, 212, 213, 214, 215, 216, 19, 217, 46, 218, 219, 220, 23, 221, 222, 245, 246, 247, 248, 153, 249, 250, 251, 252, 253, 145, 254, 255, 256, 257, 258, 259, 260, 261, 262, 263, 264, 265, 266, 267, 268, 269, 270, 271, 272, 34, 282, 283, 284, 285, 86, 87, 88, 286, 142, 143, 144, 287, 98, 99, 100, 56, 57, 58, 59, 60, 61, 62, 63, 64, 65, 66, 67, 68, 69, 70, 71, 72, 73, 74, 75, 76, 77, 78, 288, 289, 290, 291, 292, 293, 294, 101, 102, 103, 104, 105, 106, 107, 108, 45, 109, 110, 111, 112, 113, 114, 115, 116, 117, 118, 119, 120, 121, 122, 123, 295, 296, 297, 298, 232, 233, 234, 235, 236, 237, 238, 239, 132, 133, 135, 240, 155, 156, 157, 299, 300, 301, 302, 303, 304, 305, 306, 307, 308, 309, 310, 311, 312, 313, 314, 315, 316, 317, 318, 319, 320, 321, 322, 323, 79, 80, 81, 82, 83, 89, 90, 91, 92, 97, 124, 125, 126, 127, 128, 129, 130, 131, 141, 149, 150, 151, 152, 154, 324, 325, 326, 327, 328, 329, 330, 331, 332, 333, 334, 335, 336, 337, 338, 339, 340, 341, 342, 343, 344, 345, 346, 347, 348, 349, 350, 351, 352, 353, 354, 355, 356, 357, 358, 359, 360, 361, 362, 363, 364, 365, 366, 367, 368, 369, 370, 371] (by decide +kernel) (by decide +kernel)
set_option maxRecDepth 20000 in
theorem gL_tool_L_refused : GoodIn wsL_tool (va_wsS RL 88 yL_refused wsL_refused) := goodIn_app (goodIn_of _ (by decide +kernel)) ggL_tool_L_refused
theorem dL_tool_0 : decode cL_tool 0 = .ok (.new 14, 3) := by decide +kernel
theorem dL_tool_3 : decode cL_tool 3 = .ok (.dup, 1) := by decide +kernel
theorem dL_tool_4 : decode cL_tool 4 = .ok (.invokespecial 74, 3) := by decide +kernel
theorem dL_tool_7 : decode cL_tool 7 = .ok (.astore_n 0, 1) := by decide +kernel
theorem dL_tool_8 : decode cL_tool 8 = .ok (.iconst 0, 1) := by decide +kernel
theorem dL_tool_9 : decode cL_tool 9 = .ok (.istore_n 1, 1) := by decide +kernel
theorem dL_tool_10 : decode cL_tool 10 = .ok (.iload_n 1, 1) := by decide +kernel
theorem dL_tool_11 : decode cL_tool 11 = .ok (.bipush 34, 2) := by decide +kernel
theorem dL_tool_13 : decode cL_tool 13 = .ok (.if_icmp .ge 109, 3) := by decide +kernel
theorem dL_tool_16 : decode cL_tool 16 = .ok (.aload_n 0, 1) := by decide +kernel
theorem dL_tool_17 : decode cL_tool 17 = .ok (.sipush 200, 3) := by decide +kernel
theorem dL_tool_20 : decode cL_tool 20 = .ok (.invokevirtual 26, 3) := by decide +kernel
theorem dL_tool_23 : decode cL_tool 23 = .ok (.bipush 33, 2) := by decide +kernel
theorem dL_tool_25 : decode cL_tool 25 = .ok (.iload_n 1, 1) := by decide +kernel
theorem dL_tool_26 : decode cL_tool 26 = .ok (.isub, 1) := by decide +kernel
theorem dL_tool_27 : decode cL_tool 27 = .ok (.bipush 6, 2) := by decide +kernel
theorem dL_tool_29 : decode cL_tool 29 = .ok (.iload_n 1, 1) := by decide +kernel
theorem dL_tool_30 : decode cL_tool 30 = .ok (.bipush 7, 2) := by decide +kernel
theorem dL_tool_32 : decode cL_tool 32 = .ok (.irem, 1) := by decide +kernel
theorem dL_tool_33 : decode cL_tool 33 = .ok (.isub, 1) := by decide +kernel
theorem dL_tool_34 : decode cL_tool 34 = .ok (.if_icmp .ge 10, 3) := by decide +kernel
theorem dL_tool_37 : decode cL_tool 37 = .ok (.bipush 34, 2) := by decide +kernel
theorem dL_tool_39 : decode cL_tool 39 = .ok (.iload_n 1, 1) := by decide +kernel
theorem dL_tool_40 : decode cL_tool 40 = .ok (.isub, 1) := by decide +kernel
theorem dL_tool_41 : decode cL_tool 41 = .ok (.goto 10, 3) := by decide +kernel
theorem dL_tool_44 : decode cL_tool 44 = .ok (.bipush 7, 2) := by decide +kernel
theorem dL_tool_46 : decode cL_tool 46 = .ok (.iload_n 1, 1) := by decide +kernel
theorem dL_tool_47 : decode cL_tool 47 = .ok (.bipush 7, 2) := by decide +kernel
theorem dL_tool_49 : decode cL_tool 49 = .ok (.irem, 1) := by decide +kernel
theorem dL_tool_50 : decode cL_tool 50 = .ok (.isub, 1) := by decide +kernel
theorem dL_tool_51 : decode cL_tool 51 = .ok (.if_icmp .ne 63, 3) := by decide +kernel
theorem dL_tool_54 : decode cL_tool 54 = .ok (.aload_n 0, 1) := by decide +kernel
theorem dL_tool_55 : decode cL_tool 55 = .ok (.iconst 0, 1) := by decide +kernel
theorem dL_tool_56 : decode cL_tool 56 = .ok (.iconst 0, 1) := by decide +kernel
theorem dL_tool_57 : decode cL_tool 57 = .ok (.sipush 200, 3) := by decide +kernel
theorem dL_tool_60 : decode cL_tool 60 = .ok (.invokevirtual 29, 3) := by decide +kernel
theorem dL_tool_63 : decode cL_tool 63 = .ok (.bipush 95, 2) := by decide +kernel
theorem dL_tool_65 : decode cL_tool 65 = .ok (.bipush 6, 2) := by decide +kernel
theorem dL_tool_67 : decode cL_tool 67 = .ok (.iload_n 1, 1) := by decide +kernel
theorem dL_tool_68 : decode cL_tool 68 = .ok (.imul, 1) := by decide +kernel
theorem dL_tool_69 : decode cL_tool 69 = .ok (.iconst 4, 1) := by decide +kernel
theorem dL_tool_70 : decode cL_tool 70 = .ok (.idiv, 1) := by decide +kernel
theorem dL_tool_71 : decode cL_tool 71 = .ok (.isub, 1) := by decide +kernel
theorem dL_tool_72 : decode cL_tool 72 = .ok (.if_icmp .ne 42, 3) := by decide +kernel
theorem dL_tool_75 : decode cL_tool 75 = .ok (.aload_n 0, 1) := by decide +kernel
theorem dL_tool_76 : decode cL_tool 76 = .ok (.iconst 0, 1) := by decide +kernel
theorem dL_tool_77 : decode cL_tool 77 = .ok (.invokevirtual 35, 3) := by decide +kernel
theorem dL_tool_80 : decode cL_tool 80 = .ok (.bipush 95, 2) := by decide +kernel
theorem dL_tool_82 : decode cL_tool 82 = .ok (.bipush 6, 2) := by decide +kernel
theorem dL_tool_84 : decode cL_tool 84 = .ok (.iload_n 1, 1) := by decide +kernel
theorem dL_tool_85 : decode cL_tool 85 = .ok (.imul, 1) := by decide +kernel
theorem dL_tool_86 : decode cL_tool 86 = .ok (.iconst 4, 1) := by decide +kernel
theorem dL_tool_87 : decode cL_tool 87 = .ok (.idiv, 1) := by decide +kernel
theorem dL_tool_88 : decode cL_tool 88 = .ok (.isub, 1) := by decide +kernel
theorem dL_tool_89 : decode cL_tool 89 = .ok (.if_icmp .ne 25, 3) := by decide +kernel
theorem dL_tool_92 : decode cL_tool 92 = .ok (.iload_n 1, 1) := by decide +kernel
theorem dL_tool_93 : decode cL_tool 93 = .ok (.bipush 7, 2) := by decide +kernel
theorem dL_tool_95 : decode cL_tool 95 = .ok (.irem, 1) := by decide +kernel
theorem dL_tool_96 : decode cL_tool 96 = .ok (.bipush 6, 2) := by decide +kernel
theorem dL_tool_98 : decode cL_tool 98 = .ok (.if_icmp .ne 18, 3) := by decide +kernel
theorem dL_tool_101 : decode cL_tool 101 = .ok (.aload_n 0, 1) := by decide +kernel
theorem dL_tool_102 : decode cL_tool 102 = .ok (.invokevirtual 85, 3) := by decide +kernel
theorem dL_tool_105 : decode cL_tool 105 = .ok (.iload_n 1, 1) := by decide +kernel
theorem dL_tool_106 : decode cL_tool 106 = .ok (.bipush 7, 2) := by decide +kernel
theorem dL_tool_108 : decode cL_tool 108 = .ok (.idiv, 1) := by decide +kernel
theorem dL_tool_109 : decode cL_tool 109 = .ok (.iconst 1, 1) := by decide +kernel
theorem dL_tool_110 : decode cL_tool 110 = .ok (.iadd, 1) := by decide +kernel
theorem dL_tool_111 : decode cL_tool 111 = .ok (.if_icmp .eq 5, 3) := by decide +kernel
theorem dL_tool_114 : decode cL_tool 114 = .ok (.iconst 0, 1) := by decide +kernel
theorem dL_tool_115 : decode cL_tool 115 = .ok (.ireturn, 1) := by decide +kernel
theorem dL_tool_116 : decode cL_tool 116 = .ok (.iinc 1 1, 3) := by decide +kernel
theorem dL_tool_119 : decode cL_tool 119 = .ok (.goto (-109), 3) := by decide +kernel
theorem dL_tool_122 : decode cL_tool 122 = .ok (.aload_n 0, 1) := by decide +kernel
theorem dL_tool_123 : decode cL_tool 123 = .ok (.iconst 0, 1) := by decide +kernel
theorem dL_tool_124 : decode cL_tool 124 = .ok (.iconst 0, 1) := by decide +kernel
theorem dL_tool_125 : decode cL_tool 125 = .ok (.sipush 200, 3) := by decide +kernel
theorem dL_tool_128 : decode cL_tool 128 = .ok (.invokevirtual 29, 3) := by decide +kernel
theorem dL_tool_131 : decode cL_tool 131 = .ok (.bipush (-7), 2) := by decide +kernel
theorem dL_tool_133 : decode cL_tool 133 = .ok (.if_icmp .ne 109, 3) := by decide +kernel
theorem dL_tool_136 : decode cL_tool 136 = .ok (.aload_n 0, 1) := by decide +kernel
theorem dL_tool_137 : decode cL_tool 137 = .ok (.bipush 10, 2) := by decide +kernel
theorem dL_tool_139 : decode cL_tool 139 = .ok (.invokevirtual 26, 3) := by decide +kernel
theorem dL_tool_142 : decode cL_tool 142 = .ok (.ifCond .ne 100, 3) := by decide +kernel
theorem dL_tool_145 : decode cL_tool 145 = .ok (.aload_n 0, 1) := by decide +kernel
theorem dL_tool_146 : decode cL_tool 146 = .ok (.iconst 4, 1) := by decide +kernel
theorem dL_tool_147 : decode cL_tool 147 = .ok (.invokevirtual 13, 3) := by decide +kernel
theorem dL_tool_150 : decode cL_tool 150 = .ok (.sipush 204, 3) := by decide +kernel
theorem dL_tool_153 : decode cL_tool 153 = .ok (.if_icmp .ne 89, 3) := by decide +kernel
theorem dL_tool_156 : decode cL_tool 156 = .ok (.aload_n 0, 1) := by decide +kernel
theorem dL_tool_157 : decode cL_tool 157 = .ok (.invokevirtual 82, 3) := by decide +kernel
theorem dL_tool_160 : decode cL_tool 160 = .ok (.sipush 204, 3) := by decide +kernel
theorem dL_tool_163 : decode cL_tool 163 = .ok (.if_icmp .ne 79, 3) := by decide +kernel
theorem dL_tool_166 : decode cL_tool 166 = .ok (.aload_n 0, 1) := by decide +kernel
theorem dL_tool_167 : decode cL_tool 167 = .ok (.invokevirtual 82, 3) := by decide +kernel
theorem dL_tool_170 : decode cL_tool 170 = .ok (.bipush (-5), 2) := by decide +kernel
theorem dL_tool_172 : decode cL_tool 172 = .ok (.if_icmp .ne 70, 3) := by decide +kernel
theorem dL_tool_175 : decode cL_tool 175 = .ok (.aload_n 0, 1) := by decide +kernel
theorem dL_tool_176 : decode cL_tool 176 = .ok (.bipush 11, 2) := by decide +kernel
theorem dL_tool_178 : decode cL_tool 178 = .ok (.invokevirtual 13, 3) := by decide +kernel
theorem dL_tool_181 : decode cL_tool 181 = .ok (.iconst 1, 1) := by decide +kernel
theorem dL_tool_182 : decode cL_tool 182 = .ok (.if_icmp .ne 60, 3) := by decide +kernel
theorem dL_tool_185 : decode cL_tool 185 = .ok (.aload_n 0, 1) := by decide +kernel
theorem dL_tool_186 : decode cL_tool 186 = .ok (.bipush 10, 2) := by decide +kernel
theorem dL_tool_188 : decode cL_tool 188 = .ok (.invokevirtual 26, 3) := by decide +kernel
theorem dL_tool_191 : decode cL_tool 191 = .ok (.iconst 1, 1) := by decide +kernel
theorem dL_tool_192 : decode cL_tool 192 = .ok (.if_icmp .ne 50, 3) := by decide +kernel
theorem dL_tool_195 : decode cL_tool 195 = .ok (.aload_n 0, 1) := by decide +kernel
theorem dL_tool_196 : decode cL_tool 196 = .ok (.bipush 11, 2) := by decide +kernel
theorem dL_tool_198 : decode cL_tool 198 = .ok (.iconst 0, 1) := by decide +kernel
theorem dL_tool_199 : decode cL_tool 199 = .ok (.bipush 49, 2) := by decide +kernel
theorem dL_tool_201 : decode cL_tool 201 = .ok (.invokevirtual 29, 3) := by decide +kernel
theorem dL_tool_204 : decode cL_tool 204 = .ok (.bipush 84, 2) := by decide +kernel
theorem dL_tool_206 : decode cL_tool 206 = .ok (.if_icmp .ne 36, 3) := by decide +kernel
theorem dL_tool_209 : decode cL_tool 209 = .ok (.aload_n 0, 1) := by decide +kernel
theorem dL_tool_210 : decode cL_tool 210 = .ok (.iconst 4, 1) := by decide +kernel
theorem dL_tool_211 : decode cL_tool 211 = .ok (.invokevirtual 13, 3) := by decide +kernel
theorem dL_tool_214 : decode cL_tool 214 = .ok (.iconst 2, 1) := by decide +kernel
theorem dL_tool_215 : decode cL_tool 215 = .ok (.if_icmp .ne 27, 3) := by decide +kernel
theorem dL_tool_218 : decode cL_tool 218 = .ok (.aload_n 0, 1) := by decide +kernel
theorem dL_tool_219 : decode cL_tool 219 = .ok (.bipush 10, 2) := by decide +kernel
theorem dL_tool_221 : decode cL_tool 221 = .ok (.iconst 1, 1) := by decide +kernel
theorem dL_tool_222 : decode cL_tool 222 = .ok (.bipush 50, 2) := by decide +kernel
theorem dL_tool_224 : decode cL_tool 224 = .ok (.invokevirtual 29, 3) := by decide +kernel
theorem dL_tool_227 : decode cL_tool 227 = .ok (.bipush (-6), 2) := by decide +kernel
theorem dL_tool_229 : decode cL_tool 229 = .ok (.if_icmp .ne 13, 3) := by decide +kernel
theorem dL_tool_232 : decode cL_tool 232 = .ok (.aload_n 0, 1) := by decide +kernel
theorem dL_tool_233 : decode cL_tool 233 = .ok (.bipush 6, 2) := by decide +kernel
theorem dL_tool_235 : decode cL_tool 235 = .ok (.invokevirtual 13, 3) := by decide +kernel
theorem dL_tool_238 : decode cL_tool 238 = .ok (.iconst 5, 1) := by decide +kernel
theorem dL_tool_239 : decode cL_tool 239 = .ok (.if_icmp .eq 5, 3) := by decide +kernel
theorem dL_tool_242 : decode cL_tool 242 = .ok (.iconst 0, 1) := by decide +kernel
theorem dL_tool_243 : decode cL_tool 243 = .ok (.ireturn, 1) := by decide +kernel
theorem dL_tool_244 : decode cL_tool 244 = .ok (.aload_n 0, 1) := by decide +kernel
theorem dL_tool_245 : decode cL_tool 245 = .ok (.invokevirtual 85, 3) := by decide +kernel
theorem dL_tool_248 : decode cL_tool 248 = .ok (.iconst 5, 1) := by decide +kernel
theorem dL_tool_249 : decode cL_tool 249 = .ok (.if_icmp .ne 101, 3) := by decide +kernel
theorem dL_tool_252 : decode cL_tool 252 = .ok (.aload_n 0, 1) := by decide +kernel
theorem dL_tool_253 : decode cL_tool 253 = .ok (.iconst 0, 1) := by decide +kernel
theorem dL_tool_254 : decode cL_tool 254 = .ok (.bipush 15, 2) := by decide +kernel
theorem dL_tool_256 : decode cL_tool 256 = .ok (.bipush 50, 2) := by decide +kernel
theorem dL_tool_258 : decode cL_tool 258 = .ok (.invokevirtual 29, 3) := by decide +kernel
theorem dL_tool_261 : decode cL_tool 261 = .ok (.bipush 75, 2) := by decide +kernel
theorem dL_tool_263 : decode cL_tool 263 = .ok (.if_icmp .ne 87, 3) := by decide +kernel
theorem dL_tool_266 : decode cL_tool 266 = .ok (.aload_n 0, 1) := by decide +kernel
theorem dL_tool_267 : decode cL_tool 267 = .ok (.invokevirtual 92, 3) := by decide +kernel
theorem dL_tool_270 : decode cL_tool 270 = .ok (.iconst 2, 1) := by decide +kernel
theorem dL_tool_271 : decode cL_tool 271 = .ok (.if_icmp .ne 79, 3) := by decide +kernel
theorem dL_tool_274 : decode cL_tool 274 = .ok (.aload_n 0, 1) := by decide +kernel
theorem dL_tool_275 : decode cL_tool 275 = .ok (.iconst 0, 1) := by decide +kernel
theorem dL_tool_276 : decode cL_tool 276 = .ok (.invokevirtual 35, 3) := by decide +kernel
theorem dL_tool_279 : decode cL_tool 279 = .ok (.bipush 75, 2) := by decide +kernel
theorem dL_tool_281 : decode cL_tool 281 = .ok (.if_icmp .ne 69, 3) := by decide +kernel
theorem dL_tool_284 : decode cL_tool 284 = .ok (.aload_n 0, 1) := by decide +kernel
theorem dL_tool_285 : decode cL_tool 285 = .ok (.bipush 11, 2) := by decide +kernel
theorem dL_tool_287 : decode cL_tool 287 = .ok (.bipush 84, 2) := by decide +kernel
theorem dL_tool_289 : decode cL_tool 289 = .ok (.invokevirtual 47, 3) := by decide +kernel
theorem dL_tool_292 : decode cL_tool 292 = .ok (.bipush 76, 2) := by decide +kernel
theorem dL_tool_294 : decode cL_tool 294 = .ok (.if_icmp .ne 56, 3) := by decide +kernel
theorem dL_tool_297 : decode cL_tool 297 = .ok (.aload_n 0, 1) := by decide +kernel
theorem dL_tool_298 : decode cL_tool 298 = .ok (.bipush 11, 2) := by decide +kernel
theorem dL_tool_300 : decode cL_tool 300 = .ok (.bipush 77, 2) := by decide +kernel
theorem dL_tool_302 : decode cL_tool 302 = .ok (.invokevirtual 47, 3) := by decide +kernel
theorem dL_tool_305 : decode cL_tool 305 = .ok (.sipush 1000, 3) := by decide +kernel
theorem dL_tool_308 : decode cL_tool 308 = .ok (.if_icmp .ne 42, 3) := by decide +kernel
theorem dL_tool_311 : decode cL_tool 311 = .ok (.aload_n 0, 1) := by decide +kernel
theorem dL_tool_312 : decode cL_tool 312 = .ok (.iconst 0, 1) := by decide +kernel
theorem dL_tool_313 : decode cL_tool 313 = .ok (.invokevirtual 13, 3) := by decide +kernel
theorem dL_tool_316 : decode cL_tool 316 = .ok (.ifCond .ne 34, 3) := by decide +kernel
theorem dL_tool_319 : decode cL_tool 319 = .ok (.aload_n 0, 1) := by decide +kernel
theorem dL_tool_320 : decode cL_tool 320 = .ok (.invokevirtual 79, 3) := by decide +kernel
theorem dL_tool_323 : decode cL_tool 323 = .ok (.iconst 2, 1) := by decide +kernel
theorem dL_tool_324 : decode cL_tool 324 = .ok (.if_icmp .ne 26, 3) := by decide +kernel
theorem dL_tool_327 : decode cL_tool 327 = .ok (.aload_n 0, 1) := by decide +kernel
theorem dL_tool_328 : decode cL_tool 328 = .ok (.bipush 11, 2) := by decide +kernel
theorem dL_tool_330 : decode cL_tool 330 = .ok (.iconst 2, 1) := by decide +kernel
theorem dL_tool_331 : decode cL_tool 331 = .ok (.invokevirtual 19, 3) := by decide +kernel
theorem dL_tool_334 : decode cL_tool 334 = .ok (.bipush 84, 2) := by decide +kernel
theorem dL_tool_336 : decode cL_tool 336 = .ok (.if_icmp .ne 14, 3) := by decide +kernel
theorem dL_tool_339 : decode cL_tool 339 = .ok (.aload_n 0, 1) := by decide +kernel
theorem dL_tool_340 : decode cL_tool 340 = .ok (.invokestatic 88, 3) := by decide +kernel
theorem dL_tool_343 : decode cL_tool 343 = .ok (.ifCond .eq 7, 3) := by decide +kernel
theorem dL_tool_346 : decode cL_tool 346 = .ok (.iconst 1, 1) := by decide +kernel
theorem dL_tool_347 : decode cL_tool 347 = .ok (.goto 4, 3) := by decide +kernel
theorem dL_tool_350 : decode cL_tool 350 = .ok (.iconst 0, 1) := by decide +kernel
theorem dL_tool_351 : decode cL_tool 351 = .ok (.ireturn, 1) := by decide +kernel
set_option maxRecDepth 20000 in
theorem ggL_types_X3_type : GoodIn wsL_types wsX3_type := goodIn_r _ [6, 7, 8, 9, 10, 11, 12, 13, 14, 15, 16, 17, 18, 19, 20, 21, 22, 23, 24, 25, 26, 27, 28, 29, 30, 31] (by decide +kernel) (by decide +kernel)
set_option maxRecDepth 20000 in
theorem gL_types_X3_type : GoodIn wsL_types (wsV RL 97 RX3 yX3_type wsX3_type) := goodIn_app (goodIn_of _ (by decide +kernel)) ggL_types_X3_type
theorem dL_types_0 : decode cL_types 0 = .ok (.iconst 1, 1) := by decide +kernel
theorem dL_types_1 : decode cL_types 1 = .ok (.istore_n 3, 1) := by decide +kernel
theorem dL_types_2 : decode cL_types 2 = .ok (.bipush 56, 2) := by decide +kernel
theorem dL_types_4 : decode cL_types 4 = .ok (.istore 4, 2) := by decide +kernel
theorem dL_types_6 : decode cL_types 6 = .ok (.iload 4, 2) := by decide +kernel
theorem dL_types_8 : decode cL_types 8 = .ok (.ifCond .lt 45, 3) := by decide +kernel
theorem dL_types_11 : decode cL_types 11 = .ok (.lload_n 1, 1) := by decide +kernel
theorem dL_types_12 : decode cL_types 12 = .ok (.iload 4, 2) := by decide +kernel
theorem dL_types_14 : decode cL_types 14 = .ok (.lshr, 1) := by decide +kernel
theorem dL_types_15 : decode cL_types 15 = .ok (.ldc2_w 95, 3) := by decide +kernel
theorem dL_types_18 : decode cL_types 18 = .ok (.land, 1) := by decide +kernel
theorem dL_types_19 : decode cL_types 19 = .ok (.l2i, 1) := by decide +kernel
theorem dL_types_20 : decode cL_types 20 = .ok (.istore 5, 2) := by decide +kernel
theorem dL_types_22 : decode cL_types 22 = .ok (.iload_n 3, 1) := by decide +kernel
theorem dL_types_23 : decode cL_types 23 = .ok (.ifCond .eq 22, 3) := by decide +kernel
theorem dL_types_26 : decode cL_types 26 = .ok (.iload 5, 2) := by decide +kernel
theorem dL_types_28 : decode cL_types 28 = .ok (.ifCond .eq 13, 3) := by decide +kernel
theorem dL_types_31 : decode cL_types 31 = .ok (.aload_n 0, 1) := by decide +kernel
theorem dL_types_32 : decode cL_types 32 = .ok (.iload 5, 2) := by decide +kernel
theorem dL_types_34 : decode cL_types 34 = .ok (.i2c, 1) := by decide +kernel
theorem dL_types_35 : decode cL_types 35 = .ok (.invokevirtual 97, 3) := by decide +kernel
theorem dL_types_38 : decode cL_types 38 = .ok (.ifCond .le 7, 3) := by decide +kernel
theorem dL_types_41 : decode cL_types 41 = .ok (.iconst 1, 1) := by decide +kernel
theorem dL_types_42 : decode cL_types 42 = .ok (.goto 4, 3) := by decide +kernel
theorem dL_types_45 : decode cL_types 45 = .ok (.iconst 0, 1) := by decide +kernel
theorem dL_types_46 : decode cL_types 46 = .ok (.istore_n 3, 1) := by decide +kernel
theorem dL_types_47 : decode cL_types 47 = .ok (.iinc 4 (-8), 3) := by decide +kernel
theorem dL_types_50 : decode cL_types 50 = .ok (.goto (-44), 3) := by decide +kernel
theorem dL_types_53 : decode cL_types 53 = .ok (.iload_n 3, 1) := by decide +kernel
theorem dL_types_54 : decode cL_types 54 = .ok (.ireturn, 1) := by decide +kernel
set_option maxRecDepth 20000 in
theorem ggL_told_X3_init : GoodIn wsL_told wsX3_init := goodIn_r _ [6, 7, 8, 9, 10, 11, 12, 13, 14, 15, 16, 17, 18, 19, 20, 21, 22, 23, 24, 25, 26, 27, 28, 29, 30, 31, 32, 33, 34, 35, 36, 37, 38, 39, 40, 41, 42, 43, 44, 45, 46, 47, 48, 49, 50, 51, 52, 53, 54, 55, 273, 274, 275, 276, 277, 278, 279, 280, 281, 282, 283, 284, 267, 268, 269, 270, 271, 272, 285, 286, 287, 288, 289, 290, 291, 292, 293] (by decide +kernel) (by decide +kernel)
set_option maxRecDepth 20000 in
theorem gL_told_X3_init : GoodIn wsL_told (wsX3_init) := ggL_told_X3_init
set_option maxRecDepth 20000 in
theorem ggL_told_L_types : GoodIn wsL_told wsL_types := goodIn_r _ [59, 60, 61, 62, 63, 3, 64, 24, 65, 66, 67, 23, 68, 69, 52, 70, 71, 72, 73, 267, 268, 269, 270, 271, 272, 287, 288, 289, 290, 291, 292, 293] (by decide +kernel) (by decide +kernel)
set_option maxRecDepth 20000 in
theorem gL_told_L_types : GoodIn wsL_told (va_wsS RL 101 yL_types wsL_types) := goodIn_app (goodIn_of _ (by decide +kernel)) ggL_told_L_types
set_option maxRecDepth 20000 in
theorem ggL_told_X3_layAll : GoodIn wsL_told wsX3_layAll := goodIn_r _ [77, 24, 14, 13, 20, 78, 79, 80, 23, 81, 82, 83, 69, 84, 85, 86, 87, 53, 54, 55, 88, 89, 90, 91, 92, 93, 94, 95, 52, 96, 97, 98, 99, 100, 3, 101, 102, 103, 104, 105, 106, 107, 108, 109, 110, 111, 112, 113, 114, 115, 116, 12, 117, 30, 118, 119, 120, 121, 31, 32, 33, 34, 122, 35, 123, 124, 125, 126, 127, 128, 129, 130, 131, 132, 133, 134, 135, 136, 137, 138, 139, 140, 141, 142, 143, 144, 145, 146, 147, 148, 149, 150, 151, 152, 153, 154, 155, 156, 157, 158, 159, 160, 161, 162, 163, 164, 165, 166, 167, 168, 169, 170, 171, 172, 173, 174, 175, 176, 177, 178, 179, 180, 181, 182, 183, 184, 185, 186, 187, 188, 189, 190, 191, 192, 193, 194, 195, 196, 197, 19, 198, 46, 199, 200, 201, 202, 45, 203, 204, 205, 206, 207, 208, 209, 210, 211, 267, 268, 269, 270, 271, 272, 287, 288, 289, 290, 291, 292, 293, 273, 274, 275, 276, 277, 278, 279, 280, 281, 282, 283, 284, 285, 286] (by decide +kernel) (by decide +kernel)
set_option maxRecDepth 20000 in
theorem gL_told_X3_layAll : GoodIn wsL_told (wsV RL 105 RX3 yX3_layAll wsX3_layAll) := goodIn_app (goodIn_of _ (by decide +kernel)) ggL_told_X3_layAll
set_option maxRecDepth 20000 in
theorem ggL_told_X3_count : GoodIn wsL_told wsX3_count := goodIn_r _ [215, 13, 20, 24, 208, 209, 210, 12, 211, 152, 153, 154, 155, 31, 156, 3, 157, 216, 217, 218, 219, 220, 221, 222, 223, 224, 225, 226, 227, 30, 228, 229, 230, 231, 232, 233, 234, 235, 32, 236, 237, 238, 239, 35, 240, 241, 242, 243, 180, 181, 178, 182, 244, 245, 246, 247, 183, 184, 248, 249, 250, 251, 252, 253, 254, 33, 255, 256, 257, 258, 259, 260, 261, 262, 263, 264, 265, 19, 266, 46, 70, 71, 72, 23, 73, 69, 267, 268, 269, 270, 271, 272, 273, 274, 275, 276, 277, 278, 279, 280, 281, 282, 283, 284, 285, 286, 287, 288, 289, 290, 291, 292, 293] (by decide +kernel) (by decide +kernel)
set_option maxRecDepth 20000 in
theorem gL_told_X3_count : GoodIn wsL_told (wsV RL 13 RX3 yX3_count wsX3_count) := goodIn_app (goodIn_of _ (by decide +kernel)) ggL_told_X3_count
theorem dL_told_0 : decode cL_told 0 = .ok (.new 14, 3) := by decide +kernel
theorem dL_told_3 : decode cL_told 3 = .ok (.dup, 1) := by decide +kernel
theorem dL_told_4 : decode cL_told 4 = .ok (.invokespecial 74, 3) := by decide +kernel
theorem dL_told_7 : decode cL_told 7 = .ok (.astore 4, 2) := by decide +kernel
theorem dL_told_9 : decode cL_told 9 = .ok (.aload 4, 2) := by decide +kernel
theorem dL_told_11 : decode cL_told 11 = .ok (.lload_n 0, 1) := by decide +kernel
theorem dL_told_12 : decode cL_told 12 = .ok (.invokestatic 101, 3) := by decide +kernel
theorem dL_told_15 : decode cL_told 15 = .ok (.ifCond .eq 20, 3) := by decide +kernel
theorem dL_told_18 : decode cL_told 18 = .ok (.aload 4, 2) := by decide +kernel
theorem dL_told_20 : decode cL_told 20 = .ok (.lload_n 2, 1) := by decide +kernel
theorem dL_told_21 : decode cL_told 21 = .ok (.invokestatic 101, 3) := by decide +kernel
theorem dL_told_24 : decode cL_told 24 = .ok (.ifCond .eq 11, 3) := by decide +kernel
theorem dL_told_27 : decode cL_told 27 = .ok (.aload 4, 2) := by decide +kernel
theorem dL_told_29 : decode cL_told 29 = .ok (.invokevirtual 105, 3) := by decide +kernel
theorem dL_told_32 : decode cL_told 32 = .ok (.goto 5, 3) := by decide +kernel
theorem dL_told_35 : decode cL_told 35 = .ok (.bipush (-99), 2) := by decide +kernel
theorem dL_told_37 : decode cL_told 37 = .ok (.istore 5, 2) := by decide +kernel
theorem dL_told_39 : decode cL_told 39 = .ok (.aload 4, 2) := by decide +kernel
theorem dL_told_41 : decode cL_told 41 = .ok (.bipush 12, 2) := by decide +kernel
theorem dL_told_43 : decode cL_told 43 = .ok (.invokevirtual 13, 3) := by decide +kernel
theorem dL_told_46 : decode cL_told 46 = .ok (.iload 5, 2) := by decide +kernel
theorem dL_told_48 : decode cL_told 48 = .ok (.ifCond .le 7, 3) := by decide +kernel
theorem dL_told_51 : decode cL_told 51 = .ok (.iconst 1, 1) := by decide +kernel
theorem dL_told_52 : decode cL_told 52 = .ok (.goto 4, 3) := by decide +kernel
theorem dL_told_55 : decode cL_told 55 = .ok (.iconst 0, 1) := by decide +kernel
theorem dL_told_56 : decode cL_told 56 = .ok (.if_icmp .ne 28, 3) := by decide +kernel
theorem dL_told_59 : decode cL_told 59 = .ok (.aload 4, 2) := by decide +kernel
theorem dL_told_61 : decode cL_told 61 = .ok (.iconst 0, 1) := by decide +kernel
theorem dL_told_62 : decode cL_told 62 = .ok (.invokevirtual 13, 3) := by decide +kernel
theorem dL_told_65 : decode cL_told 65 = .ok (.iload 5, 2) := by decide +kernel
theorem dL_told_67 : decode cL_told 67 = .ok (.ifCond .le 8, 3) := by decide +kernel
theorem dL_told_70 : decode cL_told 70 = .ok (.iload 5, 2) := by decide +kernel
theorem dL_told_72 : decode cL_told 72 = .ok (.goto 4, 3) := by decide +kernel
theorem dL_told_75 : decode cL_told 75 = .ok (.iconst 0, 1) := by decide +kernel
theorem dL_told_76 : decode cL_told 76 = .ok (.if_icmp .ne 8, 3) := by decide +kernel
theorem dL_told_79 : decode cL_told 79 = .ok (.iload 5, 2) := by decide +kernel
theorem dL_told_81 : decode cL_told 81 = .ok (.goto 5, 3) := by decide +kernel
theorem dL_told_84 : decode cL_told 84 = .ok (.bipush (-98), 2) := by decide +kernel
theorem dL_told_86 : decode cL_told 86 = .ok (.ireturn, 1) := by decide +kernel
set_option maxRecDepth 20000 in
theorem ggL_texts_L_told : GoodIn wsL_texts wsL_told := goodIn_r _ [30, 19, 20, 21, 31, 32, 33, 34, 35, 36, 37, 38, 39, 40, 41, 42, 43, 44, 45, 46, 47, 48, 49, 50, 51, 52, 53, 54, 55, 56, 57, 58, 59, 60, 61, 62, 63, 64, 65, 66, 67, 68, 69, 70, 71, 72, 73, 74, 75, 76, 77, 78, 79, 80, 81, 82, 83, 84, 29, 85, 86, 87, 88, 89, 90, 91, 92, 93, 94, 95, 96, 97, 98, 99, 100, 101, 102, 103, 104, 105, 106, 107, 108, 109, 110, 111, 112, 113, 114, 115, 116, 117, 118, 119, 120, 121, 122, 123, 124, 125, 126, 127, 128, 129, 130, 131, 132, 133, 134, 135, 136, 137, 138, 139, 140, 141, 142, 143, 144, 145, 146, 147, 148, 149, 150, 151, 152, 153, 154, 155, 156, 157, 158, 159, 160, 161, 162, 163, 164, 165, 166, 167, 168, 169, 170, 171, 172, 173, 174, 175, 176, 177, 178, 179, 180, 181, 182, 183, 184, 185, 186, 187, 188, 189, 190, 191, 192, 193, 194, 195, 196, 197, 198, 199, 200, 201, 202, 203, 204, 205, 206, 207, 208, 209, 210, 211, 212, 213, 214, 215, 216, 217, 218, 219, 220, 221, 222, 223, 224, 225, 226, 227, 228, 229, 230, 231, 232, 233, 234, 235, 236, 237, 238, 239, 240, 241, 242, 243, 244, 245, 246, 247, 248, 249, 250, 251, 252, 253, 254, 255, 256, 257, 258, 259, 260, 261, 262, 263, 264, 265, 266, 267, 268, 269, 270, 271, 272, 273, 274, 275, 276, 277, 278, 279, 280, 281, 282, 283, 284, 285, 286, 287, 288, 289, 290, 291, 292, 331, 332, 333, 334, 335, 336, 337, 338, 339, 340, 341, 342, 343, 344, 345, 346, 347, 348, 349, 350, 351, 352, 353, 354, 355, 356, 357] (by decide +kernel) (by decide +kernel)
set_option maxRecDepth 20000 in
theorem gL_texts_L_told : GoodIn wsL_texts (va_wsS RL 110 yL_told wsL_told) := goodIn_app (goodIn_of _ (by decide +kernel)) ggL_texts_L_told
set_option maxRecDepth 20000 in
theorem ggL_texts_X3_init : GoodIn wsL_texts wsX3_init := goodIn_r _ [33, 34, 35, 36, 37, 38, 39, 40, 41, 42, 43, 44, 45, 46, 47, 48, 49, 50, 51, 52, 53, 54, 55, 56, 57, 58, 59, 60, 61, 62, 63, 64, 65, 66, 67, 68, 69, 70, 71, 72, 73, 74, 75, 76, 77, 78, 79, 80, 81, 82, 337, 338, 339, 340, 341, 342, 343, 344, 345, 346, 347, 348, 331, 332, 333, 334, 335, 336, 349, 350, 351, 352, 353, 354, 355, 356, 357] (by decide +kernel) (by decide +kernel)
set_option maxRecDepth 20000 in
theorem gL_texts_X3_init : GoodIn wsL_texts (wsX3_init) := ggL_texts_X3_init
set_option maxRecDepth 20000 in
theorem ggL_texts_L_types : GoodIn wsL_texts wsL_types := goodIn_r _ [85, 86, 87, 88, 89, 21, 90, 51, 91, 92, 93, 50, 94, 95, 79, 96, 97, 98, 99, 331, 332, 333, 334, 335, 336, 351, 352, 353, 354, 355, 356, 357] (by decide +kernel) (by decide +kernel)
set_option maxRecDepth 20000 in
theorem gL_texts_L_types : GoodIn wsL_texts (va_wsS RL 101 yL_types wsL_types) := goodIn_app (goodIn_of _ (by decide +kernel)) ggL_texts_L_types
set_option maxRecDepth 20000 in
theorem ggL_texts_X3_layAll : GoodIn wsL_texts wsX3_layAll := goodIn_r _ [103, 51, 41, 40, 47, 104, 105, 106, 50, 107, 108, 109, 95, 110, 111, 112, 113, 80, 81, 82, 114, 115, 116, 117, 118, 119, 120, 121, 79, 122, 123, 124, 125, 126, 21, 127, 128, 129, 130, 131, 132, 133, 134, 135, 136, 137, 138, 139, 140, 141, 142, 39, 143, 57, 144, 145, 146, 147, 58, 59, 60, 61, 148, 62, 149, 150, 151, 152, 153, 154, 155, 156, 157, 158, 159, 160, 161, 162, 163, 164, 165, 166, 167, 168, 169, 170, 171, 172, 173, 174, 175, 176, 177, 178, 179, 180, 181, 182, 183, 184, 185, 186, 187, 188, 189, 190, 191, 192, 193, 194, 195, 196, 197, 198, 199, 200, 201, 202, 203, 204, 205, 206, 207, 208, 209, 210, 211, 212, 213, 214, 215, 216, 217, 218, 219, 220, 221, 222, 223, 46, 224, 73, 225, 226, 227, 228, 72, 229, 230, 231, 232, 233, 234, 235, 236, 237, 331, 332, 333, 334, 335, 336, 351, 352, 353, 354, 355, 356, 357, 337, 338, 339, 340, 341, 342, 343, 344, 345, 346, 347, 348, 349, 350] (by decide +kernel) (by decide +kernel)
set_option maxRecDepth 20000 in
theorem gL_texts_X3_layAll : GoodIn wsL_texts (wsV RL 105 RX3 yX3_layAll wsX3_layAll) := goodIn_app (goodIn_of _ (by decide +kernel)) ggL_texts_X3_layAll
set_option maxRecDepth 20000 in
theorem ggL_texts_X3_count : GoodIn wsL_texts wsX3_count := goodIn_r _ [241, 40, 47, 51, 234, 235, 236, 39, 237, 178, 179, 180, 181, 58, 182, 21, 183, 242, 243, 244, 245, 246, 247, 248, 249, 250, 251, 252, 253, 57, 254, 255, 256, 257, 258, 259, 260, 261, 59, 262, 263, 264, 265, 62, 266, 267, 268, 269, 206, 207, 204, 208, 270, 271, 272, 273, 209, 210, 274, 275, 276, 277, 278, 279, 280, 60, 281, 282, 283, 284, 285, 286, 287, 288, 289, 290, 291, 46, 292, 73, 96, 97, 98, 50, 99, 95, 331, 332, 333, 334, 335, 336, 337, 338, 339, 340, 341, 342, 343, 344, 345, 346, 347, 348, 349, 350, 351, 352, 353, 354, 355, 356, 357] (by decide +kernel) (by decide +kernel)
set_option maxRecDepth 20000 in
theorem gL_texts_X3_count : GoodIn wsL_texts (wsV RL 13 RX3 yX3_count wsX3_count) := goodIn_app (goodIn_of _ (by decide +kernel)) ggL_texts_X3_count
set_option maxRecDepth 20000 in
theorem ggL_texts_X3_clearText : GoodIn wsL_texts wsX3_clearText := goodIn_r _ [296, 51, 96, 97, 98, 50, 99, 95, 297, 298, 299, 300, 331, 332, 333, 334, 335, 336, 351, 352, 353, 354, 355, 356, 357] (by decide +kernel) (by decide +kernel)
set_option maxRecDepth 20000 in
theorem gL_texts_X3_clearText : GoodIn wsL_texts (wsV RL 156 RX3 yX3_clearText wsX3_clearText) := goodIn_app (goodIn_of _ (by decide +kernel)) ggL_texts_X3_clearText
set_option maxRecDepth 20000 in
theorem ggL_texts_X3_wire : GoodIn wsL_texts wsX3_wire := goodIn_r _ [304, 40, 305, 179, 180, 39, 181, 58, 182, 21, 183, 306, 307, 308, 309, 310, 259, 260, 261, 59, 311, 282, 283, 284, 60, 312, 313, 314, 315, 246, 247, 248, 249, 178, 250, 251, 252, 253, 57, 316, 317, 318, 319, 262, 263, 264, 265, 62, 266, 267, 268, 269, 206, 207, 204, 208, 270, 271, 272, 273, 209, 210, 274, 275, 276, 258, 320, 321, 322, 323, 324, 325, 326, 327, 328, 329, 330, 61, 331, 332, 333, 334, 335, 336, 337, 338, 339, 340, 341, 342, 343, 344, 345, 346, 347, 348] (by decide +kernel) (by decide +kernel)
set_option maxRecDepth 20000 in
theorem gL_texts_X3_wire : GoodIn wsL_texts (wsV RL 19 RX3 yX3_wire wsX3_wire) := goodIn_app (goodIn_of _ (by decide +kernel)) ggL_texts_X3_wire
set_option maxRecDepth 20000 in
theorem ggL_texts_X3_type : GoodIn wsL_texts wsX3_type := goodIn_r _ [90, 51, 91, 92, 93, 50, 94, 95, 79, 96, 97, 98, 99, 331, 332, 333, 334, 335, 336, 351, 352, 353, 354, 355, 356, 357] (by decide +kernel) (by decide +kernel)
set_option maxRecDepth 20000 in
theorem gL_texts_X3_type : GoodIn wsL_texts (wsV RL 97 RX3 yX3_type wsX3_type) := goodIn_app (goodIn_of _ (by decide +kernel)) ggL_texts_X3_type
theorem dL_texts_0 : decode cL_texts 0 = .ok (.ldc2_w 108, 3) := by decide +kernel
theorem dL_texts_3 : decode cL_texts 3 = .ok (.lconst 0, 1) := by decide +kernel
theorem dL_texts_4 : decode cL_texts 4 = .ok (.invokestatic 110, 3) := by decide +kernel
theorem dL_texts_7 : decode cL_texts 7 = .ok (.bipush (-101), 2) := by decide +kernel
theorem dL_texts_9 : decode cL_texts 9 = .ok (.if_icmp .ne 97, 3) := by decide +kernel
theorem dL_texts_12 : decode cL_texts 12 = .ok (.ldc2_w 114, 3) := by decide +kernel
theorem dL_texts_15 : decode cL_texts 15 = .ok (.lconst 0, 1) := by decide +kernel
theorem dL_texts_16 : decode cL_texts 16 = .ok (.invokestatic 110, 3) := by decide +kernel
theorem dL_texts_19 : decode cL_texts 19 = .ok (.bipush (-103), 2) := by decide +kernel
theorem dL_texts_21 : decode cL_texts 21 = .ok (.if_icmp .ne 85, 3) := by decide +kernel
theorem dL_texts_24 : decode cL_texts 24 = .ok (.ldc2_w 116, 3) := by decide +kernel
theorem dL_texts_27 : decode cL_texts 27 = .ok (.lconst 0, 1) := by decide +kernel
theorem dL_texts_28 : decode cL_texts 28 = .ok (.invokestatic 110, 3) := by decide +kernel
theorem dL_texts_31 : decode cL_texts 31 = .ok (.bipush (-105), 2) := by decide +kernel
theorem dL_texts_33 : decode cL_texts 33 = .ok (.if_icmp .ne 73, 3) := by decide +kernel
theorem dL_texts_36 : decode cL_texts 36 = .ok (.ldc2_w 118, 3) := by decide +kernel
theorem dL_texts_39 : decode cL_texts 39 = .ok (.lconst 0, 1) := by decide +kernel
theorem dL_texts_40 : decode cL_texts 40 = .ok (.invokestatic 110, 3) := by decide +kernel
theorem dL_texts_43 : decode cL_texts 43 = .ok (.bipush (-105), 2) := by decide +kernel
theorem dL_texts_45 : decode cL_texts 45 = .ok (.if_icmp .ne 61, 3) := by decide +kernel
theorem dL_texts_48 : decode cL_texts 48 = .ok (.ldc2_w 120, 3) := by decide +kernel
theorem dL_texts_51 : decode cL_texts 51 = .ok (.lconst 0, 1) := by decide +kernel
theorem dL_texts_52 : decode cL_texts 52 = .ok (.invokestatic 110, 3) := by decide +kernel
theorem dL_texts_55 : decode cL_texts 55 = .ok (.bipush (-104), 2) := by decide +kernel
theorem dL_texts_57 : decode cL_texts 57 = .ok (.if_icmp .ne 49, 3) := by decide +kernel
theorem dL_texts_60 : decode cL_texts 60 = .ok (.ldc2_w 122, 3) := by decide +kernel
theorem dL_texts_63 : decode cL_texts 63 = .ok (.lconst 0, 1) := by decide +kernel
theorem dL_texts_64 : decode cL_texts 64 = .ok (.invokestatic 110, 3) := by decide +kernel
theorem dL_texts_67 : decode cL_texts 67 = .ok (.bipush (-106), 2) := by decide +kernel
theorem dL_texts_69 : decode cL_texts 69 = .ok (.if_icmp .ne 37, 3) := by decide +kernel
theorem dL_texts_72 : decode cL_texts 72 = .ok (.ldc2_w 124, 3) := by decide +kernel
theorem dL_texts_75 : decode cL_texts 75 = .ok (.lconst 0, 1) := by decide +kernel
theorem dL_texts_76 : decode cL_texts 76 = .ok (.invokestatic 110, 3) := by decide +kernel
theorem dL_texts_79 : decode cL_texts 79 = .ok (.bipush (-101), 2) := by decide +kernel
theorem dL_texts_81 : decode cL_texts 81 = .ok (.if_icmp .ne 25, 3) := by decide +kernel
theorem dL_texts_84 : decode cL_texts 84 = .ok (.ldc2_w 126, 3) := by decide +kernel
theorem dL_texts_87 : decode cL_texts 87 = .ok (.lconst 0, 1) := by decide +kernel
theorem dL_texts_88 : decode cL_texts 88 = .ok (.invokestatic 110, 3) := by decide +kernel
theorem dL_texts_91 : decode cL_texts 91 = .ok (.bipush (-104), 2) := by decide +kernel
theorem dL_texts_93 : decode cL_texts 93 = .ok (.if_icmp .ne 13, 3) := by decide +kernel
theorem dL_texts_96 : decode cL_texts 96 = .ok (.lconst 0, 1) := by decide +kernel
theorem dL_texts_97 : decode cL_texts 97 = .ok (.lconst 0, 1) := by decide +kernel
theorem dL_texts_98 : decode cL_texts 98 = .ok (.invokestatic 110, 3) := by decide +kernel
theorem dL_texts_101 : decode cL_texts 101 = .ok (.bipush (-100), 2) := by decide +kernel
theorem dL_texts_103 : decode cL_texts 103 = .ok (.if_icmp .eq 5, 3) := by decide +kernel
theorem dL_texts_106 : decode cL_texts 106 = .ok (.iconst 0, 1) := by decide +kernel
theorem dL_texts_107 : decode cL_texts 107 = .ok (.ireturn, 1) := by decide +kernel
theorem dL_texts_108 : decode cL_texts 108 = .ok (.ldc2_w 128, 3) := by decide +kernel
theorem dL_texts_111 : decode cL_texts 111 = .ok (.ldc2_w 124, 3) := by decide +kernel
theorem dL_texts_114 : decode cL_texts 114 = .ok (.invokestatic 110, 3) := by decide +kernel
theorem dL_texts_117 : decode cL_texts 117 = .ok (.iconst 1, 1) := by decide +kernel
theorem dL_texts_118 : decode cL_texts 118 = .ok (.if_icmp .ne 100, 3) := by decide +kernel
theorem dL_texts_121 : decode cL_texts 121 = .ok (.ldc2_w 130, 3) := by decide +kernel
theorem dL_texts_124 : decode cL_texts 124 = .ok (.ldc2_w 132, 3) := by decide +kernel
theorem dL_texts_127 : decode cL_texts 127 = .ok (.invokestatic 110, 3) := by decide +kernel
theorem dL_texts_130 : decode cL_texts 130 = .ok (.iconst 3, 1) := by decide +kernel
theorem dL_texts_131 : decode cL_texts 131 = .ok (.if_icmp .ne 87, 3) := by decide +kernel
theorem dL_texts_134 : decode cL_texts 134 = .ok (.ldc2_w 134, 3) := by decide +kernel
theorem dL_texts_137 : decode cL_texts 137 = .ok (.lconst 0, 1) := by decide +kernel
theorem dL_texts_138 : decode cL_texts 138 = .ok (.invokestatic 110, 3) := by decide +kernel
theorem dL_texts_141 : decode cL_texts 141 = .ok (.bipush (-4), 2) := by decide +kernel
theorem dL_texts_143 : decode cL_texts 143 = .ok (.if_icmp .ne 75, 3) := by decide +kernel
theorem dL_texts_146 : decode cL_texts 146 = .ok (.ldc2_w 136, 3) := by decide +kernel
theorem dL_texts_149 : decode cL_texts 149 = .ok (.lconst 0, 1) := by decide +kernel
theorem dL_texts_150 : decode cL_texts 150 = .ok (.invokestatic 110, 3) := by decide +kernel
theorem dL_texts_153 : decode cL_texts 153 = .ok (.bipush (-4), 2) := by decide +kernel
theorem dL_texts_155 : decode cL_texts 155 = .ok (.if_icmp .ne 63, 3) := by decide +kernel
theorem dL_texts_158 : decode cL_texts 158 = .ok (.ldc2_w 138, 3) := by decide +kernel
theorem dL_texts_161 : decode cL_texts 161 = .ok (.lconst 0, 1) := by decide +kernel
theorem dL_texts_162 : decode cL_texts 162 = .ok (.invokestatic 110, 3) := by decide +kernel
theorem dL_texts_165 : decode cL_texts 165 = .ok (.bipush (-100), 2) := by decide +kernel
theorem dL_texts_167 : decode cL_texts 167 = .ok (.if_icmp .ne 51, 3) := by decide +kernel
theorem dL_texts_170 : decode cL_texts 170 = .ok (.ldc2_w 140, 3) := by decide +kernel
theorem dL_texts_173 : decode cL_texts 173 = .ok (.lconst 0, 1) := by decide +kernel
theorem dL_texts_174 : decode cL_texts 174 = .ok (.invokestatic 110, 3) := by decide +kernel
theorem dL_texts_177 : decode cL_texts 177 = .ok (.bipush (-101), 2) := by decide +kernel
theorem dL_texts_179 : decode cL_texts 179 = .ok (.if_icmp .ne 39, 3) := by decide +kernel
theorem dL_texts_182 : decode cL_texts 182 = .ok (.ldc2_w 142, 3) := by decide +kernel
theorem dL_texts_185 : decode cL_texts 185 = .ok (.lconst 0, 1) := by decide +kernel
theorem dL_texts_186 : decode cL_texts 186 = .ok (.invokestatic 110, 3) := by decide +kernel
theorem dL_texts_189 : decode cL_texts 189 = .ok (.bipush (-101), 2) := by decide +kernel
theorem dL_texts_191 : decode cL_texts 191 = .ok (.if_icmp .ne 27, 3) := by decide +kernel
theorem dL_texts_194 : decode cL_texts 194 = .ok (.ldc2_w 144, 3) := by decide +kernel
theorem dL_texts_197 : decode cL_texts 197 = .ok (.lconst 0, 1) := by decide +kernel
theorem dL_texts_198 : decode cL_texts 198 = .ok (.invokestatic 110, 3) := by decide +kernel
theorem dL_texts_201 : decode cL_texts 201 = .ok (.bipush (-105), 2) := by decide +kernel
theorem dL_texts_203 : decode cL_texts 203 = .ok (.if_icmp .ne 15, 3) := by decide +kernel
theorem dL_texts_206 : decode cL_texts 206 = .ok (.ldc2_w 146, 3) := by decide +kernel
theorem dL_texts_209 : decode cL_texts 209 = .ok (.lconst 0, 1) := by decide +kernel
theorem dL_texts_210 : decode cL_texts 210 = .ok (.invokestatic 110, 3) := by decide +kernel
theorem dL_texts_213 : decode cL_texts 213 = .ok (.bipush (-106), 2) := by decide +kernel
theorem dL_texts_215 : decode cL_texts 215 = .ok (.if_icmp .eq 5, 3) := by decide +kernel
theorem dL_texts_218 : decode cL_texts 218 = .ok (.iconst 0, 1) := by decide +kernel
theorem dL_texts_219 : decode cL_texts 219 = .ok (.ireturn, 1) := by decide +kernel
theorem dL_texts_220 : decode cL_texts 220 = .ok (.new 14, 3) := by decide +kernel
theorem dL_texts_223 : decode cL_texts 223 = .ok (.dup, 1) := by decide +kernel
theorem dL_texts_224 : decode cL_texts 224 = .ok (.invokespecial 74, 3) := by decide +kernel
theorem dL_texts_227 : decode cL_texts 227 = .ok (.astore_n 0, 1) := by decide +kernel
theorem dL_texts_228 : decode cL_texts 228 = .ok (.aload_n 0, 1) := by decide +kernel
theorem dL_texts_229 : decode cL_texts 229 = .ok (.ldc2_w 148, 3) := by decide +kernel
theorem dL_texts_232 : decode cL_texts 232 = .ok (.invokestatic 101, 3) := by decide +kernel
theorem dL_texts_235 : decode cL_texts 235 = .ok (.ifCond .eq 157, 3) := by decide +kernel
theorem dL_texts_238 : decode cL_texts 238 = .ok (.aload_n 0, 1) := by decide +kernel
theorem dL_texts_239 : decode cL_texts 239 = .ok (.ldc2_w 150, 3) := by decide +kernel
theorem dL_texts_242 : decode cL_texts 242 = .ok (.invokestatic 101, 3) := by decide +kernel
theorem dL_texts_245 : decode cL_texts 245 = .ok (.ifCond .eq 147, 3) := by decide +kernel
theorem dL_texts_248 : decode cL_texts 248 = .ok (.aload_n 0, 1) := by decide +kernel
theorem dL_texts_249 : decode cL_texts 249 = .ok (.ldc2_w 152, 3) := by decide +kernel
theorem dL_texts_252 : decode cL_texts 252 = .ok (.invokestatic 101, 3) := by decide +kernel
theorem dL_texts_255 : decode cL_texts 255 = .ok (.ifCond .eq 137, 3) := by decide +kernel
theorem dL_texts_258 : decode cL_texts 258 = .ok (.aload_n 0, 1) := by decide +kernel
theorem dL_texts_259 : decode cL_texts 259 = .ok (.ldc2_w 154, 3) := by decide +kernel
theorem dL_texts_262 : decode cL_texts 262 = .ok (.invokestatic 101, 3) := by decide +kernel
theorem dL_texts_265 : decode cL_texts 265 = .ok (.ifCond .eq 127, 3) := by decide +kernel
theorem dL_texts_268 : decode cL_texts 268 = .ok (.aload_n 0, 1) := by decide +kernel
theorem dL_texts_269 : decode cL_texts 269 = .ok (.invokevirtual 105, 3) := by decide +kernel
theorem dL_texts_272 : decode cL_texts 272 = .ok (.bipush (-6), 2) := by decide +kernel
theorem dL_texts_274 : decode cL_texts 274 = .ok (.if_icmp .ne 118, 3) := by decide +kernel
theorem dL_texts_277 : decode cL_texts 277 = .ok (.aload_n 0, 1) := by decide +kernel
theorem dL_texts_278 : decode cL_texts 278 = .ok (.iconst 0, 1) := by decide +kernel
theorem dL_texts_279 : decode cL_texts 279 = .ok (.invokevirtual 13, 3) := by decide +kernel
theorem dL_texts_282 : decode cL_texts 282 = .ok (.ifCond .ne 110, 3) := by decide +kernel
theorem dL_texts_285 : decode cL_texts 285 = .ok (.aload_n 0, 1) := by decide +kernel
theorem dL_texts_286 : decode cL_texts 286 = .ok (.iconst 1, 1) := by decide +kernel
theorem dL_texts_287 : decode cL_texts 287 = .ok (.invokevirtual 13, 3) := by decide +kernel
theorem dL_texts_290 : decode cL_texts 290 = .ok (.ifCond .ne 102, 3) := by decide +kernel
theorem dL_texts_293 : decode cL_texts 293 = .ok (.aload_n 0, 1) := by decide +kernel
theorem dL_texts_294 : decode cL_texts 294 = .ok (.iconst 5, 1) := by decide +kernel
theorem dL_texts_295 : decode cL_texts 295 = .ok (.invokevirtual 13, 3) := by decide +kernel
theorem dL_texts_298 : decode cL_texts 298 = .ok (.ifCond .ne 94, 3) := by decide +kernel
theorem dL_texts_301 : decode cL_texts 301 = .ok (.aload_n 0, 1) := by decide +kernel
theorem dL_texts_302 : decode cL_texts 302 = .ok (.invokevirtual 156, 3) := by decide +kernel
theorem dL_texts_305 : decode cL_texts 305 = .ok (.bipush 31, 2) := by decide +kernel
theorem dL_texts_307 : decode cL_texts 307 = .ok (.if_icmp .ne 85, 3) := by decide +kernel
theorem dL_texts_310 : decode cL_texts 310 = .ok (.aload_n 0, 1) := by decide +kernel
theorem dL_texts_311 : decode cL_texts 311 = .ok (.ldc2_w 148, 3) := by decide +kernel
theorem dL_texts_314 : decode cL_texts 314 = .ok (.invokestatic 101, 3) := by decide +kernel
theorem dL_texts_317 : decode cL_texts 317 = .ok (.ifCond .eq 75, 3) := by decide +kernel
theorem dL_texts_320 : decode cL_texts 320 = .ok (.aload_n 0, 1) := by decide +kernel
theorem dL_texts_321 : decode cL_texts 321 = .ok (.ldc2_w 159, 3) := by decide +kernel
theorem dL_texts_324 : decode cL_texts 324 = .ok (.invokestatic 101, 3) := by decide +kernel
theorem dL_texts_327 : decode cL_texts 327 = .ok (.ifCond .eq 65, 3) := by decide +kernel
theorem dL_texts_330 : decode cL_texts 330 = .ok (.aload_n 0, 1) := by decide +kernel
theorem dL_texts_331 : decode cL_texts 331 = .ok (.invokevirtual 105, 3) := by decide +kernel
theorem dL_texts_334 : decode cL_texts 334 = .ok (.iconst 3, 1) := by decide +kernel
theorem dL_texts_335 : decode cL_texts 335 = .ok (.if_icmp .ne 57, 3) := by decide +kernel
theorem dL_texts_338 : decode cL_texts 338 = .ok (.aload_n 0, 1) := by decide +kernel
theorem dL_texts_339 : decode cL_texts 339 = .ok (.iconst 0, 1) := by decide +kernel
theorem dL_texts_340 : decode cL_texts 340 = .ok (.iconst 1, 1) := by decide +kernel
theorem dL_texts_341 : decode cL_texts 341 = .ok (.invokevirtual 19, 3) := by decide +kernel
theorem dL_texts_344 : decode cL_texts 344 = .ok (.bipush 60, 2) := by decide +kernel
theorem dL_texts_346 : decode cL_texts 346 = .ok (.if_icmp .ne 46, 3) := by decide +kernel
theorem dL_texts_349 : decode cL_texts 349 = .ok (.aload_n 0, 1) := by decide +kernel
theorem dL_texts_350 : decode cL_texts 350 = .ok (.iconst 2, 1) := by decide +kernel
theorem dL_texts_351 : decode cL_texts 351 = .ok (.iconst 1, 1) := by decide +kernel
theorem dL_texts_352 : decode cL_texts 352 = .ok (.invokevirtual 19, 3) := by decide +kernel
theorem dL_texts_355 : decode cL_texts 355 = .ok (.sipush 200, 3) := by decide +kernel
theorem dL_texts_358 : decode cL_texts 358 = .ok (.if_icmp .ne 34, 3) := by decide +kernel
theorem dL_texts_361 : decode cL_texts 361 = .ok (.aload_n 0, 1) := by decide +kernel
theorem dL_texts_362 : decode cL_texts 362 = .ok (.iconst 2, 1) := by decide +kernel
theorem dL_texts_363 : decode cL_texts 363 = .ok (.bipush 6, 2) := by decide +kernel
theorem dL_texts_365 : decode cL_texts 365 = .ok (.invokevirtual 19, 3) := by decide +kernel
theorem dL_texts_368 : decode cL_texts 368 = .ok (.iconst 2, 1) := by decide +kernel
theorem dL_texts_369 : decode cL_texts 369 = .ok (.if_icmp .ne 23, 3) := by decide +kernel
theorem dL_texts_372 : decode cL_texts 372 = .ok (.aload_n 0, 1) := by decide +kernel
theorem dL_texts_373 : decode cL_texts 373 = .ok (.bipush 13, 2) := by decide +kernel
theorem dL_texts_375 : decode cL_texts 375 = .ok (.invokevirtual 13, 3) := by decide +kernel
theorem dL_texts_378 : decode cL_texts 378 = .ok (.bipush 15, 2) := by decide +kernel
theorem dL_texts_380 : decode cL_texts 380 = .ok (.if_icmp .ne 12, 3) := by decide +kernel
theorem dL_texts_383 : decode cL_texts 383 = .ok (.aload_n 0, 1) := by decide +kernel
theorem dL_texts_384 : decode cL_texts 384 = .ok (.invokevirtual 105, 3) := by decide +kernel
theorem dL_texts_387 : decode cL_texts 387 = .ok (.bipush (-4), 2) := by decide +kernel
theorem dL_texts_389 : decode cL_texts 389 = .ok (.if_icmp .eq 5, 3) := by decide +kernel
theorem dL_texts_392 : decode cL_texts 392 = .ok (.iconst 0, 1) := by decide +kernel
theorem dL_texts_393 : decode cL_texts 393 = .ok (.ireturn, 1) := by decide +kernel
theorem dL_texts_394 : decode cL_texts 394 = .ok (.bipush 15, 2) := by decide +kernel
theorem dL_texts_396 : decode cL_texts 396 = .ok (.istore_n 1, 1) := by decide +kernel
theorem dL_texts_397 : decode cL_texts 397 = .ok (.iload_n 1, 1) := by decide +kernel
theorem dL_texts_398 : decode cL_texts 398 = .ok (.bipush 80, 2) := by decide +kernel
theorem dL_texts_400 : decode cL_texts 400 = .ok (.if_icmp .ge 23, 3) := by decide +kernel
theorem dL_texts_403 : decode cL_texts 403 = .ok (.aload_n 0, 1) := by decide +kernel
theorem dL_texts_404 : decode cL_texts 404 = .ok (.iload_n 1, 1) := by decide +kernel
theorem dL_texts_405 : decode cL_texts 405 = .ok (.i2c, 1) := by decide +kernel
theorem dL_texts_406 : decode cL_texts 406 = .ok (.invokevirtual 97, 3) := by decide +kernel
theorem dL_texts_409 : decode cL_texts 409 = .ok (.iload_n 1, 1) := by decide +kernel
theorem dL_texts_410 : decode cL_texts 410 = .ok (.iconst 1, 1) := by decide +kernel
theorem dL_texts_411 : decode cL_texts 411 = .ok (.iadd, 1) := by decide +kernel
theorem dL_texts_412 : decode cL_texts 412 = .ok (.if_icmp .eq 5, 3) := by decide +kernel
theorem dL_texts_415 : decode cL_texts 415 = .ok (.iconst 0, 1) := by decide +kernel
theorem dL_texts_416 : decode cL_texts 416 = .ok (.ireturn, 1) := by decide +kernel
theorem dL_texts_417 : decode cL_texts 417 = .ok (.iinc 1 1, 3) := by decide +kernel
theorem dL_texts_420 : decode cL_texts 420 = .ok (.goto (-23), 3) := by decide +kernel
theorem dL_texts_423 : decode cL_texts 423 = .ok (.aload_n 0, 1) := by decide +kernel
theorem dL_texts_424 : decode cL_texts 424 = .ok (.bipush 49, 2) := by decide +kernel
theorem dL_texts_426 : decode cL_texts 426 = .ok (.invokevirtual 97, 3) := by decide +kernel
theorem dL_texts_429 : decode cL_texts 429 = .ok (.bipush (-3), 2) := by decide +kernel
theorem dL_texts_431 : decode cL_texts 431 = .ok (.if_icmp .ne 34, 3) := by decide +kernel
theorem dL_texts_434 : decode cL_texts 434 = .ok (.aload_n 0, 1) := by decide +kernel
theorem dL_texts_435 : decode cL_texts 435 = .ok (.invokevirtual 105, 3) := by decide +kernel
theorem dL_texts_438 : decode cL_texts 438 = .ok (.bipush (-115), 2) := by decide +kernel
theorem dL_texts_440 : decode cL_texts 440 = .ok (.if_icmp .ne 25, 3) := by decide +kernel
theorem dL_texts_443 : decode cL_texts 443 = .ok (.aload_n 0, 1) := by decide +kernel
theorem dL_texts_444 : decode cL_texts 444 = .ok (.invokevirtual 156, 3) := by decide +kernel
theorem dL_texts_447 : decode cL_texts 447 = .ok (.bipush 80, 2) := by decide +kernel
theorem dL_texts_449 : decode cL_texts 449 = .ok (.if_icmp .ne 16, 3) := by decide +kernel
theorem dL_texts_452 : decode cL_texts 452 = .ok (.aload_n 0, 1) := by decide +kernel
theorem dL_texts_453 : decode cL_texts 453 = .ok (.invokevirtual 105, 3) := by decide +kernel
theorem dL_texts_456 : decode cL_texts 456 = .ok (.bipush (-100), 2) := by decide +kernel
theorem dL_texts_458 : decode cL_texts 458 = .ok (.if_icmp .ne 7, 3) := by decide +kernel
theorem dL_texts_461 : decode cL_texts 461 = .ok (.iconst 1, 1) := by decide +kernel
theorem dL_texts_462 : decode cL_texts 462 = .ok (.goto 4, 3) := by decide +kernel
theorem dL_texts_465 : decode cL_texts 465 = .ok (.iconst 0, 1) := by decide +kernel
theorem dL_texts_466 : decode cL_texts 466 = .ok (.ireturn, 1) := by decide +kernel
set_option maxRecDepth 20000 in
theorem ggL_law_L_wires : GoodIn wsL_law wsL_wires := goodIn_r _ [7, 0, 1, 2, 8, 9, 10, 11, 12, 13, 14, 15, 16, 17, 18, 19, 20, 21, 22, 23, 24, 25, 26, 27, 28, 29, 30, 31, 32, 33, 34, 35, 36, 37, 38, 39, 40, 41, 42, 43, 44, 45, 46, 47, 48, 49, 50, 51, 52, 53, 54, 55, 56, 57, 58, 59, 60, 61, 62, 63, 64, 65, 66, 67, 68, 69, 70, 71, 72, 73, 74, 75, 76, 77, 78, 79, 80, 81, 82, 83, 84, 85, 86, 87, 88, 89, 90, 91, 92, 93, 94, 95, 96, 97, 98, 99, 100, 101, 102, 103, 104, 105, 106, 107, 108, 109, 110, 111, 112, 113, 114, 115, 116, 117, 118, 119, 120, 121, 122, 123, 124, 125, 126, 127, 128, 129, 130, 131, 132, 133, 134, 135, 136, 137, 138, 139, 140, 141, 142, 143, 144, 145, 146, 147, 148, 149, 150, 151, 152, 153, 154, 155, 156, 157, 158, 159, 160, 161, 162, 163, 164, 165, 166, 167, 168, 169, 170, 171, 172, 173, 174, 175, 176, 177, 178, 179, 180, 181, 182, 183, 184, 185, 186, 187, 188, 189, 190, 191, 192, 193, 194, 195, 196, 197, 198, 199, 200, 201, 202, 203, 204, 205, 206, 207, 208, 209, 210, 211, 212, 213, 214, 215, 216, 217, 218, 219, 220, 221, 222, 223, 224, 225, 226, 227, 228, 229, 230, 231, 232, 233, 234, 235, 236, 237, 238, 239, 240, 241, 242, 243, 244, 245, 246, 247, 248, 249, 250, 251, 252, 253, 254, 255, 256, 257, 258, 259, 260, 261, 262, 263, 264, 265, 266, 267, 268, 269, 270, 271, 272, 273, 274, 275, 276, 277, 278, 279, 280, 281, 282, 283, 284, 285, 286, 287, 288, 289, 290, 291, 292, 293, 294, 295, 296, 297, 298, 299, 300, 6, 301, 302, 303, 304, 305, 306, 307, 308, 309, 310, 311, 312, 313, 314, 315, 316, 317, 318, 319, 320, 321, 322, 323, 324, 325, 326, 327, 328, 329, 330, 331, 332, 333, 334, 335, 336, 337, 338, 339, 340, 341, 342, 343, 344, 345, 346, 347, 348, 349, 350, 351, 480, 481, 482, 483, 484, 485, 486, 487, 488, 489, 490, 491, 492, 493, 494, 495, 496, 497, 498, 499, 500, 501, 502, 503, 504, 505, 506] (by decide +kernel) (by decide +kernel)
set_option maxRecDepth 20000 in
theorem gL_law_L_wires : GoodIn wsL_law (va_wsS RL 161 yL_wires wsL_wires) := goodIn_app (goodIn_of _ (by decide +kernel)) ggL_law_L_wires
set_option maxRecDepth 20000 in
theorem ggL_law_L_tool : GoodIn wsL_law wsL_tool := goodIn_r _ [354, 0, 1, 2, 8, 9, 10, 11, 12, 13, 14, 15, 16, 17, 18, 19, 20, 21, 22, 23, 24, 25, 26, 27, 28, 29, 30, 31, 32, 33, 34, 35, 36, 37, 38, 39, 40, 41, 42, 43, 44, 45, 46, 47, 48, 49, 50, 51, 52, 53, 54, 55, 56, 57, 58, 59, 220, 221, 222, 223, 224, 225, 226, 127, 76, 77, 227, 228, 229, 230, 87, 89, 86, 231, 232, 233, 234, 235, 236, 237, 238, 239, 240, 241, 113, 114, 209, 210, 211, 242, 243, 244, 245, 109, 110, 111, 112, 246, 217, 218, 219, 96, 97, 98, 99, 100, 101, 102, 103, 72, 73, 74, 75, 78, 79, 80, 81, 82, 83, 84, 85, 88, 90, 91, 247, 248, 249, 250, 251, 252, 253, 254, 136, 137, 138, 139, 176, 177, 178, 183, 184, 255, 213, 214, 215, 256, 193, 194, 195, 335, 336, 337, 338, 261, 339, 141, 142, 143, 119, 120, 121, 122, 144, 145, 146, 147, 105, 106, 107, 108, 148, 149, 150, 151, 152, 153, 154, 155, 156, 157, 158, 159, 160, 161, 162, 163, 164, 165, 166, 167, 168, 169, 170, 171, 172, 173, 174, 175, 179, 180, 181, 182, 185, 186, 187, 188, 189, 190, 191, 192, 196, 197, 198, 199, 64, 65, 66, 67, 200, 201, 202, 203, 204, 115, 116, 117, 118, 355, 356, 357, 358, 104, 318, 319, 320, 321, 322, 133, 134, 135, 140, 92, 93, 94, 95, 272, 273, 274, 275, 276, 277, 278, 279, 264, 280, 281, 282, 283, 284, 285, 286, 287, 288, 289, 290, 291, 292, 293, 294, 295, 296, 297, 298, 299, 300, 6, 301, 302, 303, 304, 305, 306, 205, 206, 207, 208, 212, 216, 307, 308, 309, 310, 311, 312, 313, 314, 315, 316, 317, 267, 268, 269, 270, 271, 257, 258, 259, 260, 262, 263, 265, 266, 323, 324, 325, 326, 327, 328, 329, 330, 331, 332, 333, 334, 340, 341, 342, 343, 344, 345, 346, 347, 348, 349, 350, 351, 123, 124, 125, 126, 128, 129, 130, 131, 132, 480, 481, 482, 483, 484, 485, 486, 487, 488, 489, 490, 491, 492, 493, 494, 495, 496, 497, 498, 499, 500, 501, 502, 503, 504, 505, 506] (by decide +kernel) (by decide +kernel)
set_option maxRecDepth 20000 in
theorem gL_law_L_tool : GoodIn wsL_law (va_wsS RL 165 yL_tool wsL_tool) := goodIn_app (goodIn_of _ (by decide +kernel)) ggL_law_L_tool
set_option maxRecDepth 20000 in
theorem ggL_law_L_texts : GoodIn wsL_law wsL_texts := goodIn_r _ [361, 362, 363, 364, 365, 366, 367, 368, 369, 370, 371, 372, 373, 374, 375, 376, 377, 378, 379, 0, 1, 2, 380, 381, 382, 383, 384, 385, 386, 6, 387, 8, 9, 10, 11, 12, 13, 14, 15, 16, 17, 18, 19, 20, 21, 22, 23, 24, 25, 26, 27, 28, 29, 30, 31, 32, 33, 34, 35, 36, 37, 38, 39, 40, 41, 42, 43, 44, 45, 46, 47, 48, 49, 50, 51, 52, 53, 54, 55, 56, 57, 58, 59, 388, 389, 390, 391, 392, 393, 394, 395, 396, 397, 398, 399, 204, 200, 201, 202, 203, 400, 401, 402, 403, 404, 405, 406, 407, 408, 409, 410, 411, 412, 413, 414, 415, 416, 417, 418, 419, 420, 421, 422, 423, 424, 425, 76, 77, 426, 427, 428, 429, 430, 431, 432, 433, 434, 435, 436, 437, 104, 79, 80, 81, 82, 83, 84, 85, 86, 87, 88, 89, 90, 91, 438, 439, 440, 441, 442, 443, 444, 445, 446, 447, 448, 449, 450, 451, 452, 453, 454, 455, 456, 457, 458, 243, 244, 245, 109, 110, 111, 112, 113, 114, 246, 217, 218, 219, 459, 460, 461, 462, 463, 248, 249, 250, 210, 211, 251, 252, 253, 254, 136, 137, 138, 139, 176, 177, 178, 183, 184, 255, 213, 214, 215, 231, 232, 233, 234, 235, 236, 96, 97, 98, 99, 100, 101, 102, 103, 72, 73, 74, 75, 78, 105, 106, 107, 108, 144, 145, 146, 147, 148, 149, 150, 151, 152, 153, 154, 155, 156, 157, 158, 159, 160, 161, 162, 163, 164, 165, 166, 167, 168, 169, 170, 171, 172, 173, 174, 175, 179, 180, 181, 182, 185, 186, 187, 188, 189, 190, 191, 192, 193, 194, 195, 196, 197, 198, 199, 64, 65, 66, 67, 464, 465, 466, 467, 468, 469, 470, 471, 272, 273, 274, 275, 261, 276, 277, 278, 279, 264, 256, 280, 281, 282, 283, 284, 285, 286, 287, 288, 289, 290, 291, 292, 293, 294, 295, 296, 297, 298, 480, 481, 482, 483, 484, 485, 486, 487, 488, 489, 490, 491, 492, 493, 494, 495, 496, 497, 498, 499, 500, 501, 502, 503, 504, 505, 506] (by decide +kernel) (by decide +kernel)
set_option maxRecDepth 20000 in
theorem gL_law_L_texts : GoodIn wsL_law (va_wsS RL 168 yL_texts wsL_texts) := goodIn_app (goodIn_of _ (by decide +kernel)) ggL_law_L_texts
set_option maxRecDepth 20000 in
theorem ggL_law_X3_init : GoodIn wsL_law wsX3_init := goodIn_r _ [10, 11, 12, 13, 14, 15, 16, 17, 18, 19, 20, 21, 22, 23, 24, 25, 26, 27, 28, 29, 30, 31, 32, 33, 34, 35, 36, 37, 38, 39, 40, 41, 42, 43, 44, 45, 46, 47, 48, 49, 50, 51, 52, 53, 54, 55, 56, 57, 58, 59, 486, 487, 488, 489, 490, 491, 492, 493, 494, 495, 496, 497, 480, 481, 482, 483, 484, 485, 498, 499, 500, 501, 502, 503, 504, 505, 506] (by decide +kernel) (by decide +kernel)
set_option maxRecDepth 20000 in
theorem gL_law_X3_init : GoodIn wsL_law (wsX3_init) := ggL_law_X3_init
set_option maxRecDepth 20000 in
theorem ggL_law_X3_lay : GoodIn wsL_law wsX3_lay := goodIn_r _ [240, 17, 24, 241, 113, 2, 114, 209, 210, 211, 224, 225, 226, 127, 76, 77, 242, 243, 244, 16, 245, 89, 87, 109, 110, 111, 112, 35, 246, 217, 218, 219, 96, 97, 98, 23, 99, 50, 100, 101, 102, 103, 49, 72, 73, 74, 75, 78, 79, 80, 81, 34, 82, 83, 84, 85, 36, 37, 38, 86, 39, 88, 90, 91, 247, 248, 249, 250, 251, 252, 253, 254, 136, 137, 138, 139, 176, 177, 178, 183, 184, 255, 213, 214, 215, 231, 232, 233, 234, 235, 236, 256, 193, 194, 195, 480, 481, 482, 483, 484, 485, 486, 487, 488, 489, 490, 491, 492, 493, 494, 495, 496, 497, 498, 499] (by decide +kernel) (by decide +kernel)
set_option maxRecDepth 20000 in
theorem gL_law_X3_lay : GoodIn wsL_law (wsV RL 29 RX3 yX3_lay wsX3_lay) := goodIn_app (goodIn_of _ (by decide +kernel)) ggL_law_X3_lay
set_option maxRecDepth 20000 in
theorem ggL_law_X3_keep : GoodIn wsL_law wsX3_keep := goodIn_r _ [358, 19, 17, 20, 104, 79, 80, 16, 81, 34, 82, 83, 84, 85, 35, 36, 37, 38, 86, 39, 87, 88, 89, 90, 91, 105, 106, 107, 108, 109, 110, 111, 112, 113, 2, 114, 480, 481, 482, 483, 484, 485, 486, 487, 488, 489, 490, 491, 492, 493, 494, 495, 496, 497] (by decide +kernel) (by decide +kernel)
set_option maxRecDepth 20000 in
theorem gL_law_X3_keep : GoodIn wsL_law (wsV RL 92 RX3 yX3_keep wsX3_keep) := goodIn_app (goodIn_of _ (by decide +kernel)) ggL_law_X3_keep
set_option maxRecDepth 20000 in
theorem ggL_law_L_seen : GoodIn wsL_law wsL_seen := goodIn_r _ [304, 305, 306, 144, 145, 146, 2, 147, 17, 24, 28, 105, 106, 107, 16, 108, 109, 110, 111, 112, 35, 113, 114, 148, 149, 150, 151, 152, 153, 154, 155, 156, 157, 158, 159, 34, 160, 161, 162, 163, 164, 165, 166, 167, 36, 168, 169, 170, 171, 39, 172, 173, 174, 175, 176, 177, 138, 178, 179, 180, 181, 182, 183, 184, 185, 186, 187, 188, 189, 190, 191, 37, 192, 193, 194, 195, 196, 197, 198, 199, 64, 65, 66, 23, 67, 50, 200, 201, 202, 27, 203, 204, 272, 273, 274, 275, 261, 276, 277, 278, 279, 264, 256, 280, 281, 282, 283, 284, 285, 286, 287, 288, 289, 290, 291, 292, 293, 294, 295, 296, 297, 298, 38, 205, 206, 207, 208, 209, 210, 211, 212, 213, 214, 215, 216, 217, 218, 219, 220, 221, 222, 223, 224, 225, 226, 127, 76, 77, 227, 228, 229, 230, 87, 89, 86, 231, 232, 233, 234, 235, 236, 480, 481, 482, 483, 484, 485, 486, 487, 488, 489, 490, 491, 492, 493, 494, 495, 496, 497, 498, 499, 500, 501, 502, 503, 504, 505, 506] (by decide +kernel) (by decide +kernel)
set_option maxRecDepth 20000 in
theorem gL_law_L_seen : GoodIn wsL_law (va_wsS RL 62 yL_seen wsL_seen) := goodIn_app (goodIn_of _ (by decide +kernel)) ggL_law_L_seen
set_option maxRecDepth 20000 in
theorem ggL_law_L_drawn : GoodIn wsL_law wsL_drawn := goodIn_r _ [474, 475] (by decide +kernel) (by decide +kernel)
set_option maxRecDepth 20000 in
theorem gL_law_L_drawn : GoodIn wsL_law (va_wsS RL 171 yL_drawn wsL_drawn) := goodIn_app (goodIn_of _ (by decide +kernel)) ggL_law_L_drawn
set_option maxRecDepth 20000 in
theorem ggL_law_L_part : GoodIn wsL_law wsL_part := goodIn_r _ [478, 479] (by decide +kernel) (by decide +kernel)
set_option maxRecDepth 20000 in
theorem gL_law_L_part : GoodIn wsL_law (va_wsS RL 175 yL_part wsL_part) := goodIn_app (goodIn_of _ (by decide +kernel)) ggL_law_L_part
set_option maxRecDepth 20000 in
theorem ggL_law_X3_count : GoodIn wsL_law wsX3_count := goodIn_r _ [147, 17, 24, 28, 105, 106, 107, 16, 108, 109, 110, 111, 112, 35, 113, 2, 114, 148, 149, 150, 151, 152, 153, 154, 155, 156, 157, 158, 159, 34, 160, 161, 162, 163, 164, 165, 166, 167, 36, 168, 169, 170, 171, 39, 172, 173, 174, 175, 176, 177, 138, 178, 179, 180, 181, 182, 183, 184, 185, 186, 187, 188, 189, 190, 191, 37, 192, 193, 194, 195, 196, 197, 198, 199, 64, 65, 66, 23, 67, 50, 200, 201, 202, 27, 203, 204, 480, 481, 482, 483, 484, 485, 486, 487, 488, 489, 490, 491, 492, 493, 494, 495, 496, 497, 498, 499, 500, 501, 502, 503, 504, 505, 506] (by decide +kernel) (by decide +kernel)
set_option maxRecDepth 20000 in
theorem gL_law_X3_count : GoodIn wsL_law (wsV RL 13 RX3 yX3_count wsX3_count) := goodIn_app (goodIn_of _ (by decide +kernel)) ggL_law_X3_count
set_option maxRecDepth 20000 in
theorem ggL_law_X3_takeOff : GoodIn wsL_law wsX3_takeOff := goodIn_r _ [338, 17, 24, 261, 110, 111, 16, 112, 35, 113, 2, 114, 96, 97, 98, 23, 99, 50, 100, 101, 102, 103, 49, 72, 73, 74, 75, 76, 77, 78, 79, 80, 81, 34, 82, 83, 84, 85, 36, 37, 38, 86, 39, 87, 88, 89, 90, 91, 256, 193, 194, 195, 339, 141, 142, 143, 480, 481, 482, 483, 484, 485, 486, 487, 488, 489, 490, 491, 492, 493, 494, 495, 496, 497, 498, 499] (by decide +kernel) (by decide +kernel)
set_option maxRecDepth 20000 in
theorem gL_law_X3_takeOff : GoodIn wsL_law (wsV RL 35 RX3 yX3_takeOff wsX3_takeOff) := goodIn_app (goodIn_of _ (by decide +kernel)) ggL_law_X3_takeOff
set_option maxRecDepth 20000 in
theorem ggL_law_X3_bend : GoodIn wsL_law wsX3_bend := goodIn_r _ [313, 17, 24, 261, 110, 111, 16, 112, 35, 113, 2, 114, 224, 225, 226, 127, 76, 77, 264, 165, 166, 167, 36, 96, 97, 98, 23, 99, 50, 100, 101, 102, 103, 49, 72, 73, 74, 75, 78, 79, 80, 81, 34, 82, 83, 84, 85, 37, 38, 86, 39, 87, 88, 89, 90, 91, 314, 315, 316, 317, 480, 481, 482, 483, 484, 485, 486, 487, 488, 489, 490, 491, 492, 493, 494, 495, 496, 497, 498, 499] (by decide +kernel) (by decide +kernel)
set_option maxRecDepth 20000 in
theorem gL_law_X3_bend : GoodIn wsL_law (wsV RL 38 RX3 yX3_bend wsX3_bend) := goodIn_app (goodIn_of _ (by decide +kernel)) ggL_law_X3_bend
set_option maxRecDepth 20000 in
theorem ggL_law_X3_moveLead : GoodIn wsL_law wsX3_moveLead := goodIn_r _ [343, 17, 24, 209, 210, 2, 211, 127, 76, 77, 216, 217, 218, 16, 219, 35, 109, 110, 111, 112, 113, 114, 212, 213, 214, 215, 34, 96, 97, 98, 23, 99, 50, 100, 101, 102, 103, 49, 72, 73, 74, 75, 78, 79, 80, 81, 82, 83, 84, 85, 36, 37, 38, 86, 39, 87, 88, 89, 90, 91, 344, 345, 346, 347, 480, 481, 482, 483, 484, 485, 486, 487, 488, 489, 490, 491, 492, 493, 494, 495, 496, 497, 498, 499] (by decide +kernel) (by decide +kernel)
set_option maxRecDepth 20000 in
theorem gL_law_X3_moveLead : GoodIn wsL_law (wsV RL 41 RX3 yX3_moveLead wsX3_moveLead) := goodIn_app (goodIn_of _ (by decide +kernel)) ggL_law_X3_moveLead
set_option maxRecDepth 20000 in
theorem ggL_law_X3_setWidth : GoodIn wsL_law wsX3_setWidth := goodIn_r _ [351, 17, 24, 127, 76, 2, 77, 96, 97, 98, 23, 99, 50, 100, 101, 102, 103, 49, 72, 73, 74, 75, 78, 79, 80, 16, 81, 34, 82, 83, 84, 85, 35, 36, 37, 38, 86, 39, 87, 88, 89, 90, 91, 480, 481, 482, 483, 484, 485, 486, 487, 488, 489, 490, 491, 492, 493, 494, 495, 496, 497, 498, 499] (by decide +kernel) (by decide +kernel)
set_option maxRecDepth 20000 in
theorem gL_law_X3_setWidth : GoodIn wsL_law (wsV RL 44 RX3 yX3_setWidth wsX3_setWidth) := goodIn_app (goodIn_of _ (by decide +kernel)) ggL_law_X3_setWidth
set_option maxRecDepth 20000 in
theorem ggL_law_X3_changeTool : GoodIn wsL_law wsX3_changeTool := goodIn_r _ [118, 17, 24, 96, 97, 98, 23, 99, 50, 100, 101, 102, 103, 49, 72, 73, 74, 75, 76, 2, 77, 78, 79, 80, 16, 81, 34, 82, 83, 84, 85, 35, 36, 37, 38, 86, 39, 87, 88, 89, 90, 91, 480, 481, 482, 483, 484, 485, 486, 487, 488, 489, 490, 491, 492, 493, 494, 495, 496, 497, 498, 499] (by decide +kernel) (by decide +kernel)
set_option maxRecDepth 20000 in
theorem gL_law_X3_changeTool : GoodIn wsL_law (wsV RL 82 RX3 yX3_changeTool wsX3_changeTool) := goodIn_app (goodIn_of _ (by decide +kernel)) ggL_law_X3_changeTool
set_option maxRecDepth 20000 in
theorem ggL_law_X3_thread : GoodIn wsL_law wsX3_thread := goodIn_r _ [122, 17, 24, 96, 97, 98, 23, 99, 50, 100, 101, 102, 103, 49, 72, 73, 74, 75, 76, 2, 77, 78, 79, 80, 16, 81, 34, 82, 83, 84, 85, 35, 36, 37, 38, 86, 39, 87, 88, 89, 90, 91, 480, 481, 482, 483, 484, 485, 486, 487, 488, 489, 490, 491, 492, 493, 494, 495, 496, 497, 498, 499] (by decide +kernel) (by decide +kernel)
set_option maxRecDepth 20000 in
theorem gL_law_X3_thread : GoodIn wsL_law (wsV RL 85 RX3 yX3_thread wsX3_thread) := goodIn_app (goodIn_of _ (by decide +kernel)) ggL_law_X3_thread
set_option maxRecDepth 20000 in
theorem ggL_law_X3_pull : GoodIn wsL_law wsX3_pull := goodIn_r _ [321, 17, 24, 261, 110, 111, 16, 112, 35, 113, 2, 114, 127, 76, 77, 96, 97, 98, 23, 99, 50, 100, 101, 102, 103, 49, 72, 73, 74, 75, 78, 79, 80, 81, 34, 82, 83, 84, 85, 36, 37, 38, 86, 39, 87, 88, 89, 90, 91, 322, 133, 134, 135, 136, 137, 138, 139, 109, 140, 141, 142, 143, 256, 193, 194, 195, 480, 481, 482, 483, 484, 485, 486, 487, 488, 489, 490, 491, 492, 493, 494, 495, 496, 497, 498, 499] (by decide +kernel) (by decide +kernel)
set_option maxRecDepth 20000 in
theorem gL_law_X3_pull : GoodIn wsL_law (wsV RL 47 RX3 yX3_pull wsX3_pull) := goodIn_app (goodIn_of _ (by decide +kernel)) ggL_law_X3_pull
set_option maxRecDepth 20000 in
theorem ggL_law_X3_sample : GoodIn wsL_law wsX3_sample := goodIn_r _ [126, 17, 24, 127, 76, 2, 77, 105, 106, 107, 16, 108, 109, 110, 111, 112, 35, 113, 114, 96, 97, 98, 23, 99, 50, 100, 101, 102, 103, 49, 72, 73, 74, 75, 78, 79, 80, 81, 34, 82, 83, 84, 85, 36, 37, 38, 86, 39, 87, 88, 89, 90, 91, 128, 129, 130, 131, 132, 133, 134, 135, 136, 137, 138, 139, 140, 141, 142, 143, 480, 481, 482, 483, 484, 485, 486, 487, 488, 489, 490, 491, 492, 493, 494, 495, 496, 497, 498, 499] (by decide +kernel) (by decide +kernel)
set_option maxRecDepth 20000 in
theorem gL_law_X3_sample : GoodIn wsL_law (wsV RL 50 RX3 yX3_sample wsX3_sample) := goodIn_app (goodIn_of _ (by decide +kernel)) ggL_law_X3_sample
set_option maxRecDepth 20000 in
theorem ggL_law_X3_restore : GoodIn wsL_law wsX3_restore := goodIn_r _ [95, 20, 24, 17, 19, 96, 97, 98, 23, 99, 50, 100, 101, 102, 103, 49, 72, 73, 74, 75, 76, 2, 77, 78, 79, 80, 16, 81, 34, 82, 83, 84, 85, 35, 36, 37, 38, 86, 39, 87, 88, 89, 90, 91, 104, 105, 106, 107, 108, 109, 110, 111, 112, 113, 114, 480, 481, 482, 483, 484, 485, 498, 499, 486, 487, 488, 489, 490, 491, 492, 493, 494, 495, 496, 497] (by decide +kernel) (by decide +kernel)
set_option maxRecDepth 20000 in
theorem gL_law_X3_restore : GoodIn wsL_law (wsV RL 79 RX3 yX3_restore wsX3_restore) := goodIn_app (goodIn_of _ (by decide +kernel)) ggL_law_X3_restore
set_option maxRecDepth 20000 in
theorem ggL_law_L_refused : GoodIn wsL_law wsL_refused := goodIn_r _ [301, 302, 303, 6, 304, 305, 306, 144, 145, 146, 2, 147, 17, 24, 28, 105, 106, 107, 16, 108, 109, 110, 111, 112, 35, 113, 114, 148, 149, 150, 151, 152, 153, 154, 155, 156, 157, 158, 159, 34, 160, 161, 162, 163, 164, 165, 166, 167, 36, 168, 169, 170, 171, 39, 172, 173, 174, 175, 176, 177, 138, 178, 179, 180, 181, 182, 183, 184, 185, 186, 187, 188, 189, 190, 191, 37, 192, 193, 194, 195, 196, 197, 198, 199, 64, 65, 66, 23, 67, 50, 200, 201, 202, 27, 203, 204, 272, 273, 274, 275, 261, 276, 277, 278, 279, 264, 256, 280, 281, 282, 283, 284, 285, 286, 287, 288, 289, 290, 291, 292, 293, 294, 295, 296, 297, 298, 38, 205, 206, 207, 208, 209, 210, 211, 212, 213, 214, 215, 216, 217, 218, 219, 220, 221, 222, 223, 224, 225, 226, 127, 76, 77, 227, 228, 229, 230, 87, 89, 86, 231, 232, 233, 234, 235, 236, 307, 308, 309, 310, 311, 312, 313, 96, 97, 98, 99, 100, 101, 102, 103, 49, 72, 73, 74, 75, 78, 79, 80, 81, 82, 83, 84, 85, 88, 90, 91, 314, 315, 316, 317, 318, 319, 320, 321, 322, 133, 134, 135, 136, 137, 139, 140, 141, 142, 143, 267, 268, 269, 270, 271, 257, 258, 259, 260, 262, 263, 265, 266, 323, 324, 325, 326, 327, 328, 329, 330, 331, 332, 333, 334, 237, 238, 239, 240, 241, 242, 243, 244, 245, 246, 247, 248, 249, 250, 251, 252, 253, 254, 255, 335, 336, 337, 338, 339, 340, 341, 342, 343, 344, 345, 346, 347, 348, 349, 350, 351, 123, 124, 125, 126, 128, 129, 130, 131, 132, 480, 481, 482, 483, 484, 485, 486, 487, 488, 489, 490, 491, 492, 493, 494, 495, 496, 497, 498, 499, 500, 501, 502, 503, 504, 505, 506] (by decide +kernel) (by decide +kernel)
set_option maxRecDepth 20000 in
theorem gL_law_L_refused : GoodIn wsL_law (va_wsS RL 88 yL_refused wsL_refused) := goodIn_app (goodIn_of _ (by decide +kernel)) ggL_law_L_refused
set_option maxRecDepth 20000 in
theorem ggL_law_X3_undo : GoodIn wsL_law wsX3_undo := goodIn_r _ [63, 24, 17, 64, 65, 66, 23, 67, 50, 68, 69, 70, 71, 72, 73, 74, 75, 49, 76, 2, 77, 78, 79, 80, 16, 81, 34, 82, 83, 84, 85, 35, 36, 37, 38, 86, 39, 87, 88, 89, 90, 91, 480, 481, 482, 483, 484, 485, 498, 499, 486, 487, 488, 489, 490, 491, 492, 493, 494, 495, 496, 497] (by decide +kernel) (by decide +kernel)
set_option maxRecDepth 20000 in
theorem gL_law_X3_undo : GoodIn wsL_law (wsV RL 75 RX3 yX3_undo wsX3_undo) := goodIn_app (goodIn_of _ (by decide +kernel)) ggL_law_X3_undo
theorem dL_law_0 : decode cL_law 0 = .ok (.invokestatic 161, 3) := by decide +kernel
theorem dL_law_3 : decode cL_law 3 = .ok (.ifCond .eq 15, 3) := by decide +kernel
theorem dL_law_6 : decode cL_law 6 = .ok (.invokestatic 165, 3) := by decide +kernel
theorem dL_law_9 : decode cL_law 9 = .ok (.ifCond .eq 9, 3) := by decide +kernel
theorem dL_law_12 : decode cL_law 12 = .ok (.invokestatic 168, 3) := by decide +kernel
theorem dL_law_15 : decode cL_law 15 = .ok (.ifCond .ne 5, 3) := by decide +kernel
theorem dL_law_18 : decode cL_law 18 = .ok (.iconst 0, 1) := by decide +kernel
theorem dL_law_19 : decode cL_law 19 = .ok (.ireturn, 1) := by decide +kernel
theorem dL_law_20 : decode cL_law 20 = .ok (.new 14, 3) := by decide +kernel
theorem dL_law_23 : decode cL_law 23 = .ok (.dup, 1) := by decide +kernel
theorem dL_law_24 : decode cL_law 24 = .ok (.invokespecial 74, 3) := by decide +kernel
theorem dL_law_27 : decode cL_law 27 = .ok (.astore_n 1, 1) := by decide +kernel
theorem dL_law_28 : decode cL_law 28 = .ok (.bipush 64, 2) := by decide +kernel
theorem dL_law_30 : decode cL_law 30 = .ok (.newarray .long, 2) := by decide +kernel
theorem dL_law_32 : decode cL_law 32 = .ok (.astore_n 2, 1) := by decide +kernel
theorem dL_law_33 : decode cL_law 33 = .ok (.iconst 0, 1) := by decide +kernel
theorem dL_law_34 : decode cL_law 34 = .ok (.istore_n 3, 1) := by decide +kernel
theorem dL_law_35 : decode cL_law 35 = .ok (.aload_n 1, 1) := by decide +kernel
theorem dL_law_36 : decode cL_law 36 = .ok (.iconst 4, 1) := by decide +kernel
theorem dL_law_37 : decode cL_law 37 = .ok (.bipush 7, 2) := by decide +kernel
theorem dL_law_39 : decode cL_law 39 = .ok (.bipush 80, 2) := by decide +kernel
theorem dL_law_41 : decode cL_law 41 = .ok (.invokevirtual 29, 3) := by decide +kernel
theorem dL_law_44 : decode cL_law 44 = .ok (.bipush 95, 2) := by decide +kernel
theorem dL_law_46 : decode cL_law 46 = .ok (.if_icmp .ne 11, 3) := by decide +kernel
theorem dL_law_49 : decode cL_law 49 = .ok (.aload_n 1, 1) := by decide +kernel
theorem dL_law_50 : decode cL_law 50 = .ok (.invokevirtual 92, 3) := by decide +kernel
theorem dL_law_53 : decode cL_law 53 = .ok (.iconst 1, 1) := by decide +kernel
theorem dL_law_54 : decode cL_law 54 = .ok (.if_icmp .eq 5, 3) := by decide +kernel
theorem dL_law_57 : decode cL_law 57 = .ok (.iconst 0, 1) := by decide +kernel
theorem dL_law_58 : decode cL_law 58 = .ok (.ireturn, 1) := by decide +kernel
theorem dL_law_59 : decode cL_law 59 = .ok (.aload_n 1, 1) := by decide +kernel
theorem dL_law_60 : decode cL_law 60 = .ok (.invokestatic 62, 3) := by decide +kernel
theorem dL_law_63 : decode cL_law 63 = .ok (.lstore 4, 2) := by decide +kernel
theorem dL_law_65 : decode cL_law 65 = .ok (.iconst 0, 1) := by decide +kernel
theorem dL_law_66 : decode cL_law 66 = .ok (.istore 6, 2) := by decide +kernel
theorem dL_law_68 : decode cL_law 68 = .ok (.iload 6, 2) := by decide +kernel
theorem dL_law_70 : decode cL_law 70 = .ok (.bipush 28, 2) := by decide +kernel
theorem dL_law_72 : decode cL_law 72 = .ok (.if_icmp .ge 327, 3) := by decide +kernel
theorem dL_law_75 : decode cL_law 75 = .ok (.aload_n 0, 1) := by decide +kernel
theorem dL_law_76 : decode cL_law 76 = .ok (.iload 6, 2) := by decide +kernel
theorem dL_law_78 : decode cL_law 78 = .ok (.invokestatic 171, 3) := by decide +kernel
theorem dL_law_81 : decode cL_law 81 = .ok (.istore 7, 2) := by decide +kernel
theorem dL_law_83 : decode cL_law 83 = .ok (.iload 7, 2) := by decide +kernel
theorem dL_law_85 : decode cL_law 85 = .ok (.bipush 13, 2) := by decide +kernel
theorem dL_law_87 : decode cL_law 87 = .ok (.invokestatic 175, 3) := by decide +kernel
theorem dL_law_90 : decode cL_law 90 = .ok (.istore 8, 2) := by decide +kernel
theorem dL_law_92 : decode cL_law 92 = .ok (.aload_n 2, 1) := by decide +kernel
theorem dL_law_93 : decode cL_law 93 = .ok (.iload_n 3, 1) := by decide +kernel
theorem dL_law_94 : decode cL_law 94 = .ok (.aload_n 1, 1) := by decide +kernel
theorem dL_law_95 : decode cL_law 95 = .ok (.invokestatic 62, 3) := by decide +kernel
theorem dL_law_98 : decode cL_law 98 = .ok (.lastore, 1) := by decide +kernel
theorem dL_law_99 : decode cL_law 99 = .ok (.aload_n 1, 1) := by decide +kernel
theorem dL_law_100 : decode cL_law 100 = .ok (.bipush 12, 2) := by decide +kernel
theorem dL_law_102 : decode cL_law 102 = .ok (.invokevirtual 13, 3) := by decide +kernel
theorem dL_law_105 : decode cL_law 105 = .ok (.istore 9, 2) := by decide +kernel
theorem dL_law_107 : decode cL_law 107 = .ok (.iload 7, 2) := by decide +kernel
theorem dL_law_109 : decode cL_law 109 = .ok (.iconst 4, 1) := by decide +kernel
theorem dL_law_110 : decode cL_law 110 = .ok (.ishr, 1) := by decide +kernel
theorem dL_law_111 : decode cL_law 111 = .ok (.bipush 13, 2) := by decide +kernel
theorem dL_law_113 : decode cL_law 113 = .ok (.invokestatic 175, 3) := by decide +kernel
theorem dL_law_116 : decode cL_law 116 = .ok (.istore 10, 2) := by decide +kernel
theorem dL_law_118 : decode cL_law 118 = .ok (.bipush 8, 2) := by decide +kernel
theorem dL_law_120 : decode cL_law 120 = .ok (.iload 7, 2) := by decide +kernel
theorem dL_law_122 : decode cL_law 122 = .ok (.bipush 12, 2) := by decide +kernel
theorem dL_law_124 : decode cL_law 124 = .ok (.ishr, 1) := by decide +kernel
theorem dL_law_125 : decode cL_law 125 = .ok (.sipush 195, 3) := by decide +kernel
theorem dL_law_128 : decode cL_law 128 = .ok (.invokestatic 175, 3) := by decide +kernel
theorem dL_law_131 : decode cL_law 131 = .ok (.iadd, 1) := by decide +kernel
theorem dL_law_132 : decode cL_law 132 = .ok (.istore 11, 2) := by decide +kernel
theorem dL_law_134 : decode cL_law 134 = .ok (.iload 8, 2) := by decide +kernel
theorem dL_law_136 : decode cL_law 136 = .ok (.iconst 5, 1) := by decide +kernel
theorem dL_law_137 : decode cL_law 137 = .ok (.if_icmp .ge 24, 3) := by decide +kernel
theorem dL_law_140 : decode cL_law 140 = .ok (.aload_n 1, 1) := by decide +kernel
theorem dL_law_141 : decode cL_law 141 = .ok (.iload 10, 2) := by decide +kernel
theorem dL_law_143 : decode cL_law 143 = .ok (.iload 7, 2) := by decide +kernel
theorem dL_law_145 : decode cL_law 145 = .ok (.bipush 8, 2) := by decide +kernel
theorem dL_law_147 : decode cL_law 147 = .ok (.ishr, 1) := by decide +kernel
theorem dL_law_148 : decode cL_law 148 = .ok (.bipush 17, 2) := by decide +kernel
theorem dL_law_150 : decode cL_law 150 = .ok (.invokestatic 175, 3) := by decide +kernel
theorem dL_law_153 : decode cL_law 153 = .ok (.iload 11, 2) := by decide +kernel
theorem dL_law_155 : decode cL_law 155 = .ok (.invokevirtual 29, 3) := by decide +kernel
theorem dL_law_158 : decode cL_law 158 = .ok (.goto 191, 3) := by decide +kernel
theorem dL_law_161 : decode cL_law 161 = .ok (.iload 8, 2) := by decide +kernel
theorem dL_law_163 : decode cL_law 163 = .ok (.iconst 5, 1) := by decide +kernel
theorem dL_law_164 : decode cL_law 164 = .ok (.if_icmp .ne 12, 3) := by decide +kernel
theorem dL_law_167 : decode cL_law 167 = .ok (.aload_n 1, 1) := by decide +kernel
theorem dL_law_168 : decode cL_law 168 = .ok (.iload 10, 2) := by decide +kernel
theorem dL_law_170 : decode cL_law 170 = .ok (.invokevirtual 35, 3) := by decide +kernel
theorem dL_law_173 : decode cL_law 173 = .ok (.goto 176, 3) := by decide +kernel
theorem dL_law_176 : decode cL_law 176 = .ok (.iload 8, 2) := by decide +kernel
theorem dL_law_178 : decode cL_law 178 = .ok (.bipush 6, 2) := by decide +kernel
theorem dL_law_180 : decode cL_law 180 = .ok (.if_icmp .ne 14, 3) := by decide +kernel
theorem dL_law_183 : decode cL_law 183 = .ok (.aload_n 1, 1) := by decide +kernel
theorem dL_law_184 : decode cL_law 184 = .ok (.iload 10, 2) := by decide +kernel
theorem dL_law_186 : decode cL_law 186 = .ok (.iload 11, 2) := by decide +kernel
theorem dL_law_188 : decode cL_law 188 = .ok (.invokevirtual 38, 3) := by decide +kernel
theorem dL_law_191 : decode cL_law 191 = .ok (.goto 158, 3) := by decide +kernel
theorem dL_law_194 : decode cL_law 194 = .ok (.iload 8, 2) := by decide +kernel
theorem dL_law_196 : decode cL_law 196 = .ok (.bipush 7, 2) := by decide +kernel
theorem dL_law_198 : decode cL_law 198 = .ok (.if_icmp .ne 31, 3) := by decide +kernel
theorem dL_law_201 : decode cL_law 201 = .ok (.aload_n 1, 1) := by decide +kernel
theorem dL_law_202 : decode cL_law 202 = .ok (.iload 7, 2) := by decide +kernel
theorem dL_law_204 : decode cL_law 204 = .ok (.bipush 8, 2) := by decide +kernel
theorem dL_law_206 : decode cL_law 206 = .ok (.ishr, 1) := by decide +kernel
theorem dL_law_207 : decode cL_law 207 = .ok (.bipush 17, 2) := by decide +kernel
theorem dL_law_209 : decode cL_law 209 = .ok (.invokestatic 175, 3) := by decide +kernel
theorem dL_law_212 : decode cL_law 212 = .ok (.iload 7, 2) := by decide +kernel
theorem dL_law_214 : decode cL_law 214 = .ok (.bipush 12, 2) := by decide +kernel
theorem dL_law_216 : decode cL_law 216 = .ok (.ishr, 1) := by decide +kernel
theorem dL_law_217 : decode cL_law 217 = .ok (.sipush 620, 3) := by decide +kernel
theorem dL_law_220 : decode cL_law 220 = .ok (.invokestatic 175, 3) := by decide +kernel
theorem dL_law_223 : decode cL_law 223 = .ok (.invokevirtual 41, 3) := by decide +kernel
theorem dL_law_226 : decode cL_law 226 = .ok (.goto 123, 3) := by decide +kernel
theorem dL_law_229 : decode cL_law 229 = .ok (.iload 8, 2) := by decide +kernel
theorem dL_law_231 : decode cL_law 231 = .ok (.bipush 8, 2) := by decide +kernel
theorem dL_law_233 : decode cL_law 233 = .ok (.if_icmp .ne 20, 3) := by decide +kernel
theorem dL_law_236 : decode cL_law 236 = .ok (.aload_n 1, 1) := by decide +kernel
theorem dL_law_237 : decode cL_law 237 = .ok (.iload 7, 2) := by decide +kernel
theorem dL_law_239 : decode cL_law 239 = .ok (.bipush 8, 2) := by decide +kernel
theorem dL_law_241 : decode cL_law 241 = .ok (.ishr, 1) := by decide +kernel
theorem dL_law_242 : decode cL_law 242 = .ok (.bipush 52, 2) := by decide +kernel
theorem dL_law_244 : decode cL_law 244 = .ok (.invokestatic 175, 3) := by decide +kernel
theorem dL_law_247 : decode cL_law 247 = .ok (.invokevirtual 44, 3) := by decide +kernel
theorem dL_law_250 : decode cL_law 250 = .ok (.goto 99, 3) := by decide +kernel
theorem dL_law_253 : decode cL_law 253 = .ok (.iload 8, 2) := by decide +kernel
theorem dL_law_255 : decode cL_law 255 = .ok (.bipush 9, 2) := by decide +kernel
theorem dL_law_257 : decode cL_law 257 = .ok (.if_icmp .ne 29, 3) := by decide +kernel
theorem dL_law_260 : decode cL_law 260 = .ok (.iload 7, 2) := by decide +kernel
theorem dL_law_262 : decode cL_law 262 = .ok (.bipush 8, 2) := by decide +kernel
theorem dL_law_264 : decode cL_law 264 = .ok (.ishr, 1) := by decide +kernel
theorem dL_law_265 : decode cL_law 265 = .ok (.iconst 2, 1) := by decide +kernel
theorem dL_law_266 : decode cL_law 266 = .ok (.invokestatic 175, 3) := by decide +kernel
theorem dL_law_269 : decode cL_law 269 = .ok (.ifCond .ne 10, 3) := by decide +kernel
theorem dL_law_272 : decode cL_law 272 = .ok (.aload_n 1, 1) := by decide +kernel
theorem dL_law_273 : decode cL_law 273 = .ok (.invokevirtual 82, 3) := by decide +kernel
theorem dL_law_276 : decode cL_law 276 = .ok (.goto 73, 3) := by decide +kernel
theorem dL_law_279 : decode cL_law 279 = .ok (.aload_n 1, 1) := by decide +kernel
theorem dL_law_280 : decode cL_law 280 = .ok (.invokevirtual 85, 3) := by decide +kernel
theorem dL_law_283 : decode cL_law 283 = .ok (.goto 66, 3) := by decide +kernel
theorem dL_law_286 : decode cL_law 286 = .ok (.iload 8, 2) := by decide +kernel
theorem dL_law_288 : decode cL_law 288 = .ok (.bipush 10, 2) := by decide +kernel
theorem dL_law_290 : decode cL_law 290 = .ok (.if_icmp .ne 22, 3) := by decide +kernel
theorem dL_law_293 : decode cL_law 293 = .ok (.aload_n 1, 1) := by decide +kernel
theorem dL_law_294 : decode cL_law 294 = .ok (.iload 10, 2) := by decide +kernel
theorem dL_law_296 : decode cL_law 296 = .ok (.iload 7, 2) := by decide +kernel
theorem dL_law_298 : decode cL_law 298 = .ok (.bipush 8, 2) := by decide +kernel
theorem dL_law_300 : decode cL_law 300 = .ok (.ishr, 1) := by decide +kernel
theorem dL_law_301 : decode cL_law 301 = .ok (.bipush 102, 2) := by decide +kernel
theorem dL_law_303 : decode cL_law 303 = .ok (.invokestatic 175, 3) := by decide +kernel
theorem dL_law_306 : decode cL_law 306 = .ok (.invokevirtual 47, 3) := by decide +kernel
theorem dL_law_309 : decode cL_law 309 = .ok (.goto 40, 3) := by decide +kernel
theorem dL_law_312 : decode cL_law 312 = .ok (.iload 8, 2) := by decide +kernel
theorem dL_law_314 : decode cL_law 314 = .ok (.bipush 11, 2) := by decide +kernel
theorem dL_law_316 : decode cL_law 316 = .ok (.if_icmp .ne 29, 3) := by decide +kernel
theorem dL_law_319 : decode cL_law 319 = .ok (.aload_n 1, 1) := by decide +kernel
theorem dL_law_320 : decode cL_law 320 = .ok (.iload 7, 2) := by decide +kernel
theorem dL_law_322 : decode cL_law 322 = .ok (.bipush 8, 2) := by decide +kernel
theorem dL_law_324 : decode cL_law 324 = .ok (.ishr, 1) := by decide +kernel
theorem dL_law_325 : decode cL_law 325 = .ok (.iconst 5, 1) := by decide +kernel
theorem dL_law_326 : decode cL_law 326 = .ok (.invokestatic 175, 3) := by decide +kernel
theorem dL_law_329 : decode cL_law 329 = .ok (.iload 7, 2) := by decide +kernel
theorem dL_law_331 : decode cL_law 331 = .ok (.bipush 12, 2) := by decide +kernel
theorem dL_law_333 : decode cL_law 333 = .ok (.ishr, 1) := by decide +kernel
theorem dL_law_334 : decode cL_law 334 = .ok (.bipush 102, 2) := by decide +kernel
theorem dL_law_336 : decode cL_law 336 = .ok (.invokestatic 175, 3) := by decide +kernel
theorem dL_law_339 : decode cL_law 339 = .ok (.invokevirtual 50, 3) := by decide +kernel
theorem dL_law_342 : decode cL_law 342 = .ok (.goto 7, 3) := by decide +kernel
theorem dL_law_345 : decode cL_law 345 = .ok (.aload_n 1, 1) := by decide +kernel
theorem dL_law_346 : decode cL_law 346 = .ok (.invokevirtual 79, 3) := by decide +kernel
theorem dL_law_349 : decode cL_law 349 = .ok (.istore 12, 2) := by decide +kernel
theorem dL_law_351 : decode cL_law 351 = .ok (.iload 12, 2) := by decide +kernel
theorem dL_law_353 : decode cL_law 353 = .ok (.ifCond .ge 27, 3) := by decide +kernel
theorem dL_law_356 : decode cL_law 356 = .ok (.aload_n 1, 1) := by decide +kernel
theorem dL_law_357 : decode cL_law 357 = .ok (.bipush 12, 2) := by decide +kernel
theorem dL_law_359 : decode cL_law 359 = .ok (.invokevirtual 13, 3) := by decide +kernel
theorem dL_law_362 : decode cL_law 362 = .ok (.iload 9, 2) := by decide +kernel
theorem dL_law_364 : decode cL_law 364 = .ok (.if_icmp .ne 14, 3) := by decide +kernel
theorem dL_law_367 : decode cL_law 367 = .ok (.aload_n 1, 1) := by decide +kernel
theorem dL_law_368 : decode cL_law 368 = .ok (.invokestatic 62, 3) := by decide +kernel
theorem dL_law_371 : decode cL_law 371 = .ok (.aload_n 2, 1) := by decide +kernel
theorem dL_law_372 : decode cL_law 372 = .ok (.iload_n 3, 1) := by decide +kernel
theorem dL_law_373 : decode cL_law 373 = .ok (.laload, 1) := by decide +kernel
theorem dL_law_374 : decode cL_law 374 = .ok (.lcmp, 1) := by decide +kernel
theorem dL_law_375 : decode cL_law 375 = .ok (.ifCond .eq 5, 3) := by decide +kernel
theorem dL_law_378 : decode cL_law 378 = .ok (.iconst 0, 1) := by decide +kernel
theorem dL_law_379 : decode cL_law 379 = .ok (.ireturn, 1) := by decide +kernel
theorem dL_law_380 : decode cL_law 380 = .ok (.iload_n 3, 1) := by decide +kernel
theorem dL_law_381 : decode cL_law 381 = .ok (.iload 12, 2) := by decide +kernel
theorem dL_law_383 : decode cL_law 383 = .ok (.ifCond .ge 7, 3) := by decide +kernel
theorem dL_law_386 : decode cL_law 386 = .ok (.iconst 0, 1) := by decide +kernel
theorem dL_law_387 : decode cL_law 387 = .ok (.goto 4, 3) := by decide +kernel
theorem dL_law_390 : decode cL_law 390 = .ok (.iconst 1, 1) := by decide +kernel
theorem dL_law_391 : decode cL_law 391 = .ok (.iadd, 1) := by decide +kernel
theorem dL_law_392 : decode cL_law 392 = .ok (.istore_n 3, 1) := by decide +kernel
theorem dL_law_393 : decode cL_law 393 = .ok (.iinc 6 1, 3) := by decide +kernel
theorem dL_law_396 : decode cL_law 396 = .ok (.goto (-328), 3) := by decide +kernel
theorem dL_law_399 : decode cL_law 399 = .ok (.aload_n 2, 1) := by decide +kernel
theorem dL_law_400 : decode cL_law 400 = .ok (.iload_n 3, 1) := by decide +kernel
theorem dL_law_401 : decode cL_law 401 = .ok (.aload_n 1, 1) := by decide +kernel
theorem dL_law_402 : decode cL_law 402 = .ok (.invokestatic 62, 3) := by decide +kernel
theorem dL_law_405 : decode cL_law 405 = .ok (.lastore, 1) := by decide +kernel
theorem dL_law_406 : decode cL_law 406 = .ok (.aload_n 1, 1) := by decide +kernel
theorem dL_law_407 : decode cL_law 407 = .ok (.invokestatic 88, 3) := by decide +kernel
theorem dL_law_410 : decode cL_law 410 = .ok (.ifCond .ne 5, 3) := by decide +kernel
theorem dL_law_413 : decode cL_law 413 = .ok (.iconst 0, 1) := by decide +kernel
theorem dL_law_414 : decode cL_law 414 = .ok (.ireturn, 1) := by decide +kernel
theorem dL_law_415 : decode cL_law 415 = .ok (.iconst 0, 1) := by decide +kernel
theorem dL_law_416 : decode cL_law 416 = .ok (.istore 6, 2) := by decide +kernel
theorem dL_law_418 : decode cL_law 418 = .ok (.aload_n 1, 1) := by decide +kernel
theorem dL_law_419 : decode cL_law 419 = .ok (.bipush 12, 2) := by decide +kernel
theorem dL_law_421 : decode cL_law 421 = .ok (.invokevirtual 13, 3) := by decide +kernel
theorem dL_law_424 : decode cL_law 424 = .ok (.ifCond .le 56, 3) := by decide +kernel
theorem dL_law_427 : decode cL_law 427 = .ok (.iload 6, 2) := by decide +kernel
theorem dL_law_429 : decode cL_law 429 = .ok (.iload_n 3, 1) := by decide +kernel
theorem dL_law_430 : decode cL_law 430 = .ok (.if_icmp .ge 50, 3) := by decide +kernel
theorem dL_law_433 : decode cL_law 433 = .ok (.aload_n 1, 1) := by decide +kernel
theorem dL_law_434 : decode cL_law 434 = .ok (.bipush 12, 2) := by decide +kernel
theorem dL_law_436 : decode cL_law 436 = .ok (.invokevirtual 13, 3) := by decide +kernel
theorem dL_law_439 : decode cL_law 439 = .ok (.istore 7, 2) := by decide +kernel
theorem dL_law_441 : decode cL_law 441 = .ok (.iload 6, 2) := by decide +kernel
theorem dL_law_443 : decode cL_law 443 = .ok (.iconst 3, 1) := by decide +kernel
theorem dL_law_444 : decode cL_law 444 = .ok (.if_icmp .gt 28, 3) := by decide +kernel
theorem dL_law_447 : decode cL_law 447 = .ok (.aload_n 1, 1) := by decide +kernel
theorem dL_law_448 : decode cL_law 448 = .ok (.invokestatic 62, 3) := by decide +kernel
theorem dL_law_451 : decode cL_law 451 = .ok (.aload_n 2, 1) := by decide +kernel
theorem dL_law_452 : decode cL_law 452 = .ok (.iload_n 3, 1) := by decide +kernel
theorem dL_law_453 : decode cL_law 453 = .ok (.iload 6, 2) := by decide +kernel
theorem dL_law_455 : decode cL_law 455 = .ok (.isub, 1) := by decide +kernel
theorem dL_law_456 : decode cL_law 456 = .ok (.laload, 1) := by decide +kernel
theorem dL_law_457 : decode cL_law 457 = .ok (.lcmp, 1) := by decide +kernel
theorem dL_law_458 : decode cL_law 458 = .ok (.ifCond .ne 14, 3) := by decide +kernel
theorem dL_law_461 : decode cL_law 461 = .ok (.aload_n 1, 1) := by decide +kernel
theorem dL_law_462 : decode cL_law 462 = .ok (.invokevirtual 75, 3) := by decide +kernel
theorem dL_law_465 : decode cL_law 465 = .ok (.iload 7, 2) := by decide +kernel
theorem dL_law_467 : decode cL_law 467 = .ok (.iconst 1, 1) := by decide +kernel
theorem dL_law_468 : decode cL_law 468 = .ok (.isub, 1) := by decide +kernel
theorem dL_law_469 : decode cL_law 469 = .ok (.if_icmp .eq 5, 3) := by decide +kernel
theorem dL_law_472 : decode cL_law 472 = .ok (.iconst 0, 1) := by decide +kernel
theorem dL_law_473 : decode cL_law 473 = .ok (.ireturn, 1) := by decide +kernel
theorem dL_law_474 : decode cL_law 474 = .ok (.iinc 6 1, 3) := by decide +kernel
theorem dL_law_477 : decode cL_law 477 = .ok (.goto (-59), 3) := by decide +kernel
theorem dL_law_480 : decode cL_law 480 = .ok (.aload_n 1, 1) := by decide +kernel
theorem dL_law_481 : decode cL_law 481 = .ok (.bipush 12, 2) := by decide +kernel
theorem dL_law_483 : decode cL_law 483 = .ok (.invokevirtual 13, 3) := by decide +kernel
theorem dL_law_486 : decode cL_law 486 = .ok (.ifCond .le 12, 3) := by decide +kernel
theorem dL_law_489 : decode cL_law 489 = .ok (.aload_n 1, 1) := by decide +kernel
theorem dL_law_490 : decode cL_law 490 = .ok (.invokevirtual 75, 3) := by decide +kernel
theorem dL_law_493 : decode cL_law 493 = .ok (.ifCond .ge (-13), 3) := by decide +kernel
theorem dL_law_496 : decode cL_law 496 = .ok (.iconst 0, 1) := by decide +kernel
theorem dL_law_497 : decode cL_law 497 = .ok (.ireturn, 1) := by decide +kernel
theorem dL_law_498 : decode cL_law 498 = .ok (.aload_n 1, 1) := by decide +kernel
theorem dL_law_499 : decode cL_law 499 = .ok (.invokevirtual 75, 3) := by decide +kernel
theorem dL_law_502 : decode cL_law 502 = .ok (.bipush (-5), 2) := by decide +kernel
theorem dL_law_504 : decode cL_law 504 = .ok (.if_icmp .ne 35, 3) := by decide +kernel
theorem dL_law_507 : decode cL_law 507 = .ok (.aload_n 1, 1) := by decide +kernel
theorem dL_law_508 : decode cL_law 508 = .ok (.invokevirtual 79, 3) := by decide +kernel
theorem dL_law_511 : decode cL_law 511 = .ok (.iconst 1, 1) := by decide +kernel
theorem dL_law_512 : decode cL_law 512 = .ok (.if_icmp .ne 27, 3) := by decide +kernel
theorem dL_law_515 : decode cL_law 515 = .ok (.aload_n 1, 1) := by decide +kernel
theorem dL_law_516 : decode cL_law 516 = .ok (.invokestatic 62, 3) := by decide +kernel
theorem dL_law_519 : decode cL_law 519 = .ok (.lload 4, 2) := by decide +kernel
theorem dL_law_521 : decode cL_law 521 = .ok (.lcmp, 1) := by decide +kernel
theorem dL_law_522 : decode cL_law 522 = .ok (.ifCond .ne 17, 3) := by decide +kernel
theorem dL_law_525 : decode cL_law 525 = .ok (.aload_n 1, 1) := by decide +kernel
theorem dL_law_526 : decode cL_law 526 = .ok (.bipush 12, 2) := by decide +kernel
theorem dL_law_528 : decode cL_law 528 = .ok (.invokevirtual 13, 3) := by decide +kernel
theorem dL_law_531 : decode cL_law 531 = .ok (.iconst 1, 1) := by decide +kernel
theorem dL_law_532 : decode cL_law 532 = .ok (.if_icmp .ne 7, 3) := by decide +kernel
theorem dL_law_535 : decode cL_law 535 = .ok (.iconst 1, 1) := by decide +kernel
theorem dL_law_536 : decode cL_law 536 = .ok (.goto 4, 3) := by decide +kernel
theorem dL_law_539 : decode cL_law 539 = .ok (.iconst 0, 1) := by decide +kernel
theorem dL_law_540 : decode cL_law 540 = .ok (.ireturn, 1) := by decide +kernel
abbrev vwCl : List vw_C := [(RX0, TX0, 12), (RX1, TX1, 2), (RX2, TX2, 7), (RX3, TX3, 6)]
