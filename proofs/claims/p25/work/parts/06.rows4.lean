set_option maxRecDepth 20000 in
theorem gL_refusesAny_X3_pull : GoodIn wsL_refusesAny (wsV RL 47 RX3 yX3_pull wsX3_pull) := goodIn_app (goodIn_of _ (by decide +kernel)) ggL_refusesAny_X3_pull
set_option maxRecDepth 20000 in
theorem ggL_refusesAny_X3_sample : GoodIn wsL_refusesAny wsX3_sample := goodIn_r _ [146, 6, 7, 17, 18, 4, 19, 147, 148, 149, 23, 150, 27, 28, 29, 30, 31, 9, 10, 36, 37, 38, 39, 40, 41, 42, 43, 44, 45, 46, 47, 48, 49, 50, 51, 52, 53, 54, 55, 56, 57, 58, 59, 60, 61, 62, 63, 64, 26, 65, 25, 66, 67, 151, 152, 153, 154, 155, 139, 140, 141, 76, 77, 78, 79, 142, 105, 106, 107, 273, 274, 275, 276, 277, 278, 279, 280, 281, 282, 283, 284, 285, 286, 287, 288, 289, 290, 291, 292] (by decide +kernel) (by decide +kernel)
set_option maxRecDepth 20000 in
theorem gL_refusesAny_X3_sample : GoodIn wsL_refusesAny (wsV RL 50 RX3 yX3_sample wsX3_sample) := goodIn_app (goodIn_of _ (by decide +kernel)) ggL_refusesAny_X3_sample
set_option maxRecDepth 20000 in
theorem ggL_refusesAny_X3_wire : GoodIn wsL_refusesAny wsX3_wire := goodIn_r _ [159, 6, 103, 28, 29, 23, 30, 31, 9, 4, 10, 160, 161, 162, 163, 112, 113, 114, 115, 60, 95, 96, 97, 98, 61, 164, 165, 166, 167, 168, 169, 170, 171, 27, 172, 173, 174, 175, 55, 176, 177, 178, 179, 180, 181, 182, 183, 64, 184, 185, 186, 187, 80, 81, 78, 82, 188, 189, 190, 191, 83, 84, 192, 193, 194, 195, 196, 197, 198, 199, 200, 201, 202, 203, 204, 205, 206, 62, 273, 274, 275, 276, 277, 278, 279, 280, 281, 282, 283, 284, 285, 286, 287, 288, 289, 290] (by decide +kernel) (by decide +kernel)
set_option maxRecDepth 20000 in
theorem gL_refusesAny_X3_wire : GoodIn wsL_refusesAny (wsV RL 19 RX3 yX3_wire wsX3_wire) := goodIn_app (goodIn_of _ (by decide +kernel)) ggL_refusesAny_X3_wire
set_option maxRecDepth 20000 in
theorem ggL_refusesAny_X3_heightAt : GoodIn wsL_refusesAny wsX3_heightAt := goodIn_r _ [210, 6, 103, 28, 29, 23, 30, 31, 9, 4, 10, 17, 18, 19, 112, 113, 114, 115, 60, 211, 192, 193, 194, 273, 274, 275, 276, 277, 278, 279, 280, 281, 282, 283, 284, 285, 286, 287, 288, 289, 290] (by decide +kernel) (by decide +kernel)
set_option maxRecDepth 20000 in
theorem gL_refusesAny_X3_heightAt : GoodIn wsL_refusesAny (wsV RL 53 RX3 yX3_heightAt wsX3_heightAt) := goodIn_app (goodIn_of _ (by decide +kernel)) ggL_refusesAny_X3_heightAt
set_option maxRecDepth 20000 in
theorem ggL_refusesAny_X3_crossing : GoodIn wsL_refusesAny wsX3_crossing := goodIn_r _ [215, 6, 103, 28, 29, 23, 30, 31, 9, 4, 10, 17, 18, 19, 216, 169, 170, 171, 27, 172, 173, 174, 175, 55, 217, 189, 190, 191, 80, 81, 78, 82, 83, 84, 112, 113, 114, 115, 60, 218, 185, 186, 187, 188, 192, 193, 194, 195, 219, 181, 182, 183, 64, 168, 184, 273, 274, 275, 276, 277, 278, 279, 280, 281, 282, 283, 284, 285, 286, 287, 288, 289, 290] (by decide +kernel) (by decide +kernel)
set_option maxRecDepth 20000 in
theorem gL_refusesAny_X3_crossing : GoodIn wsL_refusesAny (wsV RL 56 RX3 yX3_crossing wsX3_crossing) := goodIn_app (goodIn_of _ (by decide +kernel)) ggL_refusesAny_X3_crossing
set_option maxRecDepth 20000 in
theorem ggL_refusesAny_X3_lead : GoodIn wsL_refusesAny wsX3_lead := goodIn_r _ [223, 6, 11, 12, 4, 13, 125, 86, 87, 23, 88, 55, 124, 33, 34, 35, 31, 27, 28, 29, 30, 9, 10, 273, 274, 275, 276, 277, 278, 279, 280, 281, 282, 283, 284, 285, 286, 287, 288, 289, 290] (by decide +kernel) (by decide +kernel)
set_option maxRecDepth 20000 in
theorem gL_refusesAny_X3_lead : GoodIn wsL_refusesAny (wsV RL 23 RX3 yX3_lead wsX3_lead) := goodIn_app (goodIn_of _ (by decide +kernel)) ggL_refusesAny_X3_lead
set_option maxRecDepth 20000 in
theorem ggL_refusesAny_X3_bestHeight : GoodIn wsL_refusesAny wsX3_bestHeight := goodIn_r _ [227, 6, 103, 28, 29, 23, 30, 31, 9, 4, 10, 17, 18, 19, 228, 229, 230, 231, 232, 177, 178, 179, 180, 181, 182, 183, 64, 168, 169, 170, 171, 27, 172, 173, 174, 175, 55, 184, 185, 186, 187, 80, 81, 78, 82, 188, 189, 190, 191, 83, 84, 192, 193, 194, 195, 113, 114, 115, 60, 176, 273, 274, 275, 276, 277, 278, 279, 280, 281, 282, 283, 284, 285, 286, 287, 288, 289, 290] (by decide +kernel) (by decide +kernel)
set_option maxRecDepth 20000 in
theorem gL_refusesAny_X3_bestHeight : GoodIn wsL_refusesAny (wsV RL 59 RX3 yX3_bestHeight wsX3_bestHeight) := goodIn_app (goodIn_of _ (by decide +kernel)) ggL_refusesAny_X3_bestHeight
set_option maxRecDepth 20000 in
theorem ggL_refusesAny_X3_laysLeft : GoodIn wsL_refusesAny wsX3_laysLeft := goodIn_r _ [236, 6, 14, 15, 4, 16, 17, 18, 19, 237, 238, 239, 23, 240, 26, 25, 63, 89, 90, 91, 92, 93, 94, 273, 274, 275, 276, 277, 278, 279, 280, 281, 282, 283, 284, 285, 286, 287, 288, 289, 290] (by decide +kernel) (by decide +kernel)
set_option maxRecDepth 20000 in
theorem gL_refusesAny_X3_laysLeft : GoodIn wsL_refusesAny (wsV RL 26 RX3 yX3_laysLeft wsX3_laysLeft) := goodIn_app (goodIn_of _ (by decide +kernel)) ggL_refusesAny_X3_laysLeft
set_option maxRecDepth 20000 in
theorem ggL_refusesAny_X3_count : GoodIn wsL_refusesAny wsX3_count := goodIn_r _ [244, 6, 7, 245, 147, 148, 149, 23, 150, 27, 28, 29, 30, 31, 9, 4, 10, 246, 247, 248, 249, 168, 169, 170, 171, 172, 173, 174, 175, 55, 250, 251, 252, 253, 195, 113, 114, 115, 60, 180, 181, 182, 183, 64, 184, 185, 186, 187, 80, 81, 78, 82, 188, 189, 190, 191, 83, 84, 192, 193, 194, 254, 255, 256, 257, 61, 258, 96, 97, 98, 259, 260, 261, 262, 263, 264, 265, 39, 266, 41, 267, 268, 269, 270, 271, 272, 273, 274, 275, 276, 277, 278, 279, 280, 281, 282, 283, 284, 285, 286, 287, 288, 289, 290, 291, 292, 293, 294, 295, 296, 297, 298, 299] (by decide +kernel) (by decide +kernel)
set_option maxRecDepth 20000 in
theorem gL_refusesAny_X3_count : GoodIn wsL_refusesAny (wsV RL 13 RX3 yX3_count wsX3_count) := goodIn_app (goodIn_of _ (by decide +kernel)) ggL_refusesAny_X3_count
theorem dL_refusesAny_0 : decode cL_refusesAny 0 = .ok (.iload_n 1, 1) := by decide +kernel
theorem dL_refusesAny_1 : decode cL_refusesAny 1 = .ok (.ifCond .ne 7, 3) := by decide +kernel
theorem dL_refusesAny_4 : decode cL_refusesAny 4 = .ok (.iconst (-1), 1) := by decide +kernel
theorem dL_refusesAny_5 : decode cL_refusesAny 5 = .ok (.goto 5, 3) := by decide +kernel
theorem dL_refusesAny_8 : decode cL_refusesAny 8 = .ok (.bipush 12, 2) := by decide +kernel
theorem dL_refusesAny_10 : decode cL_refusesAny 10 = .ok (.istore_n 2, 1) := by decide +kernel
theorem dL_refusesAny_11 : decode cL_refusesAny 11 = .ok (.iload_n 1, 1) := by decide +kernel
theorem dL_refusesAny_12 : decode cL_refusesAny 12 = .ok (.ifCond .ne 7, 3) := by decide +kernel
theorem dL_refusesAny_15 : decode cL_refusesAny 15 = .ok (.iconst (-1), 1) := by decide +kernel
theorem dL_refusesAny_16 : decode cL_refusesAny 16 = .ok (.goto 5, 3) := by decide +kernel
theorem dL_refusesAny_19 : decode cL_refusesAny 19 = .ok (.bipush 16, 2) := by decide +kernel
theorem dL_refusesAny_21 : decode cL_refusesAny 21 = .ok (.istore_n 3, 1) := by decide +kernel
theorem dL_refusesAny_22 : decode cL_refusesAny 22 = .ok (.iload_n 1, 1) := by decide +kernel
theorem dL_refusesAny_23 : decode cL_refusesAny 23 = .ok (.ifCond .ne 8, 3) := by decide +kernel
theorem dL_refusesAny_26 : decode cL_refusesAny 26 = .ok (.bipush 9, 2) := by decide +kernel
theorem dL_refusesAny_28 : decode cL_refusesAny 28 = .ok (.goto 6, 3) := by decide +kernel
theorem dL_refusesAny_31 : decode cL_refusesAny 31 = .ok (.sipush 201, 3) := by decide +kernel
theorem dL_refusesAny_34 : decode cL_refusesAny 34 = .ok (.istore 4, 2) := by decide +kernel
theorem dL_refusesAny_36 : decode cL_refusesAny 36 = .ok (.aload_n 0, 1) := by decide +kernel
theorem dL_refusesAny_37 : decode cL_refusesAny 37 = .ok (.iload_n 2, 1) := by decide +kernel
theorem dL_refusesAny_38 : decode cL_refusesAny 38 = .ok (.iconst 0, 1) := by decide +kernel
theorem dL_refusesAny_39 : decode cL_refusesAny 39 = .ok (.iload 4, 2) := by decide +kernel
theorem dL_refusesAny_41 : decode cL_refusesAny 41 = .ok (.invokevirtual 29, 3) := by decide +kernel
theorem dL_refusesAny_44 : decode cL_refusesAny 44 = .ok (.iconst (-1), 1) := by decide +kernel
theorem dL_refusesAny_45 : decode cL_refusesAny 45 = .ok (.if_icmp .ne 185, 3) := by decide +kernel
theorem dL_refusesAny_48 : decode cL_refusesAny 48 = .ok (.aload_n 0, 1) := by decide +kernel
theorem dL_refusesAny_49 : decode cL_refusesAny 49 = .ok (.iconst 0, 1) := by decide +kernel
theorem dL_refusesAny_50 : decode cL_refusesAny 50 = .ok (.iload_n 3, 1) := by decide +kernel
theorem dL_refusesAny_51 : decode cL_refusesAny 51 = .ok (.iload 4, 2) := by decide +kernel
theorem dL_refusesAny_53 : decode cL_refusesAny 53 = .ok (.invokevirtual 29, 3) := by decide +kernel
theorem dL_refusesAny_56 : decode cL_refusesAny 56 = .ok (.iconst (-1), 1) := by decide +kernel
theorem dL_refusesAny_57 : decode cL_refusesAny 57 = .ok (.if_icmp .ne 173, 3) := by decide +kernel
theorem dL_refusesAny_60 : decode cL_refusesAny 60 = .ok (.aload_n 0, 1) := by decide +kernel
theorem dL_refusesAny_61 : decode cL_refusesAny 61 = .ok (.iconst 0, 1) := by decide +kernel
theorem dL_refusesAny_62 : decode cL_refusesAny 62 = .ok (.iconst 0, 1) := by decide +kernel
theorem dL_refusesAny_63 : decode cL_refusesAny 63 = .ok (.iload 4, 2) := by decide +kernel
theorem dL_refusesAny_65 : decode cL_refusesAny 65 = .ok (.invokevirtual 29, 3) := by decide +kernel
theorem dL_refusesAny_68 : decode cL_refusesAny 68 = .ok (.bipush (-2), 2) := by decide +kernel
theorem dL_refusesAny_70 : decode cL_refusesAny 70 = .ok (.if_icmp .ne 160, 3) := by decide +kernel
theorem dL_refusesAny_73 : decode cL_refusesAny 73 = .ok (.aload_n 0, 1) := by decide +kernel
theorem dL_refusesAny_74 : decode cL_refusesAny 74 = .ok (.iload_n 2, 1) := by decide +kernel
theorem dL_refusesAny_75 : decode cL_refusesAny 75 = .ok (.invokevirtual 35, 3) := by decide +kernel
theorem dL_refusesAny_78 : decode cL_refusesAny 78 = .ok (.iconst (-1), 1) := by decide +kernel
theorem dL_refusesAny_79 : decode cL_refusesAny 79 = .ok (.if_icmp .ne 151, 3) := by decide +kernel
theorem dL_refusesAny_82 : decode cL_refusesAny 82 = .ok (.aload_n 0, 1) := by decide +kernel
theorem dL_refusesAny_83 : decode cL_refusesAny 83 = .ok (.iload_n 2, 1) := by decide +kernel
theorem dL_refusesAny_84 : decode cL_refusesAny 84 = .ok (.iload 4, 2) := by decide +kernel
theorem dL_refusesAny_86 : decode cL_refusesAny 86 = .ok (.invokevirtual 38, 3) := by decide +kernel
theorem dL_refusesAny_89 : decode cL_refusesAny 89 = .ok (.iconst (-1), 1) := by decide +kernel
theorem dL_refusesAny_90 : decode cL_refusesAny 90 = .ok (.if_icmp .ne 140, 3) := by decide +kernel
theorem dL_refusesAny_93 : decode cL_refusesAny 93 = .ok (.aload_n 0, 1) := by decide +kernel
theorem dL_refusesAny_94 : decode cL_refusesAny 94 = .ok (.iload_n 3, 1) := by decide +kernel
theorem dL_refusesAny_95 : decode cL_refusesAny 95 = .ok (.sipush 601, 3) := by decide +kernel
theorem dL_refusesAny_98 : decode cL_refusesAny 98 = .ok (.invokevirtual 41, 3) := by decide +kernel
theorem dL_refusesAny_101 : decode cL_refusesAny 101 = .ok (.iconst (-1), 1) := by decide +kernel
theorem dL_refusesAny_102 : decode cL_refusesAny 102 = .ok (.if_icmp .ne 128, 3) := by decide +kernel
theorem dL_refusesAny_105 : decode cL_refusesAny 105 = .ok (.aload_n 0, 1) := by decide +kernel
theorem dL_refusesAny_106 : decode cL_refusesAny 106 = .ok (.iconst 0, 1) := by decide +kernel
theorem dL_refusesAny_107 : decode cL_refusesAny 107 = .ok (.iload_n 1, 1) := by decide +kernel
theorem dL_refusesAny_108 : decode cL_refusesAny 108 = .ok (.ifCond .ne 7, 3) := by decide +kernel
theorem dL_refusesAny_111 : decode cL_refusesAny 111 = .ok (.iconst (-1), 1) := by decide +kernel
theorem dL_refusesAny_112 : decode cL_refusesAny 112 = .ok (.goto 6, 3) := by decide +kernel
theorem dL_refusesAny_115 : decode cL_refusesAny 115 = .ok (.sipush 601, 3) := by decide +kernel
theorem dL_refusesAny_118 : decode cL_refusesAny 118 = .ok (.invokevirtual 41, 3) := by decide +kernel
theorem dL_refusesAny_121 : decode cL_refusesAny 121 = .ok (.bipush (-2), 2) := by decide +kernel
theorem dL_refusesAny_123 : decode cL_refusesAny 123 = .ok (.if_icmp .ne 107, 3) := by decide +kernel
theorem dL_refusesAny_126 : decode cL_refusesAny 126 = .ok (.aload_n 0, 1) := by decide +kernel
theorem dL_refusesAny_127 : decode cL_refusesAny 127 = .ok (.iload_n 1, 1) := by decide +kernel
theorem dL_refusesAny_128 : decode cL_refusesAny 128 = .ok (.ifCond .ne 7, 3) := by decide +kernel
theorem dL_refusesAny_131 : decode cL_refusesAny 131 = .ok (.iconst 0, 1) := by decide +kernel
theorem dL_refusesAny_132 : decode cL_refusesAny 132 = .ok (.goto 5, 3) := by decide +kernel
theorem dL_refusesAny_135 : decode cL_refusesAny 135 = .ok (.bipush 51, 2) := by decide +kernel
theorem dL_refusesAny_137 : decode cL_refusesAny 137 = .ok (.invokevirtual 44, 3) := by decide +kernel
theorem dL_refusesAny_140 : decode cL_refusesAny 140 = .ok (.bipush (-2), 2) := by decide +kernel
theorem dL_refusesAny_142 : decode cL_refusesAny 142 = .ok (.if_icmp .ne 88, 3) := by decide +kernel
theorem dL_refusesAny_145 : decode cL_refusesAny 145 = .ok (.aload_n 0, 1) := by decide +kernel
theorem dL_refusesAny_146 : decode cL_refusesAny 146 = .ok (.iload_n 2, 1) := by decide +kernel
theorem dL_refusesAny_147 : decode cL_refusesAny 147 = .ok (.iconst 0, 1) := by decide +kernel
theorem dL_refusesAny_148 : decode cL_refusesAny 148 = .ok (.invokevirtual 47, 3) := by decide +kernel
theorem dL_refusesAny_151 : decode cL_refusesAny 151 = .ok (.iconst (-1), 1) := by decide +kernel
theorem dL_refusesAny_152 : decode cL_refusesAny 152 = .ok (.if_icmp .ne 78, 3) := by decide +kernel
theorem dL_refusesAny_155 : decode cL_refusesAny 155 = .ok (.aload_n 0, 1) := by decide +kernel
theorem dL_refusesAny_156 : decode cL_refusesAny 156 = .ok (.iload_n 1, 1) := by decide +kernel
theorem dL_refusesAny_157 : decode cL_refusesAny 157 = .ok (.ifCond .ne 7, 3) := by decide +kernel
theorem dL_refusesAny_160 : decode cL_refusesAny 160 = .ok (.iconst 0, 1) := by decide +kernel
theorem dL_refusesAny_161 : decode cL_refusesAny 161 = .ok (.goto 5, 3) := by decide +kernel
theorem dL_refusesAny_164 : decode cL_refusesAny 164 = .ok (.bipush 13, 2) := by decide +kernel
theorem dL_refusesAny_166 : decode cL_refusesAny 166 = .ok (.iconst 1, 1) := by decide +kernel
theorem dL_refusesAny_167 : decode cL_refusesAny 167 = .ok (.invokevirtual 50, 3) := by decide +kernel
theorem dL_refusesAny_170 : decode cL_refusesAny 170 = .ok (.bipush (-2), 2) := by decide +kernel
theorem dL_refusesAny_172 : decode cL_refusesAny 172 = .ok (.if_icmp .ne 58, 3) := by decide +kernel
theorem dL_refusesAny_175 : decode cL_refusesAny 175 = .ok (.aload_n 0, 1) := by decide +kernel
theorem dL_refusesAny_176 : decode cL_refusesAny 176 = .ok (.iconst 1, 1) := by decide +kernel
theorem dL_refusesAny_177 : decode cL_refusesAny 177 = .ok (.iload_n 1, 1) := by decide +kernel
theorem dL_refusesAny_178 : decode cL_refusesAny 178 = .ok (.ifCond .ne 7, 3) := by decide +kernel
theorem dL_refusesAny_181 : decode cL_refusesAny 181 = .ok (.iconst 0, 1) := by decide +kernel
theorem dL_refusesAny_182 : decode cL_refusesAny 182 = .ok (.goto 5, 3) := by decide +kernel
theorem dL_refusesAny_185 : decode cL_refusesAny 185 = .ok (.bipush 101, 2) := by decide +kernel
theorem dL_refusesAny_187 : decode cL_refusesAny 187 = .ok (.invokevirtual 50, 3) := by decide +kernel
theorem dL_refusesAny_190 : decode cL_refusesAny 190 = .ok (.bipush (-2), 2) := by decide +kernel
theorem dL_refusesAny_192 : decode cL_refusesAny 192 = .ok (.if_icmp .ne 38, 3) := by decide +kernel
theorem dL_refusesAny_195 : decode cL_refusesAny 195 = .ok (.aload_n 0, 1) := by decide +kernel
theorem dL_refusesAny_196 : decode cL_refusesAny 196 = .ok (.iload_n 2, 1) := by decide +kernel
theorem dL_refusesAny_197 : decode cL_refusesAny 197 = .ok (.bipush 9, 2) := by decide +kernel
theorem dL_refusesAny_199 : decode cL_refusesAny 199 = .ok (.invokevirtual 19, 3) := by decide +kernel
theorem dL_refusesAny_202 : decode cL_refusesAny 202 = .ok (.iconst (-1), 1) := by decide +kernel
theorem dL_refusesAny_203 : decode cL_refusesAny 203 = .ok (.if_icmp .ne 27, 3) := by decide +kernel
theorem dL_refusesAny_206 : decode cL_refusesAny 206 = .ok (.aload_n 0, 1) := by decide +kernel
theorem dL_refusesAny_207 : decode cL_refusesAny 207 = .ok (.iload_n 2, 1) := by decide +kernel
theorem dL_refusesAny_208 : decode cL_refusesAny 208 = .ok (.sipush 999, 3) := by decide +kernel
theorem dL_refusesAny_211 : decode cL_refusesAny 211 = .ok (.invokevirtual 53, 3) := by decide +kernel
theorem dL_refusesAny_214 : decode cL_refusesAny 214 = .ok (.iconst (-1), 1) := by decide +kernel
theorem dL_refusesAny_215 : decode cL_refusesAny 215 = .ok (.if_icmp .ne 15, 3) := by decide +kernel
theorem dL_refusesAny_218 : decode cL_refusesAny 218 = .ok (.aload_n 0, 1) := by decide +kernel
theorem dL_refusesAny_219 : decode cL_refusesAny 219 = .ok (.iload_n 2, 1) := by decide +kernel
theorem dL_refusesAny_220 : decode cL_refusesAny 220 = .ok (.iconst 0, 1) := by decide +kernel
theorem dL_refusesAny_221 : decode cL_refusesAny 221 = .ok (.bipush 9, 2) := by decide +kernel
theorem dL_refusesAny_223 : decode cL_refusesAny 223 = .ok (.invokevirtual 56, 3) := by decide +kernel
theorem dL_refusesAny_226 : decode cL_refusesAny 226 = .ok (.iconst (-1), 1) := by decide +kernel
theorem dL_refusesAny_227 : decode cL_refusesAny 227 = .ok (.if_icmp .eq 5, 3) := by decide +kernel
theorem dL_refusesAny_230 : decode cL_refusesAny 230 = .ok (.iconst 0, 1) := by decide +kernel
theorem dL_refusesAny_231 : decode cL_refusesAny 231 = .ok (.ireturn, 1) := by decide +kernel
theorem dL_refusesAny_232 : decode cL_refusesAny 232 = .ok (.aload_n 0, 1) := by decide +kernel
theorem dL_refusesAny_233 : decode cL_refusesAny 233 = .ok (.iconst 0, 1) := by decide +kernel
theorem dL_refusesAny_234 : decode cL_refusesAny 234 = .ok (.iload_n 2, 1) := by decide +kernel
theorem dL_refusesAny_235 : decode cL_refusesAny 235 = .ok (.bipush 9, 2) := by decide +kernel
theorem dL_refusesAny_237 : decode cL_refusesAny 237 = .ok (.invokevirtual 56, 3) := by decide +kernel
theorem dL_refusesAny_240 : decode cL_refusesAny 240 = .ok (.iconst (-1), 1) := by decide +kernel
theorem dL_refusesAny_241 : decode cL_refusesAny 241 = .ok (.if_icmp .ne 78, 3) := by decide +kernel
theorem dL_refusesAny_244 : decode cL_refusesAny 244 = .ok (.aload_n 0, 1) := by decide +kernel
theorem dL_refusesAny_245 : decode cL_refusesAny 245 = .ok (.iload_n 3, 1) := by decide +kernel
theorem dL_refusesAny_246 : decode cL_refusesAny 246 = .ok (.bipush 9, 2) := by decide +kernel
theorem dL_refusesAny_248 : decode cL_refusesAny 248 = .ok (.invokevirtual 23, 3) := by decide +kernel
theorem dL_refusesAny_251 : decode cL_refusesAny 251 = .ok (.iconst (-1), 1) := by decide +kernel
theorem dL_refusesAny_252 : decode cL_refusesAny 252 = .ok (.if_icmp .ne 67, 3) := by decide +kernel
theorem dL_refusesAny_255 : decode cL_refusesAny 255 = .ok (.aload_n 0, 1) := by decide +kernel
theorem dL_refusesAny_256 : decode cL_refusesAny 256 = .ok (.iconst 0, 1) := by decide +kernel
theorem dL_refusesAny_257 : decode cL_refusesAny 257 = .ok (.iload_n 1, 1) := by decide +kernel
theorem dL_refusesAny_258 : decode cL_refusesAny 258 = .ok (.ifCond .ne 7, 3) := by decide +kernel
theorem dL_refusesAny_261 : decode cL_refusesAny 261 = .ok (.iconst (-1), 1) := by decide +kernel
theorem dL_refusesAny_262 : decode cL_refusesAny 262 = .ok (.goto 4, 3) := by decide +kernel
theorem dL_refusesAny_265 : decode cL_refusesAny 265 = .ok (.iconst 2, 1) := by decide +kernel
theorem dL_refusesAny_266 : decode cL_refusesAny 266 = .ok (.invokevirtual 23, 3) := by decide +kernel
theorem dL_refusesAny_269 : decode cL_refusesAny 269 = .ok (.bipush (-2), 2) := by decide +kernel
theorem dL_refusesAny_271 : decode cL_refusesAny 271 = .ok (.if_icmp .ne 48, 3) := by decide +kernel
theorem dL_refusesAny_274 : decode cL_refusesAny 274 = .ok (.aload_n 0, 1) := by decide +kernel
theorem dL_refusesAny_275 : decode cL_refusesAny 275 = .ok (.iload_n 2, 1) := by decide +kernel
theorem dL_refusesAny_276 : decode cL_refusesAny 276 = .ok (.bipush 9, 2) := by decide +kernel
theorem dL_refusesAny_278 : decode cL_refusesAny 278 = .ok (.invokevirtual 59, 3) := by decide +kernel
theorem dL_refusesAny_281 : decode cL_refusesAny 281 = .ok (.iconst (-1), 1) := by decide +kernel
theorem dL_refusesAny_282 : decode cL_refusesAny 282 = .ok (.if_icmp .ne 37, 3) := by decide +kernel
theorem dL_refusesAny_285 : decode cL_refusesAny 285 = .ok (.aload_n 0, 1) := by decide +kernel
theorem dL_refusesAny_286 : decode cL_refusesAny 286 = .ok (.iload 4, 2) := by decide +kernel
theorem dL_refusesAny_288 : decode cL_refusesAny 288 = .ok (.invokevirtual 26, 3) := by decide +kernel
theorem dL_refusesAny_291 : decode cL_refusesAny 291 = .ok (.bipush (-2), 2) := by decide +kernel
theorem dL_refusesAny_293 : decode cL_refusesAny 293 = .ok (.if_icmp .ne 26, 3) := by decide +kernel
theorem dL_refusesAny_296 : decode cL_refusesAny 296 = .ok (.aload_n 0, 1) := by decide +kernel
theorem dL_refusesAny_297 : decode cL_refusesAny 297 = .ok (.iload_n 1, 1) := by decide +kernel
theorem dL_refusesAny_298 : decode cL_refusesAny 298 = .ok (.ifCond .ne 7, 3) := by decide +kernel
theorem dL_refusesAny_301 : decode cL_refusesAny 301 = .ok (.iconst (-1), 1) := by decide +kernel
theorem dL_refusesAny_302 : decode cL_refusesAny 302 = .ok (.goto 5, 3) := by decide +kernel
theorem dL_refusesAny_305 : decode cL_refusesAny 305 = .ok (.bipush 14, 2) := by decide +kernel
theorem dL_refusesAny_307 : decode cL_refusesAny 307 = .ok (.invokevirtual 13, 3) := by decide +kernel
theorem dL_refusesAny_310 : decode cL_refusesAny 310 = .ok (.bipush (-2), 2) := by decide +kernel
theorem dL_refusesAny_312 : decode cL_refusesAny 312 = .ok (.if_icmp .ne 7, 3) := by decide +kernel
theorem dL_refusesAny_315 : decode cL_refusesAny 315 = .ok (.iconst 1, 1) := by decide +kernel
theorem dL_refusesAny_316 : decode cL_refusesAny 316 = .ok (.goto 4, 3) := by decide +kernel
theorem dL_refusesAny_319 : decode cL_refusesAny 319 = .ok (.iconst 0, 1) := by decide +kernel
theorem dL_refusesAny_320 : decode cL_refusesAny 320 = .ok (.ireturn, 1) := by decide +kernel
set_option maxRecDepth 20000 in
theorem ggL_refusesFor_X3_bend : GoodIn wsL_refusesFor wsX3_bend := goodIn_r _ [5, 6, 7, 8, 9, 10, 11, 12, 13, 14, 4, 15, 16, 17, 18, 19, 20, 21, 22, 23, 24, 25, 26, 27, 28, 29, 30, 31, 32, 33, 34, 35, 36, 37, 38, 39, 40, 41, 42, 43, 44, 45, 46, 47, 48, 49, 50, 51, 52, 53, 54, 55, 56, 57, 58, 59, 60, 61, 62, 63, 163, 164, 165, 166, 167, 168, 169, 170, 171, 172, 173, 174, 175, 176, 177, 178, 179, 180, 181, 182] (by decide +kernel) (by decide +kernel)
set_option maxRecDepth 20000 in
theorem gL_refusesFor_X3_bend : GoodIn wsL_refusesFor (wsV RL 38 RX3 yX3_bend wsX3_bend) := goodIn_app (goodIn_of _ (by decide +kernel)) ggL_refusesFor_X3_bend
set_option maxRecDepth 20000 in
theorem ggL_refusesFor_X3_pull : GoodIn wsL_refusesFor wsX3_pull := goodIn_r _ [67, 6, 7, 8, 9, 10, 11, 12, 13, 14, 4, 15, 19, 20, 21, 27, 28, 29, 30, 31, 32, 33, 34, 35, 36, 37, 38, 39, 40, 41, 42, 43, 44, 45, 46, 47, 48, 49, 50, 26, 51, 52, 53, 54, 55, 56, 57, 58, 59, 68, 69, 70, 71, 72, 73, 74, 75, 76, 77, 78, 79, 80, 81, 82, 83, 84, 163, 164, 165, 166, 167, 168, 169, 170, 171, 172, 173, 174, 175, 176, 177, 178, 179, 180, 181, 182] (by decide +kernel) (by decide +kernel)
set_option maxRecDepth 20000 in
theorem gL_refusesFor_X3_pull : GoodIn wsL_refusesFor (wsV RL 47 RX3 yX3_pull wsX3_pull) := goodIn_app (goodIn_of _ (by decide +kernel)) ggL_refusesFor_X3_pull
set_option maxRecDepth 20000 in
theorem ggL_refusesFor_X3_wire : GoodIn wsL_refusesFor wsX3_wire := goodIn_r _ [88, 6, 8, 9, 10, 11, 12, 13, 14, 4, 15, 89, 90, 91, 92, 22, 23, 24, 25, 26, 81, 82, 83, 84, 51, 93, 94, 95, 96, 97, 98, 99, 100, 76, 101, 102, 103, 104, 46, 105, 106, 107, 108, 109, 110, 111, 112, 54, 113, 114, 115, 116, 117, 118, 74, 119, 120, 121, 122, 123, 124, 125, 126, 127, 128, 129, 130, 131, 132, 133, 134, 135, 136, 137, 138, 139, 140, 52, 163, 164, 165, 166, 167, 168, 169, 170, 171, 172, 173, 174, 175, 176, 177, 178, 179, 180] (by decide +kernel) (by decide +kernel)
set_option maxRecDepth 20000 in
theorem gL_refusesFor_X3_wire : GoodIn wsL_refusesFor (wsV RL 19 RX3 yX3_wire wsX3_wire) := goodIn_app (goodIn_of _ (by decide +kernel)) ggL_refusesFor_X3_wire
set_option maxRecDepth 20000 in
theorem ggL_refusesFor_X3_heightAt : GoodIn wsL_refusesFor wsX3_heightAt := goodIn_r _ [144, 6, 8, 9, 10, 11, 12, 13, 14, 4, 15, 19, 20, 21, 22, 23, 24, 25, 26, 145, 126, 127, 128, 163, 164, 165, 166, 167, 168, 169, 170, 171, 172, 173, 174, 175, 176, 177, 178, 179, 180] (by decide +kernel) (by decide +kernel)
set_option maxRecDepth 20000 in
theorem gL_refusesFor_X3_heightAt : GoodIn wsL_refusesFor (wsV RL 53 RX3 yX3_heightAt wsX3_heightAt) := goodIn_app (goodIn_of _ (by decide +kernel)) ggL_refusesFor_X3_heightAt
set_option maxRecDepth 20000 in
theorem ggL_refusesFor_X3_crossing : GoodIn wsL_refusesFor wsX3_crossing := goodIn_r _ [149, 6, 8, 9, 10, 11, 12, 13, 14, 4, 15, 19, 20, 21, 150, 98, 99, 100, 76, 101, 102, 103, 104, 46, 151, 121, 122, 123, 117, 118, 74, 119, 124, 125, 22, 23, 24, 25, 26, 152, 114, 115, 116, 120, 126, 127, 128, 129, 153, 110, 111, 112, 54, 97, 113, 163, 164, 165, 166, 167, 168, 169, 170, 171, 172, 173, 174, 175, 176, 177, 178, 179, 180] (by decide +kernel) (by decide +kernel)
set_option maxRecDepth 20000 in
theorem gL_refusesFor_X3_crossing : GoodIn wsL_refusesFor (wsV RL 56 RX3 yX3_crossing wsX3_crossing) := goodIn_app (goodIn_of _ (by decide +kernel)) ggL_refusesFor_X3_crossing
set_option maxRecDepth 20000 in
theorem ggL_refusesFor_X3_bestHeight : GoodIn wsL_refusesFor wsX3_bestHeight := goodIn_r _ [157, 6, 8, 9, 10, 11, 12, 13, 14, 4, 15, 19, 20, 21, 158, 159, 160, 161, 162, 106, 107, 108, 109, 110, 111, 112, 54, 97, 98, 99, 100, 76, 101, 102, 103, 104, 46, 113, 114, 115, 116, 117, 118, 74, 119, 120, 121, 122, 123, 124, 125, 126, 127, 128, 129, 23, 24, 25, 26, 105, 163, 164, 165, 166, 167, 168, 169, 170, 171, 172, 173, 174, 175, 176, 177, 178, 179, 180] (by decide +kernel) (by decide +kernel)
set_option maxRecDepth 20000 in
theorem gL_refusesFor_X3_bestHeight : GoodIn wsL_refusesFor (wsV RL 59 RX3 yX3_bestHeight wsX3_bestHeight) := goodIn_app (goodIn_of _ (by decide +kernel)) ggL_refusesFor_X3_bestHeight
theorem dL_refusesFor_0 : decode cL_refusesFor 0 = .ok (.aload_n 0, 1) := by decide +kernel
theorem dL_refusesFor_1 : decode cL_refusesFor 1 = .ok (.iload_n 1, 1) := by decide +kernel
theorem dL_refusesFor_2 : decode cL_refusesFor 2 = .ok (.iload_n 2, 1) := by decide +kernel
theorem dL_refusesFor_3 : decode cL_refusesFor 3 = .ok (.ifCond .ne 8, 3) := by decide +kernel
theorem dL_refusesFor_6 : decode cL_refusesFor 6 = .ok (.bipush 9, 2) := by decide +kernel
theorem dL_refusesFor_8 : decode cL_refusesFor 8 = .ok (.goto 6, 3) := by decide +kernel
theorem dL_refusesFor_11 : decode cL_refusesFor 11 = .ok (.sipush 201, 3) := by decide +kernel
theorem dL_refusesFor_14 : decode cL_refusesFor 14 = .ok (.invokevirtual 38, 3) := by decide +kernel
theorem dL_refusesFor_17 : decode cL_refusesFor 17 = .ok (.bipush (-2), 2) := by decide +kernel
theorem dL_refusesFor_19 : decode cL_refusesFor 19 = .ok (.if_icmp .ne 119, 3) := by decide +kernel
theorem dL_refusesFor_22 : decode cL_refusesFor 22 = .ok (.aload_n 0, 1) := by decide +kernel
theorem dL_refusesFor_23 : decode cL_refusesFor 23 = .ok (.iload_n 1, 1) := by decide +kernel
theorem dL_refusesFor_24 : decode cL_refusesFor 24 = .ok (.iload_n 2, 1) := by decide +kernel
theorem dL_refusesFor_25 : decode cL_refusesFor 25 = .ok (.ifCond .ne 7, 3) := by decide +kernel
theorem dL_refusesFor_28 : decode cL_refusesFor 28 = .ok (.iconst 0, 1) := by decide +kernel
theorem dL_refusesFor_29 : decode cL_refusesFor 29 = .ok (.goto 5, 3) := by decide +kernel
theorem dL_refusesFor_32 : decode cL_refusesFor 32 = .ok (.bipush 101, 2) := by decide +kernel
theorem dL_refusesFor_34 : decode cL_refusesFor 34 = .ok (.invokevirtual 47, 3) := by decide +kernel
theorem dL_refusesFor_37 : decode cL_refusesFor 37 = .ok (.bipush (-2), 2) := by decide +kernel
theorem dL_refusesFor_39 : decode cL_refusesFor 39 = .ok (.if_icmp .ne 99, 3) := by decide +kernel
theorem dL_refusesFor_42 : decode cL_refusesFor 42 = .ok (.aload_n 0, 1) := by decide +kernel
theorem dL_refusesFor_43 : decode cL_refusesFor 43 = .ok (.iload_n 1, 1) := by decide +kernel
theorem dL_refusesFor_44 : decode cL_refusesFor 44 = .ok (.iload_n 2, 1) := by decide +kernel
theorem dL_refusesFor_45 : decode cL_refusesFor 45 = .ok (.ifCond .ne 7, 3) := by decide +kernel
theorem dL_refusesFor_48 : decode cL_refusesFor 48 = .ok (.iconst (-1), 1) := by decide +kernel
theorem dL_refusesFor_49 : decode cL_refusesFor 49 = .ok (.goto 5, 3) := by decide +kernel
theorem dL_refusesFor_52 : decode cL_refusesFor 52 = .ok (.bipush 7, 2) := by decide +kernel
theorem dL_refusesFor_54 : decode cL_refusesFor 54 = .ok (.invokevirtual 19, 3) := by decide +kernel
theorem dL_refusesFor_57 : decode cL_refusesFor 57 = .ok (.bipush (-2), 2) := by decide +kernel
theorem dL_refusesFor_59 : decode cL_refusesFor 59 = .ok (.if_icmp .ne 79, 3) := by decide +kernel
theorem dL_refusesFor_62 : decode cL_refusesFor 62 = .ok (.aload_n 0, 1) := by decide +kernel
theorem dL_refusesFor_63 : decode cL_refusesFor 63 = .ok (.iload_n 1, 1) := by decide +kernel
theorem dL_refusesFor_64 : decode cL_refusesFor 64 = .ok (.iload_n 2, 1) := by decide +kernel
theorem dL_refusesFor_65 : decode cL_refusesFor 65 = .ok (.ifCond .ne 7, 3) := by decide +kernel
theorem dL_refusesFor_68 : decode cL_refusesFor 68 = .ok (.iconst (-1), 1) := by decide +kernel
theorem dL_refusesFor_69 : decode cL_refusesFor 69 = .ok (.goto 6, 3) := by decide +kernel
theorem dL_refusesFor_72 : decode cL_refusesFor 72 = .ok (.sipush 201, 3) := by decide +kernel
theorem dL_refusesFor_75 : decode cL_refusesFor 75 = .ok (.invokevirtual 53, 3) := by decide +kernel
theorem dL_refusesFor_78 : decode cL_refusesFor 78 = .ok (.bipush (-2), 2) := by decide +kernel
theorem dL_refusesFor_80 : decode cL_refusesFor 80 = .ok (.if_icmp .ne 58, 3) := by decide +kernel
theorem dL_refusesFor_83 : decode cL_refusesFor 83 = .ok (.aload_n 0, 1) := by decide +kernel
theorem dL_refusesFor_84 : decode cL_refusesFor 84 = .ok (.iload_n 1, 1) := by decide +kernel
theorem dL_refusesFor_85 : decode cL_refusesFor 85 = .ok (.iload_n 1, 1) := by decide +kernel
theorem dL_refusesFor_86 : decode cL_refusesFor 86 = .ok (.iload_n 2, 1) := by decide +kernel
theorem dL_refusesFor_87 : decode cL_refusesFor 87 = .ok (.ifCond .ne 7, 3) := by decide +kernel
theorem dL_refusesFor_90 : decode cL_refusesFor 90 = .ok (.iconst (-1), 1) := by decide +kernel
theorem dL_refusesFor_91 : decode cL_refusesFor 91 = .ok (.goto 4, 3) := by decide +kernel
theorem dL_refusesFor_94 : decode cL_refusesFor 94 = .ok (.iconst 3, 1) := by decide +kernel
theorem dL_refusesFor_95 : decode cL_refusesFor 95 = .ok (.invokevirtual 56, 3) := by decide +kernel
theorem dL_refusesFor_98 : decode cL_refusesFor 98 = .ok (.bipush (-2), 2) := by decide +kernel
theorem dL_refusesFor_100 : decode cL_refusesFor 100 = .ok (.if_icmp .ne 38, 3) := by decide +kernel
theorem dL_refusesFor_103 : decode cL_refusesFor 103 = .ok (.aload_n 0, 1) := by decide +kernel
theorem dL_refusesFor_104 : decode cL_refusesFor 104 = .ok (.iload_n 1, 1) := by decide +kernel
theorem dL_refusesFor_105 : decode cL_refusesFor 105 = .ok (.iload_n 1, 1) := by decide +kernel
theorem dL_refusesFor_106 : decode cL_refusesFor 106 = .ok (.iconst 0, 1) := by decide +kernel
theorem dL_refusesFor_107 : decode cL_refusesFor 107 = .ok (.invokevirtual 56, 3) := by decide +kernel
theorem dL_refusesFor_110 : decode cL_refusesFor 110 = .ok (.bipush (-5), 2) := by decide +kernel
theorem dL_refusesFor_112 : decode cL_refusesFor 112 = .ok (.if_icmp .ne 26, 3) := by decide +kernel
theorem dL_refusesFor_115 : decode cL_refusesFor 115 = .ok (.aload_n 0, 1) := by decide +kernel
theorem dL_refusesFor_116 : decode cL_refusesFor 116 = .ok (.iload_n 1, 1) := by decide +kernel
theorem dL_refusesFor_117 : decode cL_refusesFor 117 = .ok (.iload_n 2, 1) := by decide +kernel
theorem dL_refusesFor_118 : decode cL_refusesFor 118 = .ok (.ifCond .ne 7, 3) := by decide +kernel
theorem dL_refusesFor_121 : decode cL_refusesFor 121 = .ok (.iconst (-1), 1) := by decide +kernel
theorem dL_refusesFor_122 : decode cL_refusesFor 122 = .ok (.goto 4, 3) := by decide +kernel
theorem dL_refusesFor_125 : decode cL_refusesFor 125 = .ok (.iconst 2, 1) := by decide +kernel
theorem dL_refusesFor_126 : decode cL_refusesFor 126 = .ok (.invokevirtual 59, 3) := by decide +kernel
theorem dL_refusesFor_129 : decode cL_refusesFor 129 = .ok (.bipush (-2), 2) := by decide +kernel
theorem dL_refusesFor_131 : decode cL_refusesFor 131 = .ok (.if_icmp .ne 7, 3) := by decide +kernel
theorem dL_refusesFor_134 : decode cL_refusesFor 134 = .ok (.iconst 1, 1) := by decide +kernel
theorem dL_refusesFor_135 : decode cL_refusesFor 135 = .ok (.goto 4, 3) := by decide +kernel
theorem dL_refusesFor_138 : decode cL_refusesFor 138 = .ok (.iconst 0, 1) := by decide +kernel
theorem dL_refusesFor_139 : decode cL_refusesFor 139 = .ok (.ireturn, 1) := by decide +kernel
set_option maxRecDepth 20000 in
theorem ggL_refused_L_seen : GoodIn wsL_refused wsL_seen := goodIn_r _ [4, 5, 6, 7, 8, 9, 10, 11, 12, 13, 14, 15, 16, 17, 18, 19, 20, 21, 22, 23, 24, 25, 26, 27, 28, 29, 30, 31, 32, 33, 34, 35, 36, 37, 38, 39, 40, 41, 42, 43, 44, 45, 46, 47, 48, 49, 50, 51, 52, 53, 54, 55, 56, 57, 58, 59, 60, 61, 62, 63, 64, 65, 66, 67, 68, 69, 70, 71, 72, 73, 74, 75, 76, 77, 78, 79, 80, 81, 82, 83, 84, 85, 86, 87, 88, 89, 90, 91, 92, 93, 94, 95, 96, 97, 98, 99, 100, 101, 102, 103, 104, 105, 106, 107, 108, 109, 110, 111, 112, 113, 114, 115, 116, 117, 118, 119, 120, 121, 122, 123, 124, 125, 126, 127, 128, 129, 130, 131, 132, 133, 134, 135, 136, 137, 138, 139, 140, 141, 142, 143, 144, 145, 146, 147, 148, 149, 150, 151, 152, 153, 154, 155, 156, 157, 158, 159, 160, 161, 162, 163, 164, 285, 286, 287, 288, 289, 290, 291, 292, 293, 294, 295, 296, 297, 298, 299, 300, 301, 302, 303, 304, 305, 306, 307, 308, 309, 310, 311] (by decide +kernel) (by decide +kernel)
set_option maxRecDepth 20000 in
theorem gL_refused_L_seen : GoodIn wsL_refused (va_wsS RL 62 yL_seen wsL_seen) := goodIn_app (goodIn_of _ (by decide +kernel)) ggL_refused_L_seen
set_option maxRecDepth 20000 in
theorem ggL_refused_X3_count : GoodIn wsL_refused wsX3_count := goodIn_r _ [11, 12, 13, 14, 15, 16, 17, 18, 19, 20, 21, 22, 23, 24, 25, 10, 26, 27, 28, 29, 30, 31, 32, 33, 34, 35, 36, 37, 38, 39, 40, 41, 42, 43, 44, 45, 46, 47, 48, 49, 50, 51, 52, 53, 54, 55, 56, 57, 58, 59, 60, 61, 62, 63, 64, 65, 66, 67, 68, 69, 70, 71, 72, 73, 74, 75, 76, 77, 78, 79, 80, 81, 82, 83, 84, 85, 86, 87, 88, 89, 90, 91, 92, 93, 94, 95, 285, 286, 287, 288, 289, 290, 291, 292, 293, 294, 295, 296, 297, 298, 299, 300, 301, 302, 303, 304, 305, 306, 307, 308, 309, 310, 311] (by decide +kernel) (by decide +kernel)
set_option maxRecDepth 20000 in
theorem gL_refused_X3_count : GoodIn wsL_refused (wsV RL 13 RX3 yX3_count wsX3_count) := goodIn_app (goodIn_of _ (by decide +kernel)) ggL_refused_X3_count
set_option maxRecDepth 20000 in
theorem ggL_refused_L_refusesFor : GoodIn wsL_refused wsL_refusesFor := goodIn_r _ [167, 168, 169, 170, 10, 171, 12, 13, 100, 21, 22, 18, 23, 24, 25, 26, 146, 147, 148, 149, 150, 151, 105, 45, 46, 47, 48, 172, 173, 174, 87, 175, 89, 176, 177, 178, 179, 180, 181, 182, 183, 184, 185, 186, 187, 188, 39, 189, 190, 191, 192, 75, 126, 158, 53, 156, 193, 157, 194, 195, 196, 197, 198, 199, 200, 201, 202, 203, 204, 205, 206, 207, 208, 209, 60, 210, 20, 211, 212, 213, 214, 106, 77, 78, 79, 96, 97, 98, 99, 101, 102, 103, 104, 107, 108, 109, 110, 31, 32, 33, 34, 35, 36, 37, 38, 111, 112, 113, 114, 49, 50, 51, 52, 54, 55, 56, 57, 58, 59, 61, 62, 63, 64, 65, 66, 67, 68, 69, 70, 44, 115, 116, 117, 118, 119, 120, 121, 122, 123, 124, 125, 215, 216, 217, 218, 219, 220, 221, 222, 223, 224, 225, 226, 227, 228, 229, 230, 231, 232, 233, 234, 235, 236, 285, 286, 287, 288, 289, 290, 291, 292, 293, 294, 295, 296, 297, 298, 299, 300, 301, 302, 303, 304] (by decide +kernel) (by decide +kernel)
set_option maxRecDepth 20000 in
theorem gL_refused_L_refusesFor : GoodIn wsL_refused (va_wsS RL 66 yL_refusesFor wsL_refusesFor) := goodIn_app (goodIn_of _ (by decide +kernel)) ggL_refused_L_refusesFor
set_option maxRecDepth 20000 in
theorem ggL_refused_L_refusesAny : GoodIn wsL_refused wsL_refusesAny := goodIn_r _ [239, 240, 241, 242, 10, 243, 12, 13, 244, 25, 26, 131, 132, 133, 146, 147, 148, 149, 150, 151, 245, 246, 247, 18, 248, 157, 156, 20, 21, 22, 23, 24, 249, 139, 140, 141, 172, 173, 174, 87, 175, 89, 176, 177, 178, 179, 180, 181, 182, 183, 184, 185, 186, 187, 188, 39, 189, 190, 191, 192, 48, 75, 126, 158, 53, 193, 194, 195, 250, 251, 252, 253, 254, 255, 256, 257, 208, 209, 60, 210, 58, 59, 61, 66, 67, 258, 135, 136, 137, 159, 160, 161, 162, 163, 164, 106, 77, 78, 79, 259, 260, 261, 262, 100, 263, 212, 213, 214, 168, 169, 170, 171, 105, 45, 46, 47, 196, 197, 198, 199, 264, 265, 266, 267, 138, 134, 268, 269, 270, 271, 272, 273, 274, 275, 200, 201, 202, 203, 204, 205, 206, 207, 211, 276, 277, 278, 279, 15, 16, 17, 19, 280, 281, 282, 283, 284, 96, 97, 98, 99, 101, 102, 103, 104, 107, 108, 109, 110, 31, 32, 33, 34, 35, 36, 37, 38, 111, 112, 113, 114, 49, 50, 51, 52, 54, 55, 56, 57, 62, 63, 64, 65, 68, 69, 70, 44, 115, 116, 117, 118, 119, 120, 121, 122, 123, 124, 125, 215, 216, 217, 218, 219, 220, 221, 222, 223, 224, 225, 226, 227, 127, 128, 129, 130, 228, 229, 230, 231, 232, 233, 234, 235, 236, 142, 143, 144, 145, 152, 153, 154, 155, 7, 8, 9, 11, 14, 27, 28, 29, 30, 40, 41, 42, 43, 71, 72, 73, 74, 76, 80, 81, 82, 83, 84, 85, 86, 88, 90, 91, 92, 93, 94, 95, 285, 286, 287, 288, 289, 290, 291, 292, 293, 294, 295, 296, 297, 298, 299, 300, 301, 302, 303, 304, 305, 306, 307, 308, 309, 310, 311] (by decide +kernel) (by decide +kernel)
set_option maxRecDepth 20000 in
theorem gL_refused_L_refusesAny : GoodIn wsL_refused (va_wsS RL 70 yL_refusesAny wsL_refusesAny) := goodIn_app (goodIn_of _ (by decide +kernel)) ggL_refused_L_refusesAny
theorem dL_refused_0 : decode cL_refused 0 = .ok (.aload_n 0, 1) := by decide +kernel
theorem dL_refused_1 : decode cL_refused 1 = .ok (.invokestatic 62, 3) := by decide +kernel
theorem dL_refused_4 : decode cL_refused 4 = .ok (.lstore_n 1, 1) := by decide +kernel
theorem dL_refused_5 : decode cL_refused 5 = .ok (.aload_n 0, 1) := by decide +kernel
theorem dL_refused_6 : decode cL_refused 6 = .ok (.bipush 12, 2) := by decide +kernel
theorem dL_refused_8 : decode cL_refused 8 = .ok (.invokevirtual 13, 3) := by decide +kernel
theorem dL_refused_11 : decode cL_refused 11 = .ok (.istore_n 3, 1) := by decide +kernel
theorem dL_refused_12 : decode cL_refused 12 = .ok (.aload_n 0, 1) := by decide +kernel
theorem dL_refused_13 : decode cL_refused 13 = .ok (.bipush 9, 2) := by decide +kernel
theorem dL_refused_15 : decode cL_refused 15 = .ok (.invokevirtual 13, 3) := by decide +kernel
theorem dL_refused_18 : decode cL_refused 18 = .ok (.istore 4, 2) := by decide +kernel
theorem dL_refused_20 : decode cL_refused 20 = .ok (.iload 4, 2) := by decide +kernel
theorem dL_refused_22 : decode cL_refused 22 = .ok (.bipush (-5), 2) := by decide +kernel
theorem dL_refused_24 : decode cL_refused 24 = .ok (.if_icmp .eq 23, 3) := by decide +kernel
theorem dL_refused_27 : decode cL_refused 27 = .ok (.aload_n 0, 1) := by decide +kernel
theorem dL_refused_28 : decode cL_refused 28 = .ok (.iload 4, 2) := by decide +kernel
theorem dL_refused_30 : decode cL_refused 30 = .ok (.iconst 0, 1) := by decide +kernel
theorem dL_refused_31 : decode cL_refused 31 = .ok (.invokestatic 66, 3) := by decide +kernel
theorem dL_refused_34 : decode cL_refused 34 = .ok (.ifCond .eq 17, 3) := by decide +kernel
theorem dL_refused_37 : decode cL_refused 37 = .ok (.aload_n 0, 1) := by decide +kernel
theorem dL_refused_38 : decode cL_refused 38 = .ok (.iload 4, 2) := by decide +kernel
theorem dL_refused_40 : decode cL_refused 40 = .ok (.iconst 1, 1) := by decide +kernel
theorem dL_refused_41 : decode cL_refused 41 = .ok (.invokestatic 66, 3) := by decide +kernel
theorem dL_refused_44 : decode cL_refused 44 = .ok (.ifCond .eq 7, 3) := by decide +kernel
theorem dL_refused_47 : decode cL_refused 47 = .ok (.iconst 1, 1) := by decide +kernel
theorem dL_refused_48 : decode cL_refused 48 = .ok (.goto 4, 3) := by decide +kernel
theorem dL_refused_51 : decode cL_refused 51 = .ok (.iconst 0, 1) := by decide +kernel
theorem dL_refused_52 : decode cL_refused 52 = .ok (.istore 5, 2) := by decide +kernel
theorem dL_refused_54 : decode cL_refused 54 = .ok (.iload 5, 2) := by decide +kernel
theorem dL_refused_56 : decode cL_refused 56 = .ok (.ifCond .eq 42, 3) := by decide +kernel
theorem dL_refused_59 : decode cL_refused 59 = .ok (.aload_n 0, 1) := by decide +kernel
theorem dL_refused_60 : decode cL_refused 60 = .ok (.iconst 0, 1) := by decide +kernel
theorem dL_refused_61 : decode cL_refused 61 = .ok (.invokestatic 70, 3) := by decide +kernel
theorem dL_refused_64 : decode cL_refused 64 = .ok (.ifCond .eq 34, 3) := by decide +kernel
theorem dL_refused_67 : decode cL_refused 67 = .ok (.aload_n 0, 1) := by decide +kernel
theorem dL_refused_68 : decode cL_refused 68 = .ok (.iconst 1, 1) := by decide +kernel
theorem dL_refused_69 : decode cL_refused 69 = .ok (.invokestatic 70, 3) := by decide +kernel
theorem dL_refused_72 : decode cL_refused 72 = .ok (.ifCond .eq 26, 3) := by decide +kernel
theorem dL_refused_75 : decode cL_refused 75 = .ok (.aload_n 0, 1) := by decide +kernel
theorem dL_refused_76 : decode cL_refused 76 = .ok (.invokestatic 62, 3) := by decide +kernel
theorem dL_refused_79 : decode cL_refused 79 = .ok (.lload_n 1, 1) := by decide +kernel
theorem dL_refused_80 : decode cL_refused 80 = .ok (.lcmp, 1) := by decide +kernel
theorem dL_refused_81 : decode cL_refused 81 = .ok (.ifCond .ne 17, 3) := by decide +kernel
theorem dL_refused_84 : decode cL_refused 84 = .ok (.aload_n 0, 1) := by decide +kernel
theorem dL_refused_85 : decode cL_refused 85 = .ok (.bipush 12, 2) := by decide +kernel
theorem dL_refused_87 : decode cL_refused 87 = .ok (.invokevirtual 13, 3) := by decide +kernel
theorem dL_refused_90 : decode cL_refused 90 = .ok (.iload_n 3, 1) := by decide +kernel
theorem dL_refused_91 : decode cL_refused 91 = .ok (.if_icmp .ne 7, 3) := by decide +kernel
theorem dL_refused_94 : decode cL_refused 94 = .ok (.iconst 1, 1) := by decide +kernel
theorem dL_refused_95 : decode cL_refused 95 = .ok (.goto 4, 3) := by decide +kernel
theorem dL_refused_98 : decode cL_refused 98 = .ok (.iconst 0, 1) := by decide +kernel
theorem dL_refused_99 : decode cL_refused 99 = .ok (.ireturn, 1) := by decide +kernel
set_option maxRecDepth 20000 in
theorem ggL_wires_X3_init : GoodIn wsL_wires wsX3_init := goodIn_r _ [6, 7, 8, 9, 10, 11, 12, 13, 14, 15, 16, 17, 18, 19, 20, 21, 22, 23, 24, 25, 26, 27, 28, 29, 30, 31, 32, 33, 34, 35, 36, 37, 38, 39, 40, 41, 42, 43, 44, 45, 46, 47, 48, 49, 50, 51, 52, 53, 54, 55, 355, 356, 357, 358, 359, 360, 361, 362, 363, 364, 365, 366, 349, 350, 351, 352, 353, 354, 367, 368, 369, 370, 371, 372, 373, 374, 375] (by decide +kernel) (by decide +kernel)
set_option maxRecDepth 20000 in
theorem gL_wires_X3_init : GoodIn wsL_wires (wsX3_init) := ggL_wires_X3_init
set_option maxRecDepth 20000 in
theorem ggL_wires_X3_undo : GoodIn wsL_wires wsX3_undo := goodIn_r _ [59, 20, 13, 60, 61, 62, 19, 63, 46, 64, 65, 66, 67, 68, 69, 70, 71, 45, 72, 3, 73, 74, 75, 76, 12, 77, 30, 78, 79, 80, 81, 31, 32, 33, 34, 82, 35, 83, 84, 85, 86, 87, 349, 350, 351, 352, 353, 354, 367, 368, 355, 356, 357, 358, 359, 360, 361, 362, 363, 364, 365, 366] (by decide +kernel) (by decide +kernel)
set_option maxRecDepth 20000 in
theorem gL_wires_X3_undo : GoodIn wsL_wires (wsV RL 75 RX3 yX3_undo wsX3_undo) := goodIn_app (goodIn_of _ (by decide +kernel)) ggL_wires_X3_undo
set_option maxRecDepth 20000 in
theorem ggL_wires_X3_restore : GoodIn wsL_wires wsX3_restore := goodIn_r _ [91, 16, 20, 13, 15, 92, 93, 94, 19, 95, 46, 96, 97, 98, 99, 45, 68, 69, 70, 71, 72, 3, 73, 74, 75, 76, 12, 77, 30, 78, 79, 80, 81, 31, 32, 33, 34, 82, 35, 83, 84, 85, 86, 87, 100, 101, 102, 103, 104, 105, 106, 107, 108, 109, 110, 349, 350, 351, 352, 353, 354, 367, 368, 355, 356, 357, 358, 359, 360, 361, 362, 363, 364, 365, 366] (by decide +kernel) (by decide +kernel)
set_option maxRecDepth 20000 in
theorem gL_wires_X3_restore : GoodIn wsL_wires (wsV RL 79 RX3 yX3_restore wsX3_restore) := goodIn_app (goodIn_of _ (by decide +kernel)) ggL_wires_X3_restore
set_option maxRecDepth 20000 in
theorem ggL_wires_X3_changeTool : GoodIn wsL_wires wsX3_changeTool := goodIn_r _ [114, 13, 20, 92, 93, 94, 19, 95, 46, 96, 97, 98, 99, 45, 68, 69, 70, 71, 72, 3, 73, 74, 75, 76, 12, 77, 30, 78, 79, 80, 81, 31, 32, 33, 34, 82, 35, 83, 84, 85, 86, 87, 349, 350, 351, 352, 353, 354, 355, 356, 357, 358, 359, 360, 361, 362, 363, 364, 365, 366, 367, 368] (by decide +kernel) (by decide +kernel)
set_option maxRecDepth 20000 in
theorem gL_wires_X3_changeTool : GoodIn wsL_wires (wsV RL 82 RX3 yX3_changeTool wsX3_changeTool) := goodIn_app (goodIn_of _ (by decide +kernel)) ggL_wires_X3_changeTool
set_option maxRecDepth 20000 in
theorem ggL_wires_X3_thread : GoodIn wsL_wires wsX3_thread := goodIn_r _ [118, 13, 20, 92, 93, 94, 19, 95, 46, 96, 97, 98, 99, 45, 68, 69, 70, 71, 72, 3, 73, 74, 75, 76, 12, 77, 30, 78, 79, 80, 81, 31, 32, 33, 34, 82, 35, 83, 84, 85, 86, 87, 349, 350, 351, 352, 353, 354, 355, 356, 357, 358, 359, 360, 361, 362, 363, 364, 365, 366, 367, 368] (by decide +kernel) (by decide +kernel)
set_option maxRecDepth 20000 in
theorem gL_wires_X3_thread : GoodIn wsL_wires (wsV RL 85 RX3 yX3_thread wsX3_thread) := goodIn_app (goodIn_of _ (by decide +kernel)) ggL_wires_X3_thread
set_option maxRecDepth 20000 in
theorem ggL_wires_X3_sample : GoodIn wsL_wires wsX3_sample := goodIn_r _ [122, 13, 20, 123, 72, 3, 73, 101, 102, 103, 12, 104, 105, 106, 107, 108, 31, 109, 110, 92, 93, 94, 19, 95, 46, 96, 97, 98, 99, 45, 68, 69, 70, 71, 74, 75, 76, 77, 30, 78, 79, 80, 81, 32, 33, 34, 82, 35, 83, 84, 85, 86, 87, 124, 125, 126, 127, 128, 129, 130, 131, 132, 133, 134, 135, 136, 137, 138, 139, 349, 350, 351, 352, 353, 354, 355, 356, 357, 358, 359, 360, 361, 362, 363, 364, 365, 366, 367, 368] (by decide +kernel) (by decide +kernel)
set_option maxRecDepth 20000 in
theorem gL_wires_X3_sample : GoodIn wsL_wires (wsV RL 50 RX3 yX3_sample wsX3_sample) := goodIn_app (goodIn_of _ (by decide +kernel)) ggL_wires_X3_sample
set_option maxRecDepth 20000 in
theorem ggL_wires_X3_count : GoodIn wsL_wires wsX3_count := goodIn_r _ [143, 13, 20, 24, 101, 102, 103, 12, 104, 105, 106, 107, 108, 31, 109, 3, 110, 144, 145, 146, 147, 148, 149, 150, 151, 152, 153, 154, 155, 30, 156, 157, 158, 159, 160, 161, 162, 163, 32, 164, 165, 166, 167, 35, 168, 169, 170, 171, 172, 173, 134, 174, 175, 176, 177, 178, 179, 180, 181, 182, 183, 184, 185, 186, 187, 33, 188, 189, 190, 191, 192, 193, 194, 195, 60, 61, 62, 19, 63, 46, 196, 197, 198, 23, 199, 200, 349, 350, 351, 352, 353, 354, 355, 356, 357, 358, 359, 360, 361, 362, 363, 364, 365, 366, 367, 368, 369, 370, 371, 372, 373, 374, 375] (by decide +kernel) (by decide +kernel)
set_option maxRecDepth 20000 in
theorem gL_wires_X3_count : GoodIn wsL_wires (wsV RL 13 RX3 yX3_count wsX3_count) := goodIn_app (goodIn_of _ (by decide +kernel)) ggL_wires_X3_count
set_option maxRecDepth 20000 in
theorem ggL_wires_X3_lead : GoodIn wsL_wires wsX3_lead := goodIn_r _ [204, 13, 205, 206, 3, 207, 208, 209, 210, 12, 211, 30, 212, 213, 214, 215, 31, 105, 106, 107, 108, 109, 110, 349, 350, 351, 352, 353, 354, 355, 356, 357, 358, 359, 360, 361, 362, 363, 364, 365, 366] (by decide +kernel) (by decide +kernel)
set_option maxRecDepth 20000 in
theorem gL_wires_X3_lead : GoodIn wsL_wires (wsV RL 23 RX3 yX3_lead wsX3_lead) := goodIn_app (goodIn_of _ (by decide +kernel)) ggL_wires_X3_lead
set_option maxRecDepth 20000 in
theorem ggL_wires_X3_laysLeft : GoodIn wsL_wires wsX3_laysLeft := goodIn_r _ [219, 13, 220, 221, 3, 222, 123, 72, 73, 223, 224, 225, 12, 226, 83, 85, 82, 227, 228, 229, 230, 231, 232, 349, 350, 351, 352, 353, 354, 355, 356, 357, 358, 359, 360, 361, 362, 363, 364, 365, 366] (by decide +kernel) (by decide +kernel)
set_option maxRecDepth 20000 in
theorem gL_wires_X3_laysLeft : GoodIn wsL_wires (wsV RL 26 RX3 yX3_laysLeft wsX3_laysLeft) := goodIn_app (goodIn_of _ (by decide +kernel)) ggL_wires_X3_laysLeft
set_option maxRecDepth 20000 in
theorem ggL_wires_X3_lay : GoodIn wsL_wires wsX3_lay := goodIn_r _ [236, 13, 20, 237, 109, 3, 110, 205, 206, 207, 220, 221, 222, 123, 72, 73, 238, 239, 240, 12, 241, 85, 83, 105, 106, 107, 108, 31, 242, 213, 214, 215, 92, 93, 94, 19, 95, 46, 96, 97, 98, 99, 45, 68, 69, 70, 71, 74, 75, 76, 77, 30, 78, 79, 80, 81, 32, 33, 34, 82, 35, 84, 86, 87, 243, 244, 245, 246, 247, 248, 249, 250, 132, 133, 134, 135, 172, 173, 174, 179, 180, 251, 209, 210, 211, 227, 228, 229, 230, 231, 232, 252, 189, 190, 191, 349, 350, 351, 352, 353, 354, 355, 356, 357, 358, 359, 360, 361, 362, 363, 364, 365, 366, 367, 368] (by decide +kernel) (by decide +kernel)
set_option maxRecDepth 20000 in
theorem gL_wires_X3_lay : GoodIn wsL_wires (wsV RL 29 RX3 yX3_lay wsX3_lay) := goodIn_app (goodIn_of _ (by decide +kernel)) ggL_wires_X3_lay
set_option maxRecDepth 20000 in
theorem ggL_wires_X3_crossing : GoodIn wsL_wires wsX3_crossing := goodIn_r _ [256, 13, 257, 106, 107, 12, 108, 31, 109, 3, 110, 123, 72, 73, 258, 149, 150, 151, 105, 152, 153, 154, 155, 30, 259, 176, 177, 178, 172, 173, 134, 174, 179, 180, 260, 161, 162, 163, 32, 261, 169, 170, 171, 175, 181, 182, 183, 160, 262, 165, 166, 167, 35, 148, 168, 349, 350, 351, 352, 353, 354, 355, 356, 357, 358, 359, 360, 361, 362, 363, 364, 365, 366] (by decide +kernel) (by decide +kernel)
set_option maxRecDepth 20000 in
theorem gL_wires_X3_crossing : GoodIn wsL_wires (wsV RL 56 RX3 yX3_crossing wsX3_crossing) := goodIn_app (goodIn_of _ (by decide +kernel)) ggL_wires_X3_crossing
set_option maxRecDepth 20000 in
theorem ggL_wires_X3_heightAt : GoodIn wsL_wires wsX3_heightAt := goodIn_r _ [266, 13, 257, 106, 107, 12, 108, 31, 109, 3, 110, 123, 72, 73, 260, 161, 162, 163, 32, 267, 181, 182, 183, 349, 350, 351, 352, 353, 354, 355, 356, 357, 358, 359, 360, 361, 362, 363, 364, 365, 366] (by decide +kernel) (by decide +kernel)
set_option maxRecDepth 20000 in
theorem gL_wires_X3_heightAt : GoodIn wsL_wires (wsV RL 53 RX3 yX3_heightAt wsX3_heightAt) := goodIn_app (goodIn_of _ (by decide +kernel)) ggL_wires_X3_heightAt
set_option maxRecDepth 20000 in
theorem ggL_wires_X3_wire : GoodIn wsL_wires wsX3_wire := goodIn_r _ [271, 13, 257, 106, 107, 12, 108, 31, 109, 3, 110, 272, 273, 274, 275, 260, 161, 162, 163, 32, 252, 189, 190, 191, 33, 276, 277, 278, 279, 148, 149, 150, 151, 105, 152, 153, 154, 155, 30, 280, 281, 282, 283, 164, 165, 166, 167, 35, 168, 169, 170, 171, 172, 173, 134, 174, 175, 176, 177, 178, 179, 180, 181, 182, 183, 160, 284, 285, 286, 287, 288, 289, 290, 291, 292, 293, 294, 34, 349, 350, 351, 352, 353, 354, 355, 356, 357, 358, 359, 360, 361, 362, 363, 364, 365, 366] (by decide +kernel) (by decide +kernel)
set_option maxRecDepth 20000 in
theorem gL_wires_X3_wire : GoodIn wsL_wires (wsV RL 19 RX3 yX3_wire wsX3_wire) := goodIn_app (goodIn_of _ (by decide +kernel)) ggL_wires_X3_wire
set_option maxRecDepth 20000 in
theorem ggL_wires_L_refused : GoodIn wsL_wires wsL_refused := goodIn_r _ [298, 299, 300, 297, 301, 302, 303, 140, 141, 142, 3, 143, 13, 20, 24, 101, 102, 103, 12, 104, 105, 106, 107, 108, 31, 109, 110, 144, 145, 146, 147, 148, 149, 150, 151, 152, 153, 154, 155, 30, 156, 157, 158, 159, 160, 161, 162, 163, 32, 164, 165, 166, 167, 35, 168, 169, 170, 171, 172, 173, 134, 174, 175, 176, 177, 178, 179, 180, 181, 182, 183, 184, 185, 186, 187, 33, 188, 189, 190, 191, 192, 193, 194, 195, 60, 61, 62, 19, 63, 46, 196, 197, 198, 23, 199, 200, 268, 269, 270, 271, 257, 272, 273, 274, 275, 260, 252, 276, 277, 278, 279, 280, 281, 282, 283, 284, 285, 286, 287, 288, 289, 290, 291, 292, 293, 294, 34, 201, 202, 203, 204, 205, 206, 207, 208, 209, 210, 211, 212, 213, 214, 215, 216, 217, 218, 219, 220, 221, 222, 123, 72, 73, 223, 224, 225, 226, 83, 85, 82, 227, 228, 229, 230, 231, 232, 304, 305, 306, 307, 308, 309, 310, 92, 93, 94, 95, 96, 97, 98, 99, 45, 68, 69, 70, 71, 74, 75, 76, 77, 78, 79, 80, 81, 84, 86, 87, 311, 312, 313, 314, 315, 316, 317, 318, 319, 129, 130, 131, 132, 133, 135, 136, 137, 138, 139, 263, 264, 265, 266, 267, 253, 254, 255, 256, 258, 259, 261, 262, 320, 321, 322, 323, 324, 325, 326, 327, 328, 329, 330, 331, 233, 234, 235, 236, 237, 238, 239, 240, 241, 242, 243, 244, 245, 246, 247, 248, 249, 250, 251, 332, 333, 334, 335, 336, 337, 338, 339, 340, 341, 342, 343, 344, 345, 346, 347, 348, 119, 120, 121, 122, 124, 125, 126, 127, 128, 349, 350, 351, 352, 353, 354, 355, 356, 357, 358, 359, 360, 361, 362, 363, 364, 365, 366, 367, 368, 369, 370, 371, 372, 373, 374, 375] (by decide +kernel) (by decide +kernel)
set_option maxRecDepth 20000 in
theorem gL_wires_L_refused : GoodIn wsL_wires (va_wsS RL 88 yL_refused wsL_refused) := goodIn_app (goodIn_of _ (by decide +kernel)) ggL_wires_L_refused
set_option maxRecDepth 20000 in
theorem ggL_wires_X3_setWidth : GoodIn wsL_wires wsX3_setWidth := goodIn_r _ [348, 13, 20, 123, 72, 3, 73, 92, 93, 94, 19, 95, 46, 96, 97, 98, 99, 45, 68, 69, 70, 71, 74, 75, 76, 12, 77, 30, 78, 79, 80, 81, 31, 32, 33, 34, 82, 35, 83, 84, 85, 86, 87, 349, 350, 351, 352, 353, 354, 355, 356, 357, 358, 359, 360, 361, 362, 363, 364, 365, 366, 367, 368] (by decide +kernel) (by decide +kernel)
set_option maxRecDepth 20000 in
theorem gL_wires_X3_setWidth : GoodIn wsL_wires (wsV RL 44 RX3 yX3_setWidth wsX3_setWidth) := goodIn_app (goodIn_of _ (by decide +kernel)) ggL_wires_X3_setWidth
set_option maxRecDepth 20000 in
theorem ggL_wires_X3_bend : GoodIn wsL_wires wsX3_bend := goodIn_r _ [310, 13, 20, 257, 106, 107, 12, 108, 31, 109, 3, 110, 220, 221, 222, 123, 72, 73, 260, 161, 162, 163, 32, 92, 93, 94, 19, 95, 46, 96, 97, 98, 99, 45, 68, 69, 70, 71, 74, 75, 76, 77, 30, 78, 79, 80, 81, 33, 34, 82, 35, 83, 84, 85, 86, 87, 311, 312, 313, 314, 349, 350, 351, 352, 353, 354, 355, 356, 357, 358, 359, 360, 361, 362, 363, 364, 365, 366, 367, 368] (by decide +kernel) (by decide +kernel)
set_option maxRecDepth 20000 in
theorem gL_wires_X3_bend : GoodIn wsL_wires (wsV RL 38 RX3 yX3_bend wsX3_bend) := goodIn_app (goodIn_of _ (by decide +kernel)) ggL_wires_X3_bend
set_option maxRecDepth 20000 in
theorem ggL_wires_X3_bestHeight : GoodIn wsL_wires wsX3_bestHeight := goodIn_r _ [323, 13, 257, 106, 107, 12, 108, 31, 109, 3, 110, 123, 72, 73, 324, 325, 326, 327, 328, 281, 282, 283, 164, 165, 166, 167, 35, 148, 149, 150, 151, 105, 152, 153, 154, 155, 30, 168, 169, 170, 171, 172, 173, 134, 174, 175, 176, 177, 178, 179, 180, 181, 182, 183, 160, 161, 162, 163, 32, 280, 349, 350, 351, 352, 353, 354, 355, 356, 357, 358, 359, 360, 361, 362, 363, 364, 365, 366] (by decide +kernel) (by decide +kernel)
set_option maxRecDepth 20000 in
theorem gL_wires_X3_bestHeight : GoodIn wsL_wires (wsV RL 59 RX3 yX3_bestHeight wsX3_bestHeight) := goodIn_app (goodIn_of _ (by decide +kernel)) ggL_wires_X3_bestHeight
set_option maxRecDepth 20000 in
theorem ggL_wires_X3_pull : GoodIn wsL_wires wsX3_pull := goodIn_r _ [318, 13, 20, 257, 106, 107, 12, 108, 31, 109, 3, 110, 123, 72, 73, 92, 93, 94, 19, 95, 46, 96, 97, 98, 99, 45, 68, 69, 70, 71, 74, 75, 76, 77, 30, 78, 79, 80, 81, 32, 33, 34, 82, 35, 83, 84, 85, 86, 87, 319, 129, 130, 131, 132, 133, 134, 135, 105, 136, 137, 138, 139, 252, 189, 190, 191, 349, 350, 351, 352, 353, 354, 355, 356, 357, 358, 359, 360, 361, 362, 363, 364, 365, 366, 367, 368] (by decide +kernel) (by decide +kernel)
set_option maxRecDepth 20000 in
theorem gL_wires_X3_pull : GoodIn wsL_wires (wsV RL 47 RX3 yX3_pull wsX3_pull) := goodIn_app (goodIn_of _ (by decide +kernel)) ggL_wires_X3_pull
set_option maxRecDepth 20000 in
theorem ggL_wires_X3_moveLead : GoodIn wsL_wires wsX3_moveLead := goodIn_r _ [340, 13, 20, 205, 206, 3, 207, 123, 72, 73, 212, 213, 214, 12, 215, 31, 105, 106, 107, 108, 109, 110, 208, 209, 210, 211, 30, 92, 93, 94, 19, 95, 46, 96, 97, 98, 99, 45, 68, 69, 70, 71, 74, 75, 76, 77, 78, 79, 80, 81, 32, 33, 34, 82, 35, 83, 84, 85, 86, 87, 341, 342, 343, 344, 349, 350, 351, 352, 353, 354, 355, 356, 357, 358, 359, 360, 361, 362, 363, 364, 365, 366, 367, 368] (by decide +kernel) (by decide +kernel)
set_option maxRecDepth 20000 in
theorem gL_wires_X3_moveLead : GoodIn wsL_wires (wsV RL 41 RX3 yX3_moveLead wsX3_moveLead) := goodIn_app (goodIn_of _ (by decide +kernel)) ggL_wires_X3_moveLead
set_option maxRecDepth 20000 in
theorem ggL_wires_X3_takeOff : GoodIn wsL_wires wsX3_takeOff := goodIn_r _ [335, 13, 20, 257, 106, 107, 12, 108, 31, 109, 3, 110, 92, 93, 94, 19, 95, 46, 96, 97, 98, 99, 45, 68, 69, 70, 71, 72, 73, 74, 75, 76, 77, 30, 78, 79, 80, 81, 32, 33, 34, 82, 35, 83, 84, 85, 86, 87, 252, 189, 190, 191, 336, 137, 138, 139, 349, 350, 351, 352, 353, 354, 355, 356, 357, 358, 359, 360, 361, 362, 363, 364, 365, 366, 367, 368] (by decide +kernel) (by decide +kernel)
set_option maxRecDepth 20000 in
theorem gL_wires_X3_takeOff : GoodIn wsL_wires (wsV RL 35 RX3 yX3_takeOff wsX3_takeOff) := goodIn_app (goodIn_of _ (by decide +kernel)) ggL_wires_X3_takeOff
theorem dL_wires_0 : decode cL_wires 0 = .ok (.new 14, 3) := by decide +kernel
theorem dL_wires_3 : decode cL_wires 3 = .ok (.dup, 1) := by decide +kernel
theorem dL_wires_4 : decode cL_wires 4 = .ok (.invokespecial 74, 3) := by decide +kernel
theorem dL_wires_7 : decode cL_wires 7 = .ok (.astore_n 0, 1) := by decide +kernel
theorem dL_wires_8 : decode cL_wires 8 = .ok (.aload_n 0, 1) := by decide +kernel
theorem dL_wires_9 : decode cL_wires 9 = .ok (.invokevirtual 75, 3) := by decide +kernel
theorem dL_wires_12 : decode cL_wires 12 = .ok (.bipush (-5), 2) := by decide +kernel
theorem dL_wires_14 : decode cL_wires 14 = .ok (.if_icmp .ne 333, 3) := by decide +kernel
theorem dL_wires_17 : decode cL_wires 17 = .ok (.aload_n 0, 1) := by decide +kernel
theorem dL_wires_18 : decode cL_wires 18 = .ok (.invokevirtual 79, 3) := by decide +kernel
theorem dL_wires_21 : decode cL_wires 21 = .ok (.bipush (-5), 2) := by decide +kernel
theorem dL_wires_23 : decode cL_wires 23 = .ok (.if_icmp .ne 324, 3) := by decide +kernel
theorem dL_wires_26 : decode cL_wires 26 = .ok (.aload_n 0, 1) := by decide +kernel
theorem dL_wires_27 : decode cL_wires 27 = .ok (.invokevirtual 82, 3) := by decide +kernel
theorem dL_wires_30 : decode cL_wires 30 = .ok (.bipush (-5), 2) := by decide +kernel
theorem dL_wires_32 : decode cL_wires 32 = .ok (.if_icmp .ne 315, 3) := by decide +kernel
theorem dL_wires_35 : decode cL_wires 35 = .ok (.aload_n 0, 1) := by decide +kernel
theorem dL_wires_36 : decode cL_wires 36 = .ok (.invokevirtual 85, 3) := by decide +kernel
theorem dL_wires_39 : decode cL_wires 39 = .ok (.bipush (-5), 2) := by decide +kernel
theorem dL_wires_41 : decode cL_wires 41 = .ok (.if_icmp .ne 306, 3) := by decide +kernel
theorem dL_wires_44 : decode cL_wires 44 = .ok (.aload_n 0, 1) := by decide +kernel
theorem dL_wires_45 : decode cL_wires 45 = .ok (.iconst 1, 1) := by decide +kernel
theorem dL_wires_46 : decode cL_wires 46 = .ok (.iconst 1, 1) := by decide +kernel
theorem dL_wires_47 : decode cL_wires 47 = .ok (.invokevirtual 50, 3) := by decide +kernel
theorem dL_wires_50 : decode cL_wires 50 = .ok (.bipush (-5), 2) := by decide +kernel
theorem dL_wires_52 : decode cL_wires 52 = .ok (.if_icmp .ne 295, 3) := by decide +kernel
theorem dL_wires_55 : decode cL_wires 55 = .ok (.aload_n 0, 1) := by decide +kernel
theorem dL_wires_56 : decode cL_wires 56 = .ok (.bipush 9, 2) := by decide +kernel
theorem dL_wires_58 : decode cL_wires 58 = .ok (.invokevirtual 13, 3) := by decide +kernel
theorem dL_wires_61 : decode cL_wires 61 = .ok (.bipush (-5), 2) := by decide +kernel
theorem dL_wires_63 : decode cL_wires 63 = .ok (.if_icmp .ne 284, 3) := by decide +kernel
theorem dL_wires_66 : decode cL_wires 66 = .ok (.aload_n 0, 1) := by decide +kernel
theorem dL_wires_67 : decode cL_wires 67 = .ok (.bipush 15, 2) := by decide +kernel
theorem dL_wires_69 : decode cL_wires 69 = .ok (.iconst 0, 1) := by decide +kernel
theorem dL_wires_70 : decode cL_wires 70 = .ok (.invokevirtual 23, 3) := by decide +kernel
theorem dL_wires_73 : decode cL_wires 73 = .ok (.sipush 600, 3) := by decide +kernel
theorem dL_wires_76 : decode cL_wires 76 = .ok (.if_icmp .ne 271, 3) := by decide +kernel
theorem dL_wires_79 : decode cL_wires 79 = .ok (.aload_n 0, 1) := by decide +kernel
theorem dL_wires_80 : decode cL_wires 80 = .ok (.bipush 10, 2) := by decide +kernel
theorem dL_wires_82 : decode cL_wires 82 = .ok (.invokevirtual 26, 3) := by decide +kernel
theorem dL_wires_85 : decode cL_wires 85 = .ok (.bipush 7, 2) := by decide +kernel
theorem dL_wires_87 : decode cL_wires 87 = .ok (.if_icmp .ne 260, 3) := by decide +kernel
theorem dL_wires_90 : decode cL_wires 90 = .ok (.aload_n 0, 1) := by decide +kernel
theorem dL_wires_91 : decode cL_wires 91 = .ok (.iconst 0, 1) := by decide +kernel
theorem dL_wires_92 : decode cL_wires 92 = .ok (.iconst 0, 1) := by decide +kernel
theorem dL_wires_93 : decode cL_wires 93 = .ok (.bipush 60, 2) := by decide +kernel
theorem dL_wires_95 : decode cL_wires 95 = .ok (.invokevirtual 29, 3) := by decide +kernel
theorem dL_wires_98 : decode cL_wires 98 = .ok (.bipush 95, 2) := by decide +kernel
theorem dL_wires_100 : decode cL_wires 100 = .ok (.if_icmp .ne 247, 3) := by decide +kernel
theorem dL_wires_103 : decode cL_wires 103 = .ok (.aload_n 0, 1) := by decide +kernel
theorem dL_wires_104 : decode cL_wires 104 = .ok (.iconst 4, 1) := by decide +kernel
theorem dL_wires_105 : decode cL_wires 105 = .ok (.invokevirtual 13, 3) := by decide +kernel
theorem dL_wires_108 : decode cL_wires 108 = .ok (.iconst 3, 1) := by decide +kernel
theorem dL_wires_109 : decode cL_wires 109 = .ok (.if_icmp .ne 238, 3) := by decide +kernel
theorem dL_wires_112 : decode cL_wires 112 = .ok (.aload_n 0, 1) := by decide +kernel
theorem dL_wires_113 : decode cL_wires 113 = .ok (.iconst 0, 1) := by decide +kernel
theorem dL_wires_114 : decode cL_wires 114 = .ok (.iconst 1, 1) := by decide +kernel
theorem dL_wires_115 : decode cL_wires 115 = .ok (.bipush 60, 2) := by decide +kernel
theorem dL_wires_117 : decode cL_wires 117 = .ok (.invokevirtual 29, 3) := by decide +kernel
theorem dL_wires_120 : decode cL_wires 120 = .ok (.bipush (-4), 2) := by decide +kernel
theorem dL_wires_122 : decode cL_wires 122 = .ok (.if_icmp .ne 225, 3) := by decide +kernel
theorem dL_wires_125 : decode cL_wires 125 = .ok (.aload_n 0, 1) := by decide +kernel
theorem dL_wires_126 : decode cL_wires 126 = .ok (.iconst 1, 1) := by decide +kernel
theorem dL_wires_127 : decode cL_wires 127 = .ok (.iconst 0, 1) := by decide +kernel
theorem dL_wires_128 : decode cL_wires 128 = .ok (.bipush 60, 2) := by decide +kernel
theorem dL_wires_130 : decode cL_wires 130 = .ok (.invokevirtual 29, 3) := by decide +kernel
theorem dL_wires_133 : decode cL_wires 133 = .ok (.bipush (-4), 2) := by decide +kernel
theorem dL_wires_135 : decode cL_wires 135 = .ok (.if_icmp .ne 212, 3) := by decide +kernel
theorem dL_wires_138 : decode cL_wires 138 = .ok (.aload_n 0, 1) := by decide +kernel
theorem dL_wires_139 : decode cL_wires 139 = .ok (.bipush 12, 2) := by decide +kernel
theorem dL_wires_141 : decode cL_wires 141 = .ok (.iconst 0, 1) := by decide +kernel
theorem dL_wires_142 : decode cL_wires 142 = .ok (.iconst 5, 1) := by decide +kernel
theorem dL_wires_143 : decode cL_wires 143 = .ok (.invokevirtual 29, 3) := by decide +kernel
theorem dL_wires_146 : decode cL_wires 146 = .ok (.iconst (-1), 1) := by decide +kernel
theorem dL_wires_147 : decode cL_wires 147 = .ok (.if_icmp .ne 200, 3) := by decide +kernel
theorem dL_wires_150 : decode cL_wires 150 = .ok (.aload_n 0, 1) := by decide +kernel
theorem dL_wires_151 : decode cL_wires 151 = .ok (.iconst 1, 1) := by decide +kernel
theorem dL_wires_152 : decode cL_wires 152 = .ok (.iconst 1, 1) := by decide +kernel
theorem dL_wires_153 : decode cL_wires 153 = .ok (.bipush 9, 2) := by decide +kernel
theorem dL_wires_155 : decode cL_wires 155 = .ok (.invokevirtual 29, 3) := by decide +kernel
theorem dL_wires_158 : decode cL_wires 158 = .ok (.bipush (-2), 2) := by decide +kernel
theorem dL_wires_160 : decode cL_wires 160 = .ok (.if_icmp .ne 187, 3) := by decide +kernel
theorem dL_wires_163 : decode cL_wires 163 = .ok (.aload_n 0, 1) := by decide +kernel
theorem dL_wires_164 : decode cL_wires 164 = .ok (.iconst 1, 1) := by decide +kernel
theorem dL_wires_165 : decode cL_wires 165 = .ok (.iconst 5, 1) := by decide +kernel
theorem dL_wires_166 : decode cL_wires 166 = .ok (.bipush 100, 2) := by decide +kernel
theorem dL_wires_168 : decode cL_wires 168 = .ok (.invokevirtual 29, 3) := by decide +kernel
theorem dL_wires_171 : decode cL_wires 171 = .ok (.bipush 96, 2) := by decide +kernel
theorem dL_wires_173 : decode cL_wires 173 = .ok (.if_icmp .ne 174, 3) := by decide +kernel
theorem dL_wires_176 : decode cL_wires 176 = .ok (.aload_n 0, 1) := by decide +kernel
theorem dL_wires_177 : decode cL_wires 177 = .ok (.iconst 4, 1) := by decide +kernel
theorem dL_wires_178 : decode cL_wires 178 = .ok (.invokevirtual 13, 3) := by decide +kernel
theorem dL_wires_181 : decode cL_wires 181 = .ok (.bipush 7, 2) := by decide +kernel
theorem dL_wires_183 : decode cL_wires 183 = .ok (.if_icmp .ne 164, 3) := by decide +kernel
theorem dL_wires_186 : decode cL_wires 186 = .ok (.aload_n 0, 1) := by decide +kernel
theorem dL_wires_187 : decode cL_wires 187 = .ok (.iconst 0, 1) := by decide +kernel
theorem dL_wires_188 : decode cL_wires 188 = .ok (.iconst 1, 1) := by decide +kernel
theorem dL_wires_189 : decode cL_wires 189 = .ok (.iconst 0, 1) := by decide +kernel
theorem dL_wires_190 : decode cL_wires 190 = .ok (.invokevirtual 56, 3) := by decide +kernel
theorem dL_wires_193 : decode cL_wires 193 = .ok (.bipush (-5), 2) := by decide +kernel
theorem dL_wires_195 : decode cL_wires 195 = .ok (.if_icmp .ne 152, 3) := by decide +kernel
theorem dL_wires_198 : decode cL_wires 198 = .ok (.aload_n 0, 1) := by decide +kernel
theorem dL_wires_199 : decode cL_wires 199 = .ok (.iconst 2, 1) := by decide +kernel
theorem dL_wires_200 : decode cL_wires 200 = .ok (.iconst 3, 1) := by decide +kernel
theorem dL_wires_201 : decode cL_wires 201 = .ok (.sipush 200, 3) := by decide +kernel
theorem dL_wires_204 : decode cL_wires 204 = .ok (.invokevirtual 29, 3) := by decide +kernel
theorem dL_wires_207 : decode cL_wires 207 = .ok (.bipush 98, 2) := by decide +kernel
theorem dL_wires_209 : decode cL_wires 209 = .ok (.if_icmp .ne 138, 3) := by decide +kernel
theorem dL_wires_212 : decode cL_wires 212 = .ok (.aload_n 0, 1) := by decide +kernel
theorem dL_wires_213 : decode cL_wires 213 = .ok (.iconst 4, 1) := by decide +kernel
theorem dL_wires_214 : decode cL_wires 214 = .ok (.invokevirtual 13, 3) := by decide +kernel
theorem dL_wires_217 : decode cL_wires 217 = .ok (.bipush 13, 2) := by decide +kernel
theorem dL_wires_219 : decode cL_wires 219 = .ok (.if_icmp .ne 128, 3) := by decide +kernel
theorem dL_wires_222 : decode cL_wires 222 = .ok (.aload_n 0, 1) := by decide +kernel
theorem dL_wires_223 : decode cL_wires 223 = .ok (.iconst 1, 1) := by decide +kernel
theorem dL_wires_224 : decode cL_wires 224 = .ok (.iconst 2, 1) := by decide +kernel
theorem dL_wires_225 : decode cL_wires 225 = .ok (.iconst 0, 1) := by decide +kernel
theorem dL_wires_226 : decode cL_wires 226 = .ok (.invokevirtual 56, 3) := by decide +kernel
theorem dL_wires_229 : decode cL_wires 229 = .ok (.bipush 40, 2) := by decide +kernel
theorem dL_wires_231 : decode cL_wires 231 = .ok (.if_icmp .ne 116, 3) := by decide +kernel
theorem dL_wires_234 : decode cL_wires 234 = .ok (.aload_n 0, 1) := by decide +kernel
theorem dL_wires_235 : decode cL_wires 235 = .ok (.iconst 2, 1) := by decide +kernel
theorem dL_wires_236 : decode cL_wires 236 = .ok (.iconst 1, 1) := by decide +kernel
theorem dL_wires_237 : decode cL_wires 237 = .ok (.iconst 1, 1) := by decide +kernel
theorem dL_wires_238 : decode cL_wires 238 = .ok (.invokevirtual 56, 3) := by decide +kernel
theorem dL_wires_241 : decode cL_wires 241 = .ok (.bipush 64, 2) := by decide +kernel
theorem dL_wires_243 : decode cL_wires 243 = .ok (.if_icmp .ne 104, 3) := by decide +kernel
theorem dL_wires_246 : decode cL_wires 246 = .ok (.aload_n 0, 1) := by decide +kernel
theorem dL_wires_247 : decode cL_wires 247 = .ok (.iconst 1, 1) := by decide +kernel
theorem dL_wires_248 : decode cL_wires 248 = .ok (.iconst 2, 1) := by decide +kernel
theorem dL_wires_249 : decode cL_wires 249 = .ok (.iconst 2, 1) := by decide +kernel
theorem dL_wires_250 : decode cL_wires 250 = .ok (.invokevirtual 56, 3) := by decide +kernel
theorem dL_wires_253 : decode cL_wires 253 = .ok (.ifCond .ne 94, 3) := by decide +kernel
theorem dL_wires_256 : decode cL_wires 256 = .ok (.aload_n 0, 1) := by decide +kernel
theorem dL_wires_257 : decode cL_wires 257 = .ok (.iconst 2, 1) := by decide +kernel
theorem dL_wires_258 : decode cL_wires 258 = .ok (.invokevirtual 13, 3) := by decide +kernel
theorem dL_wires_261 : decode cL_wires 261 = .ok (.iconst 1, 1) := by decide +kernel
theorem dL_wires_262 : decode cL_wires 262 = .ok (.if_icmp .ne 85, 3) := by decide +kernel
theorem dL_wires_265 : decode cL_wires 265 = .ok (.aload_n 0, 1) := by decide +kernel
theorem dL_wires_266 : decode cL_wires 266 = .ok (.iconst 3, 1) := by decide +kernel
theorem dL_wires_267 : decode cL_wires 267 = .ok (.invokevirtual 13, 3) := by decide +kernel
theorem dL_wires_270 : decode cL_wires 270 = .ok (.ifCond .ne 77, 3) := by decide +kernel
theorem dL_wires_273 : decode cL_wires 273 = .ok (.aload_n 0, 1) := by decide +kernel
theorem dL_wires_274 : decode cL_wires 274 = .ok (.iconst 1, 1) := by decide +kernel
theorem dL_wires_275 : decode cL_wires 275 = .ok (.bipush 40, 2) := by decide +kernel
theorem dL_wires_277 : decode cL_wires 277 = .ok (.invokevirtual 53, 3) := by decide +kernel
theorem dL_wires_280 : decode cL_wires 280 = .ok (.bipush 64, 2) := by decide +kernel
theorem dL_wires_282 : decode cL_wires 282 = .ok (.if_icmp .ne 65, 3) := by decide +kernel
theorem dL_wires_285 : decode cL_wires 285 = .ok (.aload_n 0, 1) := by decide +kernel
theorem dL_wires_286 : decode cL_wires 286 = .ok (.iconst 1, 1) := by decide +kernel
theorem dL_wires_287 : decode cL_wires 287 = .ok (.bipush 100, 2) := by decide +kernel
theorem dL_wires_289 : decode cL_wires 289 = .ok (.invokevirtual 53, 3) := by decide +kernel
theorem dL_wires_292 : decode cL_wires 292 = .ok (.bipush 100, 2) := by decide +kernel
theorem dL_wires_294 : decode cL_wires 294 = .ok (.if_icmp .ne 53, 3) := by decide +kernel
theorem dL_wires_297 : decode cL_wires 297 = .ok (.aload_n 0, 1) := by decide +kernel
theorem dL_wires_298 : decode cL_wires 298 = .ok (.iconst 1, 1) := by decide +kernel
theorem dL_wires_299 : decode cL_wires 299 = .ok (.sipush 200, 3) := by decide +kernel
theorem dL_wires_302 : decode cL_wires 302 = .ok (.invokevirtual 53, 3) := by decide +kernel
theorem dL_wires_305 : decode cL_wires 305 = .ok (.ifCond .ne 42, 3) := by decide +kernel
theorem dL_wires_308 : decode cL_wires 308 = .ok (.aload_n 0, 1) := by decide +kernel
theorem dL_wires_309 : decode cL_wires 309 = .ok (.bipush 10, 2) := by decide +kernel
theorem dL_wires_311 : decode cL_wires 311 = .ok (.invokevirtual 13, 3) := by decide +kernel
theorem dL_wires_314 : decode cL_wires 314 = .ok (.sipush 289, 3) := by decide +kernel
theorem dL_wires_317 : decode cL_wires 317 = .ok (.if_icmp .ne 30, 3) := by decide +kernel
theorem dL_wires_320 : decode cL_wires 320 = .ok (.aload_n 0, 1) := by decide +kernel
theorem dL_wires_321 : decode cL_wires 321 = .ok (.bipush 9, 2) := by decide +kernel
theorem dL_wires_323 : decode cL_wires 323 = .ok (.invokevirtual 13, 3) := by decide +kernel
theorem dL_wires_326 : decode cL_wires 326 = .ok (.ifCond .ne 21, 3) := by decide +kernel
theorem dL_wires_329 : decode cL_wires 329 = .ok (.aload_n 0, 1) := by decide +kernel
theorem dL_wires_330 : decode cL_wires 330 = .ok (.iconst 2, 1) := by decide +kernel
theorem dL_wires_331 : decode cL_wires 331 = .ok (.bipush 6, 2) := by decide +kernel
theorem dL_wires_333 : decode cL_wires 333 = .ok (.invokevirtual 19, 3) := by decide +kernel
theorem dL_wires_336 : decode cL_wires 336 = .ok (.iconst 2, 1) := by decide +kernel
theorem dL_wires_337 : decode cL_wires 337 = .ok (.if_icmp .ne 10, 3) := by decide +kernel
theorem dL_wires_340 : decode cL_wires 340 = .ok (.aload_n 0, 1) := by decide +kernel
theorem dL_wires_341 : decode cL_wires 341 = .ok (.invokestatic 88, 3) := by decide +kernel
theorem dL_wires_344 : decode cL_wires 344 = .ok (.ifCond .ne 5, 3) := by decide +kernel
theorem dL_wires_347 : decode cL_wires 347 = .ok (.iconst 0, 1) := by decide +kernel
theorem dL_wires_348 : decode cL_wires 348 = .ok (.ireturn, 1) := by decide +kernel
theorem dL_wires_349 : decode cL_wires 349 = .ok (.aload_n 0, 1) := by decide +kernel
theorem dL_wires_350 : decode cL_wires 350 = .ok (.bipush 50, 2) := by decide +kernel
theorem dL_wires_352 : decode cL_wires 352 = .ok (.invokevirtual 44, 3) := by decide +kernel
theorem dL_wires_355 : decode cL_wires 355 = .ok (.bipush 10, 2) := by decide +kernel
theorem dL_wires_357 : decode cL_wires 357 = .ok (.if_icmp .ne 307, 3) := by decide +kernel
theorem dL_wires_360 : decode cL_wires 360 = .ok (.aload_n 0, 1) := by decide +kernel
theorem dL_wires_361 : decode cL_wires 361 = .ok (.bipush 50, 2) := by decide +kernel
theorem dL_wires_363 : decode cL_wires 363 = .ok (.invokevirtual 44, 3) := by decide +kernel
theorem dL_wires_366 : decode cL_wires 366 = .ok (.bipush (-5), 2) := by decide +kernel
theorem dL_wires_368 : decode cL_wires 368 = .ok (.if_icmp .ne 296, 3) := by decide +kernel
theorem dL_wires_371 : decode cL_wires 371 = .ok (.aload_n 0, 1) := by decide +kernel
theorem dL_wires_372 : decode cL_wires 372 = .ok (.iconst 3, 1) := by decide +kernel
theorem dL_wires_373 : decode cL_wires 373 = .ok (.invokevirtual 13, 3) := by decide +kernel
theorem dL_wires_376 : decode cL_wires 376 = .ok (.ifCond .ne 288, 3) := by decide +kernel
theorem dL_wires_379 : decode cL_wires 379 = .ok (.aload_n 0, 1) := by decide +kernel
theorem dL_wires_380 : decode cL_wires 380 = .ok (.iconst 2, 1) := by decide +kernel
theorem dL_wires_381 : decode cL_wires 381 = .ok (.bipush 120, 2) := by decide +kernel
theorem dL_wires_383 : decode cL_wires 383 = .ok (.invokevirtual 38, 3) := by decide +kernel
theorem dL_wires_386 : decode cL_wires 386 = .ok (.sipush 200, 3) := by decide +kernel
theorem dL_wires_389 : decode cL_wires 389 = .ok (.if_icmp .ne 275, 3) := by decide +kernel
theorem dL_wires_392 : decode cL_wires 392 = .ok (.aload_n 0, 1) := by decide +kernel
theorem dL_wires_393 : decode cL_wires 393 = .ok (.iconst 2, 1) := by decide +kernel
theorem dL_wires_394 : decode cL_wires 394 = .ok (.bipush 120, 2) := by decide +kernel
theorem dL_wires_396 : decode cL_wires 396 = .ok (.invokevirtual 38, 3) := by decide +kernel
theorem dL_wires_399 : decode cL_wires 399 = .ok (.bipush (-5), 2) := by decide +kernel
theorem dL_wires_401 : decode cL_wires 401 = .ok (.if_icmp .ne 263, 3) := by decide +kernel
theorem dL_wires_404 : decode cL_wires 404 = .ok (.aload_n 0, 1) := by decide +kernel
theorem dL_wires_405 : decode cL_wires 405 = .ok (.iconst 1, 1) := by decide +kernel
theorem dL_wires_406 : decode cL_wires 406 = .ok (.iconst 2, 1) := by decide +kernel
theorem dL_wires_407 : decode cL_wires 407 = .ok (.iconst 1, 1) := by decide +kernel
theorem dL_wires_408 : decode cL_wires 408 = .ok (.invokevirtual 56, 3) := by decide +kernel
theorem dL_wires_411 : decode cL_wires 411 = .ok (.bipush 12, 2) := by decide +kernel
theorem dL_wires_413 : decode cL_wires 413 = .ok (.if_icmp .ne 251, 3) := by decide +kernel
theorem dL_wires_416 : decode cL_wires 416 = .ok (.aload_n 0, 1) := by decide +kernel
theorem dL_wires_417 : decode cL_wires 417 = .ok (.iconst 2, 1) := by decide +kernel
theorem dL_wires_418 : decode cL_wires 418 = .ok (.iconst 1, 1) := by decide +kernel
theorem dL_wires_419 : decode cL_wires 419 = .ok (.iconst 2, 1) := by decide +kernel
theorem dL_wires_420 : decode cL_wires 420 = .ok (.invokevirtual 56, 3) := by decide +kernel
theorem dL_wires_423 : decode cL_wires 423 = .ok (.iconst 1, 1) := by decide +kernel
theorem dL_wires_424 : decode cL_wires 424 = .ok (.if_icmp .ne 240, 3) := by decide +kernel
theorem dL_wires_427 : decode cL_wires 427 = .ok (.aload_n 0, 1) := by decide +kernel
theorem dL_wires_428 : decode cL_wires 428 = .ok (.iconst 3, 1) := by decide +kernel
theorem dL_wires_429 : decode cL_wires 429 = .ok (.invokevirtual 13, 3) := by decide +kernel
theorem dL_wires_432 : decode cL_wires 432 = .ok (.iconst 1, 1) := by decide +kernel
theorem dL_wires_433 : decode cL_wires 433 = .ok (.if_icmp .ne 231, 3) := by decide +kernel
theorem dL_wires_436 : decode cL_wires 436 = .ok (.aload_n 0, 1) := by decide +kernel
theorem dL_wires_437 : decode cL_wires 437 = .ok (.iconst 1, 1) := by decide +kernel
theorem dL_wires_438 : decode cL_wires 438 = .ok (.iconst 4, 1) := by decide +kernel
theorem dL_wires_439 : decode cL_wires 439 = .ok (.invokevirtual 19, 3) := by decide +kernel
theorem dL_wires_442 : decode cL_wires 442 = .ok (.iconst 1, 1) := by decide +kernel
theorem dL_wires_443 : decode cL_wires 443 = .ok (.if_icmp .ne 221, 3) := by decide +kernel
theorem dL_wires_446 : decode cL_wires 446 = .ok (.aload_n 0, 1) := by decide +kernel
theorem dL_wires_447 : decode cL_wires 447 = .ok (.iconst 1, 1) := by decide +kernel
theorem dL_wires_448 : decode cL_wires 448 = .ok (.iconst 5, 1) := by decide +kernel
theorem dL_wires_449 : decode cL_wires 449 = .ok (.invokevirtual 19, 3) := by decide +kernel
theorem dL_wires_452 : decode cL_wires 452 = .ok (.bipush 12, 2) := by decide +kernel
theorem dL_wires_454 : decode cL_wires 454 = .ok (.if_icmp .ne 210, 3) := by decide +kernel
theorem dL_wires_457 : decode cL_wires 457 = .ok (.aload_n 0, 1) := by decide +kernel
theorem dL_wires_458 : decode cL_wires 458 = .ok (.iconst 0, 1) := by decide +kernel
theorem dL_wires_459 : decode cL_wires 459 = .ok (.iconst 5, 1) := by decide +kernel
theorem dL_wires_460 : decode cL_wires 460 = .ok (.invokevirtual 19, 3) := by decide +kernel
theorem dL_wires_463 : decode cL_wires 463 = .ok (.bipush (-5), 2) := by decide +kernel
theorem dL_wires_465 : decode cL_wires 465 = .ok (.if_icmp .ne 199, 3) := by decide +kernel
theorem dL_wires_468 : decode cL_wires 468 = .ok (.aload_n 0, 1) := by decide +kernel
theorem dL_wires_469 : decode cL_wires 469 = .ok (.iconst 1, 1) := by decide +kernel
theorem dL_wires_470 : decode cL_wires 470 = .ok (.iconst 0, 1) := by decide +kernel
theorem dL_wires_471 : decode cL_wires 471 = .ok (.invokevirtual 59, 3) := by decide +kernel
theorem dL_wires_474 : decode cL_wires 474 = .ok (.bipush 10, 2) := by decide +kernel
theorem dL_wires_476 : decode cL_wires 476 = .ok (.if_icmp .ne 188, 3) := by decide +kernel
theorem dL_wires_479 : decode cL_wires 479 = .ok (.aload_n 0, 1) := by decide +kernel
theorem dL_wires_480 : decode cL_wires 480 = .ok (.iconst 1, 1) := by decide +kernel
theorem dL_wires_481 : decode cL_wires 481 = .ok (.iconst 1, 1) := by decide +kernel
theorem dL_wires_482 : decode cL_wires 482 = .ok (.invokevirtual 59, 3) := by decide +kernel
theorem dL_wires_485 : decode cL_wires 485 = .ok (.ifCond .ne 179, 3) := by decide +kernel
theorem dL_wires_488 : decode cL_wires 488 = .ok (.aload_n 0, 1) := by decide +kernel
theorem dL_wires_489 : decode cL_wires 489 = .ok (.iconst 0, 1) := by decide +kernel
theorem dL_wires_490 : decode cL_wires 490 = .ok (.iconst 0, 1) := by decide +kernel
theorem dL_wires_491 : decode cL_wires 491 = .ok (.invokevirtual 59, 3) := by decide +kernel
theorem dL_wires_494 : decode cL_wires 494 = .ok (.bipush 10, 2) := by decide +kernel
theorem dL_wires_496 : decode cL_wires 496 = .ok (.if_icmp .ne 168, 3) := by decide +kernel
theorem dL_wires_499 : decode cL_wires 499 = .ok (.aload_n 0, 1) := by decide +kernel
theorem dL_wires_500 : decode cL_wires 500 = .ok (.iconst 0, 1) := by decide +kernel
theorem dL_wires_501 : decode cL_wires 501 = .ok (.bipush 95, 2) := by decide +kernel
theorem dL_wires_503 : decode cL_wires 503 = .ok (.invokevirtual 47, 3) := by decide +kernel
theorem dL_wires_506 : decode cL_wires 506 = .ok (.bipush 86, 2) := by decide +kernel
theorem dL_wires_508 : decode cL_wires 508 = .ok (.if_icmp .ne 156, 3) := by decide +kernel
theorem dL_wires_511 : decode cL_wires 511 = .ok (.aload_n 0, 1) := by decide +kernel
theorem dL_wires_512 : decode cL_wires 512 = .ok (.iconst 0, 1) := by decide +kernel
theorem dL_wires_513 : decode cL_wires 513 = .ok (.bipush 87, 2) := by decide +kernel
theorem dL_wires_515 : decode cL_wires 515 = .ok (.invokevirtual 47, 3) := by decide +kernel
theorem dL_wires_518 : decode cL_wires 518 = .ok (.sipush 1000, 3) := by decide +kernel
theorem dL_wires_521 : decode cL_wires 521 = .ok (.if_icmp .ne 143, 3) := by decide +kernel
theorem dL_wires_524 : decode cL_wires 524 = .ok (.aload_n 0, 1) := by decide +kernel
theorem dL_wires_525 : decode cL_wires 525 = .ok (.bipush 8, 2) := by decide +kernel
theorem dL_wires_527 : decode cL_wires 527 = .ok (.invokevirtual 13, 3) := by decide +kernel
theorem dL_wires_530 : decode cL_wires 530 = .ok (.iconst 1, 1) := by decide +kernel
theorem dL_wires_531 : decode cL_wires 531 = .ok (.if_icmp .ne 133, 3) := by decide +kernel
theorem dL_wires_534 : decode cL_wires 534 = .ok (.aload_n 0, 1) := by decide +kernel
theorem dL_wires_535 : decode cL_wires 535 = .ok (.iconst 0, 1) := by decide +kernel
theorem dL_wires_536 : decode cL_wires 536 = .ok (.iconst 0, 1) := by decide +kernel
theorem dL_wires_537 : decode cL_wires 537 = .ok (.invokevirtual 19, 3) := by decide +kernel
theorem dL_wires_540 : decode cL_wires 540 = .ok (.iconst (-1), 1) := by decide +kernel
theorem dL_wires_541 : decode cL_wires 541 = .ok (.if_icmp .ne 123, 3) := by decide +kernel
theorem dL_wires_544 : decode cL_wires 544 = .ok (.aload_n 0, 1) := by decide +kernel
theorem dL_wires_545 : decode cL_wires 545 = .ok (.iconst 0, 1) := by decide +kernel
theorem dL_wires_546 : decode cL_wires 546 = .ok (.iconst 1, 1) := by decide +kernel
theorem dL_wires_547 : decode cL_wires 547 = .ok (.invokevirtual 23, 3) := by decide +kernel
theorem dL_wires_550 : decode cL_wires 550 = .ok (.bipush (-5), 2) := by decide +kernel
theorem dL_wires_552 : decode cL_wires 552 = .ok (.if_icmp .ne 112, 3) := by decide +kernel
theorem dL_wires_555 : decode cL_wires 555 = .ok (.aload_n 0, 1) := by decide +kernel
theorem dL_wires_556 : decode cL_wires 556 = .ok (.iconst 3, 1) := by decide +kernel
theorem dL_wires_557 : decode cL_wires 557 = .ok (.bipush 120, 2) := by decide +kernel
theorem dL_wires_559 : decode cL_wires 559 = .ok (.invokevirtual 41, 3) := by decide +kernel
theorem dL_wires_562 : decode cL_wires 562 = .ok (.bipush (-4), 2) := by decide +kernel
theorem dL_wires_564 : decode cL_wires 564 = .ok (.if_icmp .ne 100, 3) := by decide +kernel
theorem dL_wires_567 : decode cL_wires 567 = .ok (.aload_n 0, 1) := by decide +kernel
theorem dL_wires_568 : decode cL_wires 568 = .ok (.iconst 0, 1) := by decide +kernel
theorem dL_wires_569 : decode cL_wires 569 = .ok (.sipush 600, 3) := by decide +kernel
theorem dL_wires_572 : decode cL_wires 572 = .ok (.invokevirtual 41, 3) := by decide +kernel
theorem dL_wires_575 : decode cL_wires 575 = .ok (.ifCond .ne 89, 3) := by decide +kernel
theorem dL_wires_578 : decode cL_wires 578 = .ok (.aload_n 0, 1) := by decide +kernel
theorem dL_wires_579 : decode cL_wires 579 = .ok (.iconst 0, 1) := by decide +kernel
theorem dL_wires_580 : decode cL_wires 580 = .ok (.sipush 600, 3) := by decide +kernel
theorem dL_wires_583 : decode cL_wires 583 = .ok (.invokevirtual 41, 3) := by decide +kernel
theorem dL_wires_586 : decode cL_wires 586 = .ok (.bipush (-5), 2) := by decide +kernel
theorem dL_wires_588 : decode cL_wires 588 = .ok (.if_icmp .ne 76, 3) := by decide +kernel
theorem dL_wires_591 : decode cL_wires 591 = .ok (.aload_n 0, 1) := by decide +kernel
theorem dL_wires_592 : decode cL_wires 592 = .ok (.bipush 9, 2) := by decide +kernel
theorem dL_wires_594 : decode cL_wires 594 = .ok (.invokevirtual 13, 3) := by decide +kernel
theorem dL_wires_597 : decode cL_wires 597 = .ok (.iconst 1, 1) := by decide +kernel
theorem dL_wires_598 : decode cL_wires 598 = .ok (.if_icmp .ne 66, 3) := by decide +kernel
theorem dL_wires_601 : decode cL_wires 601 = .ok (.aload_n 0, 1) := by decide +kernel
theorem dL_wires_602 : decode cL_wires 602 = .ok (.iconst 2, 1) := by decide +kernel
theorem dL_wires_603 : decode cL_wires 603 = .ok (.bipush 97, 2) := by decide +kernel
theorem dL_wires_605 : decode cL_wires 605 = .ok (.invokevirtual 50, 3) := by decide +kernel
theorem dL_wires_608 : decode cL_wires 608 = .ok (.iconst 1, 1) := by decide +kernel
theorem dL_wires_609 : decode cL_wires 609 = .ok (.if_icmp .ne 55, 3) := by decide +kernel
theorem dL_wires_612 : decode cL_wires 612 = .ok (.aload_n 0, 1) := by decide +kernel
theorem dL_wires_613 : decode cL_wires 613 = .ok (.iconst 1, 1) := by decide +kernel
theorem dL_wires_614 : decode cL_wires 614 = .ok (.iconst 0, 1) := by decide +kernel
theorem dL_wires_615 : decode cL_wires 615 = .ok (.invokevirtual 19, 3) := by decide +kernel
theorem dL_wires_618 : decode cL_wires 618 = .ok (.iconst (-1), 1) := by decide +kernel
theorem dL_wires_619 : decode cL_wires 619 = .ok (.if_icmp .ne 45, 3) := by decide +kernel
theorem dL_wires_622 : decode cL_wires 622 = .ok (.aload_n 0, 1) := by decide +kernel
theorem dL_wires_623 : decode cL_wires 623 = .ok (.iconst 2, 1) := by decide +kernel
theorem dL_wires_624 : decode cL_wires 624 = .ok (.iconst 2, 1) := by decide +kernel
theorem dL_wires_625 : decode cL_wires 625 = .ok (.invokevirtual 19, 3) := by decide +kernel
theorem dL_wires_628 : decode cL_wires 628 = .ok (.bipush 98, 2) := by decide +kernel
theorem dL_wires_630 : decode cL_wires 630 = .ok (.if_icmp .ne 34, 3) := by decide +kernel
theorem dL_wires_633 : decode cL_wires 633 = .ok (.aload_n 0, 1) := by decide +kernel
theorem dL_wires_634 : decode cL_wires 634 = .ok (.iconst 5, 1) := by decide +kernel
theorem dL_wires_635 : decode cL_wires 635 = .ok (.bipush 40, 2) := by decide +kernel
theorem dL_wires_637 : decode cL_wires 637 = .ok (.invokevirtual 50, 3) := by decide +kernel
theorem dL_wires_640 : decode cL_wires 640 = .ok (.ifCond .ne 24, 3) := by decide +kernel
theorem dL_wires_643 : decode cL_wires 643 = .ok (.aload_n 0, 1) := by decide +kernel
theorem dL_wires_644 : decode cL_wires 644 = .ok (.iconst 2, 1) := by decide +kernel
theorem dL_wires_645 : decode cL_wires 645 = .ok (.iconst 2, 1) := by decide +kernel
theorem dL_wires_646 : decode cL_wires 646 = .ok (.invokevirtual 19, 3) := by decide +kernel
theorem dL_wires_649 : decode cL_wires 649 = .ok (.bipush 94, 2) := by decide +kernel
theorem dL_wires_651 : decode cL_wires 651 = .ok (.if_icmp .ne 13, 3) := by decide +kernel
theorem dL_wires_654 : decode cL_wires 654 = .ok (.aload_n 0, 1) := by decide +kernel
theorem dL_wires_655 : decode cL_wires 655 = .ok (.bipush 10, 2) := by decide +kernel
theorem dL_wires_657 : decode cL_wires 657 = .ok (.invokevirtual 26, 3) := by decide +kernel
theorem dL_wires_660 : decode cL_wires 660 = .ok (.iconst 4, 1) := by decide +kernel
theorem dL_wires_661 : decode cL_wires 661 = .ok (.if_icmp .eq 5, 3) := by decide +kernel
theorem dL_wires_664 : decode cL_wires 664 = .ok (.iconst 0, 1) := by decide +kernel
theorem dL_wires_665 : decode cL_wires 665 = .ok (.ireturn, 1) := by decide +kernel
theorem dL_wires_666 : decode cL_wires 666 = .ok (.iconst 3, 1) := by decide +kernel
theorem dL_wires_667 : decode cL_wires 667 = .ok (.istore_n 1, 1) := by decide +kernel
theorem dL_wires_668 : decode cL_wires 668 = .ok (.iload_n 1, 1) := by decide +kernel
theorem dL_wires_669 : decode cL_wires 669 = .ok (.bipush 7, 2) := by decide +kernel
theorem dL_wires_671 : decode cL_wires 671 = .ok (.if_icmp .ge 24, 3) := by decide +kernel
theorem dL_wires_674 : decode cL_wires 674 = .ok (.aload_n 0, 1) := by decide +kernel
theorem dL_wires_675 : decode cL_wires 675 = .ok (.iload_n 1, 1) := by decide +kernel
theorem dL_wires_676 : decode cL_wires 676 = .ok (.iload_n 1, 1) := by decide +kernel
theorem dL_wires_677 : decode cL_wires 677 = .ok (.iconst 3, 1) := by decide +kernel
theorem dL_wires_678 : decode cL_wires 678 = .ok (.iadd, 1) := by decide +kernel
theorem dL_wires_679 : decode cL_wires 679 = .ok (.bipush 10, 2) := by decide +kernel
theorem dL_wires_681 : decode cL_wires 681 = .ok (.invokevirtual 29, 3) := by decide +kernel
theorem dL_wires_684 : decode cL_wires 684 = .ok (.ifCond .ge 5, 3) := by decide +kernel
theorem dL_wires_687 : decode cL_wires 687 = .ok (.iconst 0, 1) := by decide +kernel
theorem dL_wires_688 : decode cL_wires 688 = .ok (.ireturn, 1) := by decide +kernel
theorem dL_wires_689 : decode cL_wires 689 = .ok (.iinc 1 1, 3) := by decide +kernel
theorem dL_wires_692 : decode cL_wires 692 = .ok (.goto (-24), 3) := by decide +kernel
theorem dL_wires_695 : decode cL_wires 695 = .ok (.aload_n 0, 1) := by decide +kernel
theorem dL_wires_696 : decode cL_wires 696 = .ok (.iconst 5, 1) := by decide +kernel
theorem dL_wires_697 : decode cL_wires 697 = .ok (.invokevirtual 13, 3) := by decide +kernel
theorem dL_wires_700 : decode cL_wires 700 = .ok (.iconst 1, 1) := by decide +kernel
theorem dL_wires_701 : decode cL_wires 701 = .ok (.if_icmp .ne 177, 3) := by decide +kernel
theorem dL_wires_704 : decode cL_wires 704 = .ok (.aload_n 0, 1) := by decide +kernel
theorem dL_wires_705 : decode cL_wires 705 = .ok (.bipush 6, 2) := by decide +kernel
theorem dL_wires_707 : decode cL_wires 707 = .ok (.invokevirtual 13, 3) := by decide +kernel
theorem dL_wires_710 : decode cL_wires 710 = .ok (.iconst 1, 1) := by decide +kernel
theorem dL_wires_711 : decode cL_wires 711 = .ok (.if_icmp .ne 167, 3) := by decide +kernel
theorem dL_wires_714 : decode cL_wires 714 = .ok (.aload_n 0, 1) := by decide +kernel
theorem dL_wires_715 : decode cL_wires 715 = .ok (.iconst 1, 1) := by decide +kernel
theorem dL_wires_716 : decode cL_wires 716 = .ok (.invokevirtual 13, 3) := by decide +kernel
theorem dL_wires_719 : decode cL_wires 719 = .ok (.bipush 7, 2) := by decide +kernel
theorem dL_wires_721 : decode cL_wires 721 = .ok (.if_icmp .ne 157, 3) := by decide +kernel
theorem dL_wires_724 : decode cL_wires 724 = .ok (.aload_n 0, 1) := by decide +kernel
theorem dL_wires_725 : decode cL_wires 725 = .ok (.bipush 6, 2) := by decide +kernel
theorem dL_wires_727 : decode cL_wires 727 = .ok (.bipush 6, 2) := by decide +kernel
theorem dL_wires_729 : decode cL_wires 729 = .ok (.invokevirtual 19, 3) := by decide +kernel
theorem dL_wires_732 : decode cL_wires 732 = .ok (.bipush 6, 2) := by decide +kernel
theorem dL_wires_734 : decode cL_wires 734 = .ok (.if_icmp .ne 144, 3) := by decide +kernel
theorem dL_wires_737 : decode cL_wires 737 = .ok (.aload_n 0, 1) := by decide +kernel
theorem dL_wires_738 : decode cL_wires 738 = .ok (.bipush 10, 2) := by decide +kernel
theorem dL_wires_740 : decode cL_wires 740 = .ok (.invokevirtual 26, 3) := by decide +kernel
theorem dL_wires_743 : decode cL_wires 743 = .ok (.ifCond .ne 135, 3) := by decide +kernel
theorem dL_wires_746 : decode cL_wires 746 = .ok (.aload_n 0, 1) := by decide +kernel
theorem dL_wires_747 : decode cL_wires 747 = .ok (.bipush 8, 2) := by decide +kernel
theorem dL_wires_749 : decode cL_wires 749 = .ok (.bipush 12, 2) := by decide +kernel
theorem dL_wires_751 : decode cL_wires 751 = .ok (.bipush 10, 2) := by decide +kernel
theorem dL_wires_753 : decode cL_wires 753 = .ok (.invokevirtual 29, 3) := by decide +kernel
theorem dL_wires_756 : decode cL_wires 756 = .ok (.bipush (-6), 2) := by decide +kernel
theorem dL_wires_758 : decode cL_wires 758 = .ok (.if_icmp .ne 120, 3) := by decide +kernel
theorem dL_wires_761 : decode cL_wires 761 = .ok (.aload_n 0, 1) := by decide +kernel
theorem dL_wires_762 : decode cL_wires 762 = .ok (.bipush 6, 2) := by decide +kernel
theorem dL_wires_764 : decode cL_wires 764 = .ok (.bipush 12, 2) := by decide +kernel
theorem dL_wires_766 : decode cL_wires 766 = .ok (.bipush 10, 2) := by decide +kernel
theorem dL_wires_768 : decode cL_wires 768 = .ok (.invokevirtual 29, 3) := by decide +kernel
theorem dL_wires_771 : decode cL_wires 771 = .ok (.bipush (-4), 2) := by decide +kernel
theorem dL_wires_773 : decode cL_wires 773 = .ok (.if_icmp .ne 105, 3) := by decide +kernel
theorem dL_wires_776 : decode cL_wires 776 = .ok (.aload_n 0, 1) := by decide +kernel
theorem dL_wires_777 : decode cL_wires 777 = .ok (.invokevirtual 85, 3) := by decide +kernel
theorem dL_wires_780 : decode cL_wires 780 = .ok (.iconst 1, 1) := by decide +kernel
theorem dL_wires_781 : decode cL_wires 781 = .ok (.if_icmp .ne 97, 3) := by decide +kernel
theorem dL_wires_784 : decode cL_wires 784 = .ok (.aload_n 0, 1) := by decide +kernel
theorem dL_wires_785 : decode cL_wires 785 = .ok (.invokevirtual 85, 3) := by decide +kernel
theorem dL_wires_788 : decode cL_wires 788 = .ok (.bipush (-5), 2) := by decide +kernel
theorem dL_wires_790 : decode cL_wires 790 = .ok (.if_icmp .ne 88, 3) := by decide +kernel
theorem dL_wires_793 : decode cL_wires 793 = .ok (.aload_n 0, 1) := by decide +kernel
theorem dL_wires_794 : decode cL_wires 794 = .ok (.bipush 10, 2) := by decide +kernel
theorem dL_wires_796 : decode cL_wires 796 = .ok (.invokevirtual 26, 3) := by decide +kernel
theorem dL_wires_799 : decode cL_wires 799 = .ok (.bipush 7, 2) := by decide +kernel
theorem dL_wires_801 : decode cL_wires 801 = .ok (.if_icmp .ne 77, 3) := by decide +kernel
theorem dL_wires_804 : decode cL_wires 804 = .ok (.aload_n 0, 1) := by decide +kernel
theorem dL_wires_805 : decode cL_wires 805 = .ok (.bipush 6, 2) := by decide +kernel
theorem dL_wires_807 : decode cL_wires 807 = .ok (.invokevirtual 35, 3) := by decide +kernel
theorem dL_wires_810 : decode cL_wires 810 = .ok (.ifCond .lt 68, 3) := by decide +kernel
theorem dL_wires_813 : decode cL_wires 813 = .ok (.aload_n 0, 1) := by decide +kernel
theorem dL_wires_814 : decode cL_wires 814 = .ok (.bipush 12, 2) := by decide +kernel
theorem dL_wires_816 : decode cL_wires 816 = .ok (.invokevirtual 13, 3) := by decide +kernel
theorem dL_wires_819 : decode cL_wires 819 = .ok (.iconst 4, 1) := by decide +kernel
theorem dL_wires_820 : decode cL_wires 820 = .ok (.if_icmp .ne 58, 3) := by decide +kernel
theorem dL_wires_823 : decode cL_wires 823 = .ok (.aload_n 0, 1) := by decide +kernel
theorem dL_wires_824 : decode cL_wires 824 = .ok (.invokevirtual 75, 3) := by decide +kernel
theorem dL_wires_827 : decode cL_wires 827 = .ok (.iconst 3, 1) := by decide +kernel
theorem dL_wires_828 : decode cL_wires 828 = .ok (.if_icmp .ne 50, 3) := by decide +kernel
theorem dL_wires_831 : decode cL_wires 831 = .ok (.aload_n 0, 1) := by decide +kernel
theorem dL_wires_832 : decode cL_wires 832 = .ok (.invokevirtual 75, 3) := by decide +kernel
theorem dL_wires_835 : decode cL_wires 835 = .ok (.iconst 2, 1) := by decide +kernel
theorem dL_wires_836 : decode cL_wires 836 = .ok (.if_icmp .ne 42, 3) := by decide +kernel
theorem dL_wires_839 : decode cL_wires 839 = .ok (.aload_n 0, 1) := by decide +kernel
theorem dL_wires_840 : decode cL_wires 840 = .ok (.iconst 5, 1) := by decide +kernel
theorem dL_wires_841 : decode cL_wires 841 = .ok (.invokevirtual 13, 3) := by decide +kernel
theorem dL_wires_844 : decode cL_wires 844 = .ok (.iconst 1, 1) := by decide +kernel
theorem dL_wires_845 : decode cL_wires 845 = .ok (.if_icmp .ne 33, 3) := by decide +kernel
theorem dL_wires_848 : decode cL_wires 848 = .ok (.aload_n 0, 1) := by decide +kernel
theorem dL_wires_849 : decode cL_wires 849 = .ok (.invokevirtual 75, 3) := by decide +kernel
theorem dL_wires_852 : decode cL_wires 852 = .ok (.iconst 1, 1) := by decide +kernel
theorem dL_wires_853 : decode cL_wires 853 = .ok (.if_icmp .ne 25, 3) := by decide +kernel
theorem dL_wires_856 : decode cL_wires 856 = .ok (.aload_n 0, 1) := by decide +kernel
theorem dL_wires_857 : decode cL_wires 857 = .ok (.iconst 5, 1) := by decide +kernel
theorem dL_wires_858 : decode cL_wires 858 = .ok (.invokevirtual 13, 3) := by decide +kernel
theorem dL_wires_861 : decode cL_wires 861 = .ok (.ifCond .ne 17, 3) := by decide +kernel
theorem dL_wires_864 : decode cL_wires 864 = .ok (.aload_n 0, 1) := by decide +kernel
theorem dL_wires_865 : decode cL_wires 865 = .ok (.iconst 1, 1) := by decide +kernel
theorem dL_wires_866 : decode cL_wires 866 = .ok (.invokevirtual 13, 3) := by decide +kernel
theorem dL_wires_869 : decode cL_wires 869 = .ok (.bipush 6, 2) := by decide +kernel
theorem dL_wires_871 : decode cL_wires 871 = .ok (.if_icmp .ne 7, 3) := by decide +kernel
theorem dL_wires_874 : decode cL_wires 874 = .ok (.iconst 1, 1) := by decide +kernel
theorem dL_wires_875 : decode cL_wires 875 = .ok (.goto 4, 3) := by decide +kernel
theorem dL_wires_878 : decode cL_wires 878 = .ok (.iconst 0, 1) := by decide +kernel
theorem dL_wires_879 : decode cL_wires 879 = .ok (.ireturn, 1) := by decide +kernel
set_option maxRecDepth 20000 in
theorem ggL_tool_X3_init : GoodIn wsL_tool wsX3_init := goodIn_r _ [6, 7, 8, 9, 10, 11, 12, 13, 14, 15, 16, 17, 18, 19, 20, 21, 22, 23, 24, 25, 26, 27, 28, 29, 30, 31, 32, 33, 34, 35, 36, 37, 38, 39, 40, 41, 42, 43, 44, 45, 46, 47, 48, 49, 50, 51, 52, 53, 54, 55, 351, 352, 353, 354, 355, 356, 357, 358, 359, 360, 361, 362, 345, 346, 347, 348, 349, 350, 363, 364, 365, 366, 367, 368, 369, 370, 371] (by decide +kernel) (by decide +kernel)
set_option maxRecDepth 20000 in
theorem gL_tool_X3_init : GoodIn wsL_tool (wsX3_init) := ggL_tool_X3_init
set_option maxRecDepth 20000 in
theorem ggL_tool_X3_laysLeft : GoodIn wsL_tool wsX3_laysLeft := goodIn_r _ [59, 13, 60, 61, 3, 62, 63, 64, 65, 66, 67, 68, 12, 69, 70, 71, 72, 73, 74, 75, 76, 77, 78, 345, 346, 347, 348, 349, 350, 351, 352, 353, 354, 355, 356, 357, 358, 359, 360, 361, 362] (by decide +kernel) (by decide +kernel)
set_option maxRecDepth 20000 in
theorem gL_tool_X3_laysLeft : GoodIn wsL_tool (wsV RL 26 RX3 yX3_laysLeft wsX3_laysLeft) := goodIn_app (goodIn_of _ (by decide +kernel)) ggL_tool_X3_laysLeft
