set_option maxRecDepth 20000 in
theorem gL_refusesAny_X3_pull : GoodIn wsL_refusesAny (wsV RL 47 RX3 yX3_pull wsX3_pull) := goodIn_app (goodIn_of _ (by decide +kernel)) ggL_refusesAny_X3_pull
set_option maxRecDepth 20000 in
theorem ggL_refusesAny_X3_sample : GoodIn wsL_refusesAny wsX3_sample := goodIn_r _ [146, 6, 7, 17, 18, 4, 19, 147, 148, 149, 23, 150, 27, 28, 29, 30, 31, 9, 10, 36, 37, 38, 39, 40, 41, 42, 43, 44, 45, 46, 47, 48, 49, 50, 51, 52, 53, 54, 55, 56, 57, 58, 59, 60, 61, 62, 63, 64, 26, 65, 25, 66, 67, 151, 152, 153, 154, 155, 139, 140, 141, 76, 77, 78, 79, 142, 105, 106, 107, 273, 274, 275, 276, 277, 278, 279, 280, 281, 282, 283, 284, 285, 286, 287, 288, 289, 290, 291, 292] (by decide +kernel) (by decide +kernel)
set_option maxRecDepth 20000 in
theorem gL_refusesAny_X3_sample : GoodIn wsL_refusesAny (wsV RL 50 RX3 yX3_sample wsX3_sample) := goodIn_app (goodIn_of _ (by decide +kernel)) ggL_refusesAny_X3_sample
set_option maxRecDepth 20000 in
theorem ggL_refusesAny_X3_wire : GoodIn wsL_refusesAny wsX3_wire := goodIn_r _ [159, 6, 103, 28, 29, 23, 30, 31, 9, 4, 10, 160, 161, 162, 163, 112, 113, 114, 115, 60, 95, 96, 97, 98, 61, 164, 165, 166, 167, 168, 169, 170, 171, 27, 172, 173, 174, 175, 55, 176, 177, 178, 179, 180, 181, 182, 183, 64, 184, 185, 186, 187, 80, 81, 78, 82, 188, 189, 190, 191, 83, 84, 192, 193, 194, 195, 196, 197, 198, 199, 200, 201, 202, 203, 204, 205, 206, 62, 273, 274, 275, 276, 277, 278, 279, 280, 281, 282, 283, 284, 285, 286, 287, 288, 289, 290] (by decide +kernel) (by decide +kernel)
set_option maxRecDepth 20000 in
theorem gL_refusesAny_X3_wire : GoodIn wsL_refusesAny (wsV RL 19 RX3 yX3_wire wsX3_wire) := goodIn_app (goodIn_of _ (by decide +kernel)) ggL_refusesAny_X3_wire
set_option maxRecDepth 20000 in
theorem ggL_refusesAny_X3_heightAt : GoodIn wsL_refusesAny wsX3_heightAt := goodIn_r _ [210, 6, 103, 28, 29, 23, 30, 31, 9, 4, 10, 17, 18, 19, 112, 113, 114, 115, 60, 211, 192, 193, 194, 273, 274, 275, 276, 277, 278, 279, 280, 281, 282, 283, 284, 285, 286, 287, 288, 289, 290] (by decide +kernel) (by decide +kernel)
set_option maxRecDepth 20000 in
theorem gL_refusesAny_X3_heightAt : GoodIn wsL_refusesAny (wsV RL 53 RX3 yX3_heightAt wsX3_heightAt) := goodIn_app (goodIn_of _ (by decide +kernel)) ggL_refusesAny_X3_heightAt
set_option maxRecDepth 20000 in
theorem ggL_refusesAny_X3_crossing : GoodIn wsL_refusesAny wsX3_crossing := goodIn_r _ [215, 6, 103, 28, 29, 23, 30, 31, 9, 4, 10, 17, 18, 19, 216, 169, 170, 171, 27, 172, 173, 174, 175, 55, 217, 189, 190, 191, 80, 81, 78, 82, 83, 84, 112, 113, 114, 115, 60, 218, 185, 186, 187, 188, 192, 193, 194, 195, 219, 181, 182, 183, 64, 168, 184, 273, 274, 275, 276, 277, 278, 279, 280, 281, 282, 283, 284, 285, 286, 287, 288, 289, 290] (by decide +kernel) (by decide +kernel)
set_option maxRecDepth 20000 in
theorem gL_refusesAny_X3_crossing : GoodIn wsL_refusesAny (wsV RL 56 RX3 yX3_crossing wsX3_crossing) := goodIn_app (goodIn_of _ (by decide +kernel)) ggL_refusesAny_X3_crossing
set_option maxRecDepth 20000 in
theorem ggL_refusesAny_X3_lead : GoodIn wsL_refusesAny wsX3_lead := goodIn_r _ [223, 6, 11, 12, 4, 13, 125, 86, 87, 23, 88, 55, 124, 33, 34, 35, 31, 27, 28, 29, 30, 9, 10, 273, 274, 275, 276, 277, 278, 279, 280, 281, 282, 283, 284, 285, 286, 287, 288, 289, 290] (by decide +kernel) (by decide +kernel)
set_option maxRecDepth 20000 in
theorem gL_refusesAny_X3_lead : GoodIn wsL_refusesAny (wsV RL 23 RX3 yX3_lead wsX3_lead) := goodIn_app (goodIn_of _ (by decide +kernel)) ggL_refusesAny_X3_lead
set_option maxRecDepth 20000 in
theorem ggL_refusesAny_X3_bestHeight : GoodIn wsL_refusesAny wsX3_bestHeight := goodIn_r _ [227, 6, 103, 28, 29, 23, 30, 31, 9, 4, 10, 17, 18, 19, 228, 229, 230, 231, 232, 177, 178, 179, 180, 181, 182, 183, 64, 168, 169, 170, 171, 27, 172, 173, 174, 175, 55, 184, 185, 186, 187, 80, 81, 78, 82, 188, 189, 190, 191, 83, 84, 192, 193, 194, 195, 113, 114, 115, 60, 176, 273, 274, 275, 276, 277, 278, 279, 280, 281, 282, 283, 284, 285, 286, 287, 288, 289, 290] (by decide +kernel) (by decide +kernel)
set_option maxRecDepth 20000 in
theorem gL_refusesAny_X3_bestHeight : GoodIn wsL_refusesAny (wsV RL 59 RX3 yX3_bestHeight wsX3_bestHeight) := goodIn_app (goodIn_of _ (by decide +kernel)) ggL_refusesAny_X3_bestHeight
set_option maxRecDepth 20000 in
theorem ggL_refusesAny_X3_laysLeft : GoodIn wsL_refusesAny wsX3_laysLeft := goodIn_r _ [236, 6, 14, 15, 4, 16, 17, 18, 19, 237, 238, 239, 23, 240, 26, 25, 63, 89, 90, 91, 92, 93, 94, 273, 274, 275, 276, 277, 278, 279, 280, 281, 282, 283, 284, 285, 286, 287, 288, 289, 290] (by decide +kernel) (by decide +kernel)
set_option maxRecDepth 20000 in
theorem gL_refusesAny_X3_laysLeft : GoodIn wsL_refusesAny (wsV RL 26 RX3 yX3_laysLeft wsX3_laysLeft) := goodIn_app (goodIn_of _ (by decide +kernel)) ggL_refusesAny_X3_laysLeft
set_option maxRecDepth 20000 in
set_option maxRecDepth 20000 in
theorem ggL_refusesAny_X3_count_c : GoodIn wsL_refusesAny [.code yX3_count cX3_count 2 (some .int)] := goodIn_r _ [244] (by first | exact Eq.refl _ | decide +kernel) (by decide +kernel)
set_option maxRecDepth 20000 in
theorem ggL_refusesAny_X3_count_r1 : GoodIn wsL_refusesAny wsX3_count_r1 := goodIn_r _ [6, 7, 245, 147, 148, 149, 23, 150, 27, 28, 29, 30, 31, 9, 4, 10, 246, 247, 248, 249, 168, 169, 170, 171] (by first | exact Eq.refl _ | decide +kernel) (by decide +kernel)
set_option maxRecDepth 20000 in
theorem ggL_refusesAny_X3_count_r2 : GoodIn wsL_refusesAny wsX3_count_r2 := goodIn_r _ [172, 173, 174, 175, 55, 250, 251, 252, 253, 195, 113, 114, 115, 60, 180, 181, 182, 183, 64, 184, 185, 186, 187, 80] (by first | exact Eq.refl _ | decide +kernel) (by decide +kernel)
set_option maxRecDepth 20000 in
theorem ggL_refusesAny_X3_count_r3 : GoodIn wsL_refusesAny wsX3_count_r3 := goodIn_r _ [81, 78, 82, 188, 189, 190, 191, 83, 84, 192, 193, 194, 254, 255, 256, 257, 61, 258, 96, 97, 98, 259, 260, 261] (by first | exact Eq.refl _ | decide +kernel) (by decide +kernel)
set_option maxRecDepth 20000 in
theorem ggL_refusesAny_X3_count_r4 : GoodIn wsL_refusesAny wsX3_count_r4 := goodIn_r _ [262, 263, 264, 265, 39, 266, 41, 267, 268, 269, 270, 271, 272] (by first | exact Eq.refl _ | decide +kernel) (by decide +kernel)
set_option maxRecDepth 20000 in
theorem ggL_refusesAny_X3_count_wsX30 : GoodIn wsL_refusesAny wsX30 := goodIn_r _ [273, 274, 275, 276, 277, 278] (by first | exact Eq.refl _ | decide +kernel) (by decide +kernel)
set_option maxRecDepth 20000 in
theorem ggL_refusesAny_X3_count_wsX00 : GoodIn wsL_refusesAny wsX00 := goodIn_r _ [279, 280, 281, 282, 283, 284, 285, 286, 287, 288, 289, 290] (by first | exact Eq.refl _ | decide +kernel) (by decide +kernel)
set_option maxRecDepth 20000 in
theorem ggL_refusesAny_X3_count_wsX10 : GoodIn wsL_refusesAny wsX10 := goodIn_r _ [291, 292] (by first | exact Eq.refl _ | decide +kernel) (by decide +kernel)
set_option maxRecDepth 20000 in
theorem ggL_refusesAny_X3_count_wsX20 : GoodIn wsL_refusesAny wsX20 := goodIn_r _ [293, 294, 295, 296, 297, 298, 299] (by first | exact Eq.refl _ | decide +kernel) (by decide +kernel)
theorem ggL_refusesAny_X3_count : GoodIn wsL_refusesAny wsX3_count := goodIn_app (b := ((wsX3_count_r1 ++ (wsX3_count_r2 ++ (wsX3_count_r3 ++ wsX3_count_r4))) ++ wsX30 ++ wsX00 ++ wsX10 ++ wsX20)) ggL_refusesAny_X3_count_c (goodIn_app (goodIn_app (goodIn_app (goodIn_app (goodIn_app ggL_refusesAny_X3_count_r1 (goodIn_app ggL_refusesAny_X3_count_r2 (goodIn_app ggL_refusesAny_X3_count_r3 (ggL_refusesAny_X3_count_r4)))) ggL_refusesAny_X3_count_wsX30) ggL_refusesAny_X3_count_wsX00) ggL_refusesAny_X3_count_wsX10) ggL_refusesAny_X3_count_wsX20)
set_option maxRecDepth 20000 in
theorem gL_refusesAny_X3_count : GoodIn wsL_refusesAny (wsV RL 13 RX3 yX3_count wsX3_count) := goodIn_app (goodIn_of _ (by decide +kernel)) ggL_refusesAny_X3_count
theorem dL_refusesAny_0 : decode cL_refusesAny 0 = .ok (.iload_n 1, 1) := by decide +kernel
theorem dL_refusesAny_1 : decode cL_refusesAny 1 = .ok (.ifCond .ne 7, 3) := by decide +kernel
theorem dL_refusesAny_4 : decode cL_refusesAny 4 = .ok (.iconst (-1), 1) := by decide +kernel
theorem dL_refusesAny_5 : decode cL_refusesAny 5 = .ok (.goto 5, 3) := by decide +kernel
theorem dL_refusesAny_8 : decode cL_refusesAny 8 = .ok (.bipush 12, 2) := by decide +kernel
theorem dL_refusesAny_10 : decode cL_refusesAny 10 = .ok (.istore_n 2, 1) := by decide +kernel
theorem dL_refusesAny_11 : decode cL_refusesAny 11 = .ok (.iload_n 1, 1) := by decide +kernel
theorem dL_refusesAny_12 : decode cL_refusesAny 12 = .ok (.ifCond .ne 7, 3) := by decide +kernel
theorem dL_refusesAny_15 : decode cL_refusesAny 15 = .ok (.iconst (-1), 1) := by decide +kernel
theorem dL_refusesAny_16 : decode cL_refusesAny 16 = .ok (.goto 5, 3) := by decide +kernel
theorem dL_refusesAny_19 : decode cL_refusesAny 19 = .ok (.bipush 16, 2) := by decide +kernel
theorem dL_refusesAny_21 : decode cL_refusesAny 21 = .ok (.istore_n 3, 1) := by decide +kernel
theorem dL_refusesAny_22 : decode cL_refusesAny 22 = .ok (.iload_n 1, 1) := by decide +kernel
theorem dL_refusesAny_23 : decode cL_refusesAny 23 = .ok (.ifCond .ne 8, 3) := by decide +kernel
theorem dL_refusesAny_26 : decode cL_refusesAny 26 = .ok (.bipush 9, 2) := by decide +kernel
theorem dL_refusesAny_28 : decode cL_refusesAny 28 = .ok (.goto 6, 3) := by decide +kernel
theorem dL_refusesAny_31 : decode cL_refusesAny 31 = .ok (.sipush 201, 3) := by decide +kernel
theorem dL_refusesAny_34 : decode cL_refusesAny 34 = .ok (.istore 4, 2) := by decide +kernel
theorem dL_refusesAny_36 : decode cL_refusesAny 36 = .ok (.aload_n 0, 1) := by decide +kernel
theorem dL_refusesAny_37 : decode cL_refusesAny 37 = .ok (.iload_n 2, 1) := by decide +kernel
theorem dL_refusesAny_38 : decode cL_refusesAny 38 = .ok (.iconst 0, 1) := by decide +kernel
theorem dL_refusesAny_39 : decode cL_refusesAny 39 = .ok (.iload 4, 2) := by decide +kernel
theorem dL_refusesAny_41 : decode cL_refusesAny 41 = .ok (.invokevirtual 29, 3) := by decide +kernel
theorem dL_refusesAny_44 : decode cL_refusesAny 44 = .ok (.iconst (-1), 1) := by decide +kernel
theorem dL_refusesAny_45 : decode cL_refusesAny 45 = .ok (.if_icmp .ne 185, 3) := by decide +kernel
theorem dL_refusesAny_48 : decode cL_refusesAny 48 = .ok (.aload_n 0, 1) := by decide +kernel
theorem dL_refusesAny_49 : decode cL_refusesAny 49 = .ok (.iconst 0, 1) := by decide +kernel
theorem dL_refusesAny_50 : decode cL_refusesAny 50 = .ok (.iload_n 3, 1) := by decide +kernel
theorem dL_refusesAny_51 : decode cL_refusesAny 51 = .ok (.iload 4, 2) := by decide +kernel
theorem dL_refusesAny_53 : decode cL_refusesAny 53 = .ok (.invokevirtual 29, 3) := by decide +kernel
theorem dL_refusesAny_56 : decode cL_refusesAny 56 = .ok (.iconst (-1), 1) := by decide +kernel
theorem dL_refusesAny_57 : decode cL_refusesAny 57 = .ok (.if_icmp .ne 173, 3) := by decide +kernel
theorem dL_refusesAny_60 : decode cL_refusesAny 60 = .ok (.aload_n 0, 1) := by decide +kernel
theorem dL_refusesAny_61 : decode cL_refusesAny 61 = .ok (.iconst 0, 1) := by decide +kernel
theorem dL_refusesAny_62 : decode cL_refusesAny 62 = .ok (.iconst 0, 1) := by decide +kernel
theorem dL_refusesAny_63 : decode cL_refusesAny 63 = .ok (.iload 4, 2) := by decide +kernel
theorem dL_refusesAny_65 : decode cL_refusesAny 65 = .ok (.invokevirtual 29, 3) := by decide +kernel
theorem dL_refusesAny_68 : decode cL_refusesAny 68 = .ok (.bipush (-2), 2) := by decide +kernel
theorem dL_refusesAny_70 : decode cL_refusesAny 70 = .ok (.if_icmp .ne 160, 3) := by decide +kernel
theorem dL_refusesAny_73 : decode cL_refusesAny 73 = .ok (.aload_n 0, 1) := by decide +kernel
theorem dL_refusesAny_74 : decode cL_refusesAny 74 = .ok (.iload_n 2, 1) := by decide +kernel
theorem dL_refusesAny_75 : decode cL_refusesAny 75 = .ok (.invokevirtual 35, 3) := by decide +kernel
theorem dL_refusesAny_78 : decode cL_refusesAny 78 = .ok (.iconst (-1), 1) := by decide +kernel
theorem dL_refusesAny_79 : decode cL_refusesAny 79 = .ok (.if_icmp .ne 151, 3) := by decide +kernel
theorem dL_refusesAny_82 : decode cL_refusesAny 82 = .ok (.aload_n 0, 1) := by decide +kernel
theorem dL_refusesAny_83 : decode cL_refusesAny 83 = .ok (.iload_n 2, 1) := by decide +kernel
theorem dL_refusesAny_84 : decode cL_refusesAny 84 = .ok (.iload 4, 2) := by decide +kernel
theorem dL_refusesAny_86 : decode cL_refusesAny 86 = .ok (.invokevirtual 38, 3) := by decide +kernel
theorem dL_refusesAny_89 : decode cL_refusesAny 89 = .ok (.iconst (-1), 1) := by decide +kernel
theorem dL_refusesAny_90 : decode cL_refusesAny 90 = .ok (.if_icmp .ne 140, 3) := by decide +kernel
theorem dL_refusesAny_93 : decode cL_refusesAny 93 = .ok (.aload_n 0, 1) := by decide +kernel
theorem dL_refusesAny_94 : decode cL_refusesAny 94 = .ok (.iload_n 3, 1) := by decide +kernel
theorem dL_refusesAny_95 : decode cL_refusesAny 95 = .ok (.sipush 601, 3) := by decide +kernel
theorem dL_refusesAny_98 : decode cL_refusesAny 98 = .ok (.invokevirtual 41, 3) := by decide +kernel
theorem dL_refusesAny_101 : decode cL_refusesAny 101 = .ok (.iconst (-1), 1) := by decide +kernel
theorem dL_refusesAny_102 : decode cL_refusesAny 102 = .ok (.if_icmp .ne 128, 3) := by decide +kernel
theorem dL_refusesAny_105 : decode cL_refusesAny 105 = .ok (.aload_n 0, 1) := by decide +kernel
theorem dL_refusesAny_106 : decode cL_refusesAny 106 = .ok (.iconst 0, 1) := by decide +kernel
theorem dL_refusesAny_107 : decode cL_refusesAny 107 = .ok (.iload_n 1, 1) := by decide +kernel
theorem dL_refusesAny_108 : decode cL_refusesAny 108 = .ok (.ifCond .ne 7, 3) := by decide +kernel
theorem dL_refusesAny_111 : decode cL_refusesAny 111 = .ok (.iconst (-1), 1) := by decide +kernel
theorem dL_refusesAny_112 : decode cL_refusesAny 112 = .ok (.goto 6, 3) := by decide +kernel
theorem dL_refusesAny_115 : decode cL_refusesAny 115 = .ok (.sipush 601, 3) := by decide +kernel
theorem dL_refusesAny_118 : decode cL_refusesAny 118 = .ok (.invokevirtual 41, 3) := by decide +kernel
theorem dL_refusesAny_121 : decode cL_refusesAny 121 = .ok (.bipush (-2), 2) := by decide +kernel
theorem dL_refusesAny_123 : decode cL_refusesAny 123 = .ok (.if_icmp .ne 107, 3) := by decide +kernel
theorem dL_refusesAny_126 : decode cL_refusesAny 126 = .ok (.aload_n 0, 1) := by decide +kernel
theorem dL_refusesAny_127 : decode cL_refusesAny 127 = .ok (.iload_n 1, 1) := by decide +kernel
theorem dL_refusesAny_128 : decode cL_refusesAny 128 = .ok (.ifCond .ne 7, 3) := by decide +kernel
theorem dL_refusesAny_131 : decode cL_refusesAny 131 = .ok (.iconst 0, 1) := by decide +kernel
theorem dL_refusesAny_132 : decode cL_refusesAny 132 = .ok (.goto 5, 3) := by decide +kernel
theorem dL_refusesAny_135 : decode cL_refusesAny 135 = .ok (.bipush 51, 2) := by decide +kernel
theorem dL_refusesAny_137 : decode cL_refusesAny 137 = .ok (.invokevirtual 44, 3) := by decide +kernel
theorem dL_refusesAny_140 : decode cL_refusesAny 140 = .ok (.bipush (-2), 2) := by decide +kernel
theorem dL_refusesAny_142 : decode cL_refusesAny 142 = .ok (.if_icmp .ne 88, 3) := by decide +kernel
theorem dL_refusesAny_145 : decode cL_refusesAny 145 = .ok (.aload_n 0, 1) := by decide +kernel
theorem dL_refusesAny_146 : decode cL_refusesAny 146 = .ok (.iload_n 2, 1) := by decide +kernel
theorem dL_refusesAny_147 : decode cL_refusesAny 147 = .ok (.iconst 0, 1) := by decide +kernel
theorem dL_refusesAny_148 : decode cL_refusesAny 148 = .ok (.invokevirtual 47, 3) := by decide +kernel
theorem dL_refusesAny_151 : decode cL_refusesAny 151 = .ok (.iconst (-1), 1) := by decide +kernel
theorem dL_refusesAny_152 : decode cL_refusesAny 152 = .ok (.if_icmp .ne 78, 3) := by decide +kernel
theorem dL_refusesAny_155 : decode cL_refusesAny 155 = .ok (.aload_n 0, 1) := by decide +kernel
theorem dL_refusesAny_156 : decode cL_refusesAny 156 = .ok (.iload_n 1, 1) := by decide +kernel
theorem dL_refusesAny_157 : decode cL_refusesAny 157 = .ok (.ifCond .ne 7, 3) := by decide +kernel
theorem dL_refusesAny_160 : decode cL_refusesAny 160 = .ok (.iconst 0, 1) := by decide +kernel
theorem dL_refusesAny_161 : decode cL_refusesAny 161 = .ok (.goto 5, 3) := by decide +kernel
theorem dL_refusesAny_164 : decode cL_refusesAny 164 = .ok (.bipush 13, 2) := by decide +kernel
theorem dL_refusesAny_166 : decode cL_refusesAny 166 = .ok (.iconst 1, 1) := by decide +kernel
theorem dL_refusesAny_167 : decode cL_refusesAny 167 = .ok (.invokevirtual 50, 3) := by decide +kernel
theorem dL_refusesAny_170 : decode cL_refusesAny 170 = .ok (.bipush (-2), 2) := by decide +kernel
theorem dL_refusesAny_172 : decode cL_refusesAny 172 = .ok (.if_icmp .ne 58, 3) := by decide +kernel
theorem dL_refusesAny_175 : decode cL_refusesAny 175 = .ok (.aload_n 0, 1) := by decide +kernel
theorem dL_refusesAny_176 : decode cL_refusesAny 176 = .ok (.iconst 1, 1) := by decide +kernel
theorem dL_refusesAny_177 : decode cL_refusesAny 177 = .ok (.iload_n 1, 1) := by decide +kernel
theorem dL_refusesAny_178 : decode cL_refusesAny 178 = .ok (.ifCond .ne 7, 3) := by decide +kernel
theorem dL_refusesAny_181 : decode cL_refusesAny 181 = .ok (.iconst 0, 1) := by decide +kernel
theorem dL_refusesAny_182 : decode cL_refusesAny 182 = .ok (.goto 5, 3) := by decide +kernel
theorem dL_refusesAny_185 : decode cL_refusesAny 185 = .ok (.bipush 101, 2) := by decide +kernel
theorem dL_refusesAny_187 : decode cL_refusesAny 187 = .ok (.invokevirtual 50, 3) := by decide +kernel
theorem dL_refusesAny_190 : decode cL_refusesAny 190 = .ok (.bipush (-2), 2) := by decide +kernel
theorem dL_refusesAny_192 : decode cL_refusesAny 192 = .ok (.if_icmp .ne 38, 3) := by decide +kernel
theorem dL_refusesAny_195 : decode cL_refusesAny 195 = .ok (.aload_n 0, 1) := by decide +kernel
theorem dL_refusesAny_196 : decode cL_refusesAny 196 = .ok (.iload_n 2, 1) := by decide +kernel
theorem dL_refusesAny_197 : decode cL_refusesAny 197 = .ok (.bipush 9, 2) := by decide +kernel
theorem dL_refusesAny_199 : decode cL_refusesAny 199 = .ok (.invokevirtual 19, 3) := by decide +kernel
theorem dL_refusesAny_202 : decode cL_refusesAny 202 = .ok (.iconst (-1), 1) := by decide +kernel
theorem dL_refusesAny_203 : decode cL_refusesAny 203 = .ok (.if_icmp .ne 27, 3) := by decide +kernel
theorem dL_refusesAny_206 : decode cL_refusesAny 206 = .ok (.aload_n 0, 1) := by decide +kernel
theorem dL_refusesAny_207 : decode cL_refusesAny 207 = .ok (.iload_n 2, 1) := by decide +kernel
theorem dL_refusesAny_208 : decode cL_refusesAny 208 = .ok (.sipush 999, 3) := by decide +kernel
theorem dL_refusesAny_211 : decode cL_refusesAny 211 = .ok (.invokevirtual 53, 3) := by decide +kernel
theorem dL_refusesAny_214 : decode cL_refusesAny 214 = .ok (.iconst (-1), 1) := by decide +kernel
theorem dL_refusesAny_215 : decode cL_refusesAny 215 = .ok (.if_icmp .ne 15, 3) := by decide +kernel
theorem dL_refusesAny_218 : decode cL_refusesAny 218 = .ok (.aload_n 0, 1) := by decide +kernel
theorem dL_refusesAny_219 : decode cL_refusesAny 219 = .ok (.iload_n 2, 1) := by decide +kernel
theorem dL_refusesAny_220 : decode cL_refusesAny 220 = .ok (.iconst 0, 1) := by decide +kernel
theorem dL_refusesAny_221 : decode cL_refusesAny 221 = .ok (.bipush 9, 2) := by decide +kernel
theorem dL_refusesAny_223 : decode cL_refusesAny 223 = .ok (.invokevirtual 56, 3) := by decide +kernel
theorem dL_refusesAny_226 : decode cL_refusesAny 226 = .ok (.iconst (-1), 1) := by decide +kernel
theorem dL_refusesAny_227 : decode cL_refusesAny 227 = .ok (.if_icmp .eq 5, 3) := by decide +kernel
theorem dL_refusesAny_230 : decode cL_refusesAny 230 = .ok (.iconst 0, 1) := by decide +kernel
theorem dL_refusesAny_231 : decode cL_refusesAny 231 = .ok (.ireturn, 1) := by decide +kernel
theorem dL_refusesAny_232 : decode cL_refusesAny 232 = .ok (.aload_n 0, 1) := by decide +kernel
theorem dL_refusesAny_233 : decode cL_refusesAny 233 = .ok (.iconst 0, 1) := by decide +kernel
theorem dL_refusesAny_234 : decode cL_refusesAny 234 = .ok (.iload_n 2, 1) := by decide +kernel
theorem dL_refusesAny_235 : decode cL_refusesAny 235 = .ok (.bipush 9, 2) := by decide +kernel
theorem dL_refusesAny_237 : decode cL_refusesAny 237 = .ok (.invokevirtual 56, 3) := by decide +kernel
theorem dL_refusesAny_240 : decode cL_refusesAny 240 = .ok (.iconst (-1), 1) := by decide +kernel
theorem dL_refusesAny_241 : decode cL_refusesAny 241 = .ok (.if_icmp .ne 78, 3) := by decide +kernel
theorem dL_refusesAny_244 : decode cL_refusesAny 244 = .ok (.aload_n 0, 1) := by decide +kernel
theorem dL_refusesAny_245 : decode cL_refusesAny 245 = .ok (.iload_n 3, 1) := by decide +kernel
theorem dL_refusesAny_246 : decode cL_refusesAny 246 = .ok (.bipush 9, 2) := by decide +kernel
theorem dL_refusesAny_248 : decode cL_refusesAny 248 = .ok (.invokevirtual 23, 3) := by decide +kernel
theorem dL_refusesAny_251 : decode cL_refusesAny 251 = .ok (.iconst (-1), 1) := by decide +kernel
theorem dL_refusesAny_252 : decode cL_refusesAny 252 = .ok (.if_icmp .ne 67, 3) := by decide +kernel
theorem dL_refusesAny_255 : decode cL_refusesAny 255 = .ok (.aload_n 0, 1) := by decide +kernel
