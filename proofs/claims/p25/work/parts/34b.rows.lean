theorem dL_refusesAny_256 : decode cL_refusesAny 256 = .ok (.iconst 0, 1) := by decide +kernel
theorem dL_refusesAny_257 : decode cL_refusesAny 257 = .ok (.iload_n 1, 1) := by decide +kernel
theorem dL_refusesAny_258 : decode cL_refusesAny 258 = .ok (.ifCond .ne 7, 3) := by decide +kernel
theorem dL_refusesAny_261 : decode cL_refusesAny 261 = .ok (.iconst (-1), 1) := by decide +kernel
theorem dL_refusesAny_262 : decode cL_refusesAny 262 = .ok (.goto 4, 3) := by decide +kernel
theorem dL_refusesAny_265 : decode cL_refusesAny 265 = .ok (.iconst 2, 1) := by decide +kernel
theorem dL_refusesAny_266 : decode cL_refusesAny 266 = .ok (.invokevirtual 23, 3) := by decide +kernel
theorem dL_refusesAny_269 : decode cL_refusesAny 269 = .ok (.bipush (-2), 2) := by decide +kernel
theorem dL_refusesAny_271 : decode cL_refusesAny 271 = .ok (.if_icmp .ne 48, 3) := by decide +kernel
theorem dL_refusesAny_274 : decode cL_refusesAny 274 = .ok (.aload_n 0, 1) := by decide +kernel
theorem dL_refusesAny_275 : decode cL_refusesAny 275 = .ok (.iload_n 2, 1) := by decide +kernel
theorem dL_refusesAny_276 : decode cL_refusesAny 276 = .ok (.bipush 9, 2) := by decide +kernel
theorem dL_refusesAny_278 : decode cL_refusesAny 278 = .ok (.invokevirtual 59, 3) := by decide +kernel
theorem dL_refusesAny_281 : decode cL_refusesAny 281 = .ok (.iconst (-1), 1) := by decide +kernel
theorem dL_refusesAny_282 : decode cL_refusesAny 282 = .ok (.if_icmp .ne 37, 3) := by decide +kernel
theorem dL_refusesAny_285 : decode cL_refusesAny 285 = .ok (.aload_n 0, 1) := by decide +kernel
theorem dL_refusesAny_286 : decode cL_refusesAny 286 = .ok (.iload 4, 2) := by decide +kernel
theorem dL_refusesAny_288 : decode cL_refusesAny 288 = .ok (.invokevirtual 26, 3) := by decide +kernel
theorem dL_refusesAny_291 : decode cL_refusesAny 291 = .ok (.bipush (-2), 2) := by decide +kernel
theorem dL_refusesAny_293 : decode cL_refusesAny 293 = .ok (.if_icmp .ne 26, 3) := by decide +kernel
theorem dL_refusesAny_296 : decode cL_refusesAny 296 = .ok (.aload_n 0, 1) := by decide +kernel
theorem dL_refusesAny_297 : decode cL_refusesAny 297 = .ok (.iload_n 1, 1) := by decide +kernel
theorem dL_refusesAny_298 : decode cL_refusesAny 298 = .ok (.ifCond .ne 7, 3) := by decide +kernel
theorem dL_refusesAny_301 : decode cL_refusesAny 301 = .ok (.iconst (-1), 1) := by decide +kernel
theorem dL_refusesAny_302 : decode cL_refusesAny 302 = .ok (.goto 5, 3) := by decide +kernel
theorem dL_refusesAny_305 : decode cL_refusesAny 305 = .ok (.bipush 14, 2) := by decide +kernel
theorem dL_refusesAny_307 : decode cL_refusesAny 307 = .ok (.invokevirtual 13, 3) := by decide +kernel
theorem dL_refusesAny_310 : decode cL_refusesAny 310 = .ok (.bipush (-2), 2) := by decide +kernel
theorem dL_refusesAny_312 : decode cL_refusesAny 312 = .ok (.if_icmp .ne 7, 3) := by decide +kernel
theorem dL_refusesAny_315 : decode cL_refusesAny 315 = .ok (.iconst 1, 1) := by decide +kernel
theorem dL_refusesAny_316 : decode cL_refusesAny 316 = .ok (.goto 4, 3) := by decide +kernel
theorem dL_refusesAny_319 : decode cL_refusesAny 319 = .ok (.iconst 0, 1) := by decide +kernel
theorem dL_refusesAny_320 : decode cL_refusesAny 320 = .ok (.ireturn, 1) := by decide +kernel
set_option maxRecDepth 20000 in
theorem ggL_refusesFor_X3_bend : GoodIn wsL_refusesFor wsX3_bend := goodIn_r _ [5, 6, 7, 8, 9, 10, 11, 12, 13, 14, 4, 15, 16, 17, 18, 19, 20, 21, 22, 23, 24, 25, 26, 27, 28, 29, 30, 31, 32, 33, 34, 35, 36, 37, 38, 39, 40, 41, 42, 43, 44, 45, 46, 47, 48, 49, 50, 51, 52, 53, 54, 55, 56, 57, 58, 59, 60, 61, 62, 63, 163, 164, 165, 166, 167, 168, 169, 170, 171, 172, 173, 174, 175, 176, 177, 178, 179, 180, 181, 182] (by decide +kernel) (by decide +kernel)
set_option maxRecDepth 20000 in
theorem gL_refusesFor_X3_bend : GoodIn wsL_refusesFor (wsV RL 38 RX3 yX3_bend wsX3_bend) := goodIn_app (goodIn_of _ (by decide +kernel)) ggL_refusesFor_X3_bend
set_option maxRecDepth 20000 in
theorem ggL_refusesFor_X3_pull : GoodIn wsL_refusesFor wsX3_pull := goodIn_r _ [67, 6, 7, 8, 9, 10, 11, 12, 13, 14, 4, 15, 19, 20, 21, 27, 28, 29, 30, 31, 32, 33, 34, 35, 36, 37, 38, 39, 40, 41, 42, 43, 44, 45, 46, 47, 48, 49, 50, 26, 51, 52, 53, 54, 55, 56, 57, 58, 59, 68, 69, 70, 71, 72, 73, 74, 75, 76, 77, 78, 79, 80, 81, 82, 83, 84, 163, 164, 165, 166, 167, 168, 169, 170, 171, 172, 173, 174, 175, 176, 177, 178, 179, 180, 181, 182] (by decide +kernel) (by decide +kernel)
set_option maxRecDepth 20000 in
theorem gL_refusesFor_X3_pull : GoodIn wsL_refusesFor (wsV RL 47 RX3 yX3_pull wsX3_pull) := goodIn_app (goodIn_of _ (by decide +kernel)) ggL_refusesFor_X3_pull
set_option maxRecDepth 20000 in
theorem ggL_refusesFor_X3_wire : GoodIn wsL_refusesFor wsX3_wire := goodIn_r _ [88, 6, 8, 9, 10, 11, 12, 13, 14, 4, 15, 89, 90, 91, 92, 22, 23, 24, 25, 26, 81, 82, 83, 84, 51, 93, 94, 95, 96, 97, 98, 99, 100, 76, 101, 102, 103, 104, 46, 105, 106, 107, 108, 109, 110, 111, 112, 54, 113, 114, 115, 116, 117, 118, 74, 119, 120, 121, 122, 123, 124, 125, 126, 127, 128, 129, 130, 131, 132, 133, 134, 135, 136, 137, 138, 139, 140, 52, 163, 164, 165, 166, 167, 168, 169, 170, 171, 172, 173, 174, 175, 176, 177, 178, 179, 180] (by decide +kernel) (by decide +kernel)
set_option maxRecDepth 20000 in
theorem gL_refusesFor_X3_wire : GoodIn wsL_refusesFor (wsV RL 19 RX3 yX3_wire wsX3_wire) := goodIn_app (goodIn_of _ (by decide +kernel)) ggL_refusesFor_X3_wire
set_option maxRecDepth 20000 in
theorem ggL_refusesFor_X3_heightAt : GoodIn wsL_refusesFor wsX3_heightAt := goodIn_r _ [144, 6, 8, 9, 10, 11, 12, 13, 14, 4, 15, 19, 20, 21, 22, 23, 24, 25, 26, 145, 126, 127, 128, 163, 164, 165, 166, 167, 168, 169, 170, 171, 172, 173, 174, 175, 176, 177, 178, 179, 180] (by decide +kernel) (by decide +kernel)
set_option maxRecDepth 20000 in
theorem gL_refusesFor_X3_heightAt : GoodIn wsL_refusesFor (wsV RL 53 RX3 yX3_heightAt wsX3_heightAt) := goodIn_app (goodIn_of _ (by decide +kernel)) ggL_refusesFor_X3_heightAt
set_option maxRecDepth 20000 in
theorem ggL_refusesFor_X3_crossing : GoodIn wsL_refusesFor wsX3_crossing := goodIn_r _ [149, 6, 8, 9, 10, 11, 12, 13, 14, 4, 15, 19, 20, 21, 150, 98, 99, 100, 76, 101, 102, 103, 104, 46, 151, 121, 122, 123, 117, 118, 74, 119, 124, 125, 22, 23, 24, 25, 26, 152, 114, 115, 116, 120, 126, 127, 128, 129, 153, 110, 111, 112, 54, 97, 113, 163, 164, 165, 166, 167, 168, 169, 170, 171, 172, 173, 174, 175, 176, 177, 178, 179, 180] (by decide +kernel) (by decide +kernel)
set_option maxRecDepth 20000 in
theorem gL_refusesFor_X3_crossing : GoodIn wsL_refusesFor (wsV RL 56 RX3 yX3_crossing wsX3_crossing) := goodIn_app (goodIn_of _ (by decide +kernel)) ggL_refusesFor_X3_crossing
set_option maxRecDepth 20000 in
theorem ggL_refusesFor_X3_bestHeight : GoodIn wsL_refusesFor wsX3_bestHeight := goodIn_r _ [157, 6, 8, 9, 10, 11, 12, 13, 14, 4, 15, 19, 20, 21, 158, 159, 160, 161, 162, 106, 107, 108, 109, 110, 111, 112, 54, 97, 98, 99, 100, 76, 101, 102, 103, 104, 46, 113, 114, 115, 116, 117, 118, 74, 119, 120, 121, 122, 123, 124, 125, 126, 127, 128, 129, 23, 24, 25, 26, 105, 163, 164, 165, 166, 167, 168, 169, 170, 171, 172, 173, 174, 175, 176, 177, 178, 179, 180] (by decide +kernel) (by decide +kernel)
set_option maxRecDepth 20000 in
theorem gL_refusesFor_X3_bestHeight : GoodIn wsL_refusesFor (wsV RL 59 RX3 yX3_bestHeight wsX3_bestHeight) := goodIn_app (goodIn_of _ (by decide +kernel)) ggL_refusesFor_X3_bestHeight
theorem dL_refusesFor_0 : decode cL_refusesFor 0 = .ok (.aload_n 0, 1) := by decide +kernel
theorem dL_refusesFor_1 : decode cL_refusesFor 1 = .ok (.iload_n 1, 1) := by decide +kernel
theorem dL_refusesFor_2 : decode cL_refusesFor 2 = .ok (.iload_n 2, 1) := by decide +kernel
theorem dL_refusesFor_3 : decode cL_refusesFor 3 = .ok (.ifCond .ne 8, 3) := by decide +kernel
theorem dL_refusesFor_6 : decode cL_refusesFor 6 = .ok (.bipush 9, 2) := by decide +kernel
theorem dL_refusesFor_8 : decode cL_refusesFor 8 = .ok (.goto 6, 3) := by decide +kernel
theorem dL_refusesFor_11 : decode cL_refusesFor 11 = .ok (.sipush 201, 3) := by decide +kernel
theorem dL_refusesFor_14 : decode cL_refusesFor 14 = .ok (.invokevirtual 38, 3) := by decide +kernel
theorem dL_refusesFor_17 : decode cL_refusesFor 17 = .ok (.bipush (-2), 2) := by decide +kernel
theorem dL_refusesFor_19 : decode cL_refusesFor 19 = .ok (.if_icmp .ne 119, 3) := by decide +kernel
theorem dL_refusesFor_22 : decode cL_refusesFor 22 = .ok (.aload_n 0, 1) := by decide +kernel
theorem dL_refusesFor_23 : decode cL_refusesFor 23 = .ok (.iload_n 1, 1) := by decide +kernel
theorem dL_refusesFor_24 : decode cL_refusesFor 24 = .ok (.iload_n 2, 1) := by decide +kernel
theorem dL_refusesFor_25 : decode cL_refusesFor 25 = .ok (.ifCond .ne 7, 3) := by decide +kernel
theorem dL_refusesFor_28 : decode cL_refusesFor 28 = .ok (.iconst 0, 1) := by decide +kernel
theorem dL_refusesFor_29 : decode cL_refusesFor 29 = .ok (.goto 5, 3) := by decide +kernel
theorem dL_refusesFor_32 : decode cL_refusesFor 32 = .ok (.bipush 101, 2) := by decide +kernel
theorem dL_refusesFor_34 : decode cL_refusesFor 34 = .ok (.invokevirtual 47, 3) := by decide +kernel
theorem dL_refusesFor_37 : decode cL_refusesFor 37 = .ok (.bipush (-2), 2) := by decide +kernel
theorem dL_refusesFor_39 : decode cL_refusesFor 39 = .ok (.if_icmp .ne 99, 3) := by decide +kernel
theorem dL_refusesFor_42 : decode cL_refusesFor 42 = .ok (.aload_n 0, 1) := by decide +kernel
theorem dL_refusesFor_43 : decode cL_refusesFor 43 = .ok (.iload_n 1, 1) := by decide +kernel
theorem dL_refusesFor_44 : decode cL_refusesFor 44 = .ok (.iload_n 2, 1) := by decide +kernel
theorem dL_refusesFor_45 : decode cL_refusesFor 45 = .ok (.ifCond .ne 7, 3) := by decide +kernel
theorem dL_refusesFor_48 : decode cL_refusesFor 48 = .ok (.iconst (-1), 1) := by decide +kernel
theorem dL_refusesFor_49 : decode cL_refusesFor 49 = .ok (.goto 5, 3) := by decide +kernel
theorem dL_refusesFor_52 : decode cL_refusesFor 52 = .ok (.bipush 7, 2) := by decide +kernel
theorem dL_refusesFor_54 : decode cL_refusesFor 54 = .ok (.invokevirtual 19, 3) := by decide +kernel
theorem dL_refusesFor_57 : decode cL_refusesFor 57 = .ok (.bipush (-2), 2) := by decide +kernel
theorem dL_refusesFor_59 : decode cL_refusesFor 59 = .ok (.if_icmp .ne 79, 3) := by decide +kernel
theorem dL_refusesFor_62 : decode cL_refusesFor 62 = .ok (.aload_n 0, 1) := by decide +kernel
theorem dL_refusesFor_63 : decode cL_refusesFor 63 = .ok (.iload_n 1, 1) := by decide +kernel
theorem dL_refusesFor_64 : decode cL_refusesFor 64 = .ok (.iload_n 2, 1) := by decide +kernel
theorem dL_refusesFor_65 : decode cL_refusesFor 65 = .ok (.ifCond .ne 7, 3) := by decide +kernel
theorem dL_refusesFor_68 : decode cL_refusesFor 68 = .ok (.iconst (-1), 1) := by decide +kernel
theorem dL_refusesFor_69 : decode cL_refusesFor 69 = .ok (.goto 6, 3) := by decide +kernel
theorem dL_refusesFor_72 : decode cL_refusesFor 72 = .ok (.sipush 201, 3) := by decide +kernel
theorem dL_refusesFor_75 : decode cL_refusesFor 75 = .ok (.invokevirtual 53, 3) := by decide +kernel
theorem dL_refusesFor_78 : decode cL_refusesFor 78 = .ok (.bipush (-2), 2) := by decide +kernel
theorem dL_refusesFor_80 : decode cL_refusesFor 80 = .ok (.if_icmp .ne 58, 3) := by decide +kernel
theorem dL_refusesFor_83 : decode cL_refusesFor 83 = .ok (.aload_n 0, 1) := by decide +kernel
theorem dL_refusesFor_84 : decode cL_refusesFor 84 = .ok (.iload_n 1, 1) := by decide +kernel
theorem dL_refusesFor_85 : decode cL_refusesFor 85 = .ok (.iload_n 1, 1) := by decide +kernel
theorem dL_refusesFor_86 : decode cL_refusesFor 86 = .ok (.iload_n 2, 1) := by decide +kernel
theorem dL_refusesFor_87 : decode cL_refusesFor 87 = .ok (.ifCond .ne 7, 3) := by decide +kernel
theorem dL_refusesFor_90 : decode cL_refusesFor 90 = .ok (.iconst (-1), 1) := by decide +kernel
theorem dL_refusesFor_91 : decode cL_refusesFor 91 = .ok (.goto 4, 3) := by decide +kernel
theorem dL_refusesFor_94 : decode cL_refusesFor 94 = .ok (.iconst 3, 1) := by decide +kernel
theorem dL_refusesFor_95 : decode cL_refusesFor 95 = .ok (.invokevirtual 56, 3) := by decide +kernel
theorem dL_refusesFor_98 : decode cL_refusesFor 98 = .ok (.bipush (-2), 2) := by decide +kernel
theorem dL_refusesFor_100 : decode cL_refusesFor 100 = .ok (.if_icmp .ne 38, 3) := by decide +kernel
theorem dL_refusesFor_103 : decode cL_refusesFor 103 = .ok (.aload_n 0, 1) := by decide +kernel
theorem dL_refusesFor_104 : decode cL_refusesFor 104 = .ok (.iload_n 1, 1) := by decide +kernel
theorem dL_refusesFor_105 : decode cL_refusesFor 105 = .ok (.iload_n 1, 1) := by decide +kernel
theorem dL_refusesFor_106 : decode cL_refusesFor 106 = .ok (.iconst 0, 1) := by decide +kernel
theorem dL_refusesFor_107 : decode cL_refusesFor 107 = .ok (.invokevirtual 56, 3) := by decide +kernel
theorem dL_refusesFor_110 : decode cL_refusesFor 110 = .ok (.bipush (-5), 2) := by decide +kernel
theorem dL_refusesFor_112 : decode cL_refusesFor 112 = .ok (.if_icmp .ne 26, 3) := by decide +kernel
theorem dL_refusesFor_115 : decode cL_refusesFor 115 = .ok (.aload_n 0, 1) := by decide +kernel
theorem dL_refusesFor_116 : decode cL_refusesFor 116 = .ok (.iload_n 1, 1) := by decide +kernel
theorem dL_refusesFor_117 : decode cL_refusesFor 117 = .ok (.iload_n 2, 1) := by decide +kernel
theorem dL_refusesFor_118 : decode cL_refusesFor 118 = .ok (.ifCond .ne 7, 3) := by decide +kernel
theorem dL_refusesFor_121 : decode cL_refusesFor 121 = .ok (.iconst (-1), 1) := by decide +kernel
theorem dL_refusesFor_122 : decode cL_refusesFor 122 = .ok (.goto 4, 3) := by decide +kernel
theorem dL_refusesFor_125 : decode cL_refusesFor 125 = .ok (.iconst 2, 1) := by decide +kernel
theorem dL_refusesFor_126 : decode cL_refusesFor 126 = .ok (.invokevirtual 59, 3) := by decide +kernel
theorem dL_refusesFor_129 : decode cL_refusesFor 129 = .ok (.bipush (-2), 2) := by decide +kernel
theorem dL_refusesFor_131 : decode cL_refusesFor 131 = .ok (.if_icmp .ne 7, 3) := by decide +kernel
theorem dL_refusesFor_134 : decode cL_refusesFor 134 = .ok (.iconst 1, 1) := by decide +kernel
theorem dL_refusesFor_135 : decode cL_refusesFor 135 = .ok (.goto 4, 3) := by decide +kernel
theorem dL_refusesFor_138 : decode cL_refusesFor 138 = .ok (.iconst 0, 1) := by decide +kernel
theorem dL_refusesFor_139 : decode cL_refusesFor 139 = .ok (.ireturn, 1) := by decide +kernel
set_option maxRecDepth 20000 in
set_option maxRecDepth 20000 in
theorem ggL_refused_L_seen_c : GoodIn wsL_refused [.code yL_seen cL_seen 4 (some .long)] := goodIn_r _ [4] (by first | exact Eq.refl _ | decide +kernel) (by decide +kernel)
set_option maxRecDepth 20000 in
theorem ggL_refused_L_seen_r1 : GoodIn wsL_refused wsL_seen_r1 := goodIn_r _ [5, 6, 7, 8, 9, 10, 11, 12, 13, 14, 15, 16, 17, 18, 19, 20, 21, 22, 23, 24, 25, 26, 27, 28] (by first | exact Eq.refl _ | decide +kernel) (by decide +kernel)
set_option maxRecDepth 20000 in
theorem ggL_refused_L_seen_r2 : GoodIn wsL_refused wsL_seen_r2 := goodIn_r _ [29, 30, 31, 32, 33, 34, 35, 36, 37, 38, 39, 40, 41, 42, 43, 44, 45, 46, 47, 48, 49, 50, 51, 52] (by first | exact Eq.refl _ | decide +kernel) (by decide +kernel)
set_option maxRecDepth 20000 in
theorem ggL_refused_L_seen_r3 : GoodIn wsL_refused wsL_seen_r3 := goodIn_r _ [53, 54, 55, 56, 57, 58, 59, 60, 61, 62, 63, 64, 65, 66, 67, 68, 69, 70, 71, 72, 73, 74, 75, 76] (by first | exact Eq.refl _ | decide +kernel) (by decide +kernel)
set_option maxRecDepth 20000 in
theorem ggL_refused_L_seen_r4 : GoodIn wsL_refused wsL_seen_r4 := goodIn_r _ [77, 78, 79, 80, 81, 82, 83, 84, 85, 86, 87, 88, 89, 90, 91, 92, 93, 94, 95, 96, 97, 98, 99, 100] (by first | exact Eq.refl _ | decide +kernel) (by decide +kernel)
set_option maxRecDepth 20000 in
theorem ggL_refused_L_seen_r5 : GoodIn wsL_refused wsL_seen_r5 := goodIn_r _ [101, 102, 103, 104, 105, 106, 107, 108, 109, 110, 111, 112, 113, 114, 115, 116, 117, 118, 119, 120, 121, 122, 123, 124] (by first | exact Eq.refl _ | decide +kernel) (by decide +kernel)
set_option maxRecDepth 20000 in
theorem ggL_refused_L_seen_r6 : GoodIn wsL_refused wsL_seen_r6 := goodIn_r _ [125, 126, 127, 128, 129, 130, 131, 132, 133, 134, 135, 136, 137, 138, 139, 140, 141, 142, 143, 144, 145, 146, 147, 148] (by first | exact Eq.refl _ | decide +kernel) (by decide +kernel)
set_option maxRecDepth 20000 in
theorem ggL_refused_L_seen_r7 : GoodIn wsL_refused wsL_seen_r7 := goodIn_r _ [149, 150, 151, 152, 153, 154, 155, 156, 157, 158, 159, 160, 161, 162, 163, 164] (by first | exact Eq.refl _ | decide +kernel) (by decide +kernel)
set_option maxRecDepth 20000 in
theorem ggL_refused_L_seen_wsX30 : GoodIn wsL_refused wsX30 := goodIn_r _ [285, 286, 287, 288, 289, 290] (by first | exact Eq.refl _ | decide +kernel) (by decide +kernel)
set_option maxRecDepth 20000 in
theorem ggL_refused_L_seen_wsX00 : GoodIn wsL_refused wsX00 := goodIn_r _ [291, 292, 293, 294, 295, 296, 297, 298, 299, 300, 301, 302] (by first | exact Eq.refl _ | decide +kernel) (by decide +kernel)
set_option maxRecDepth 20000 in
theorem ggL_refused_L_seen_wsX10 : GoodIn wsL_refused wsX10 := goodIn_r _ [303, 304] (by first | exact Eq.refl _ | decide +kernel) (by decide +kernel)
set_option maxRecDepth 20000 in
theorem ggL_refused_L_seen_wsX20 : GoodIn wsL_refused wsX20 := goodIn_r _ [305, 306, 307, 308, 309, 310, 311] (by first | exact Eq.refl _ | decide +kernel) (by decide +kernel)
theorem ggL_refused_L_seen : GoodIn wsL_refused wsL_seen := goodIn_app (b := ((wsL_seen_r1 ++ (wsL_seen_r2 ++ (wsL_seen_r3 ++ (wsL_seen_r4 ++ (wsL_seen_r5 ++ (wsL_seen_r6 ++ wsL_seen_r7)))))) ++ wsX30 ++ wsX00 ++ wsX10 ++ wsX20)) ggL_refused_L_seen_c (goodIn_app (goodIn_app (goodIn_app (goodIn_app (goodIn_app ggL_refused_L_seen_r1 (goodIn_app ggL_refused_L_seen_r2 (goodIn_app ggL_refused_L_seen_r3 (goodIn_app ggL_refused_L_seen_r4 (goodIn_app ggL_refused_L_seen_r5 (goodIn_app ggL_refused_L_seen_r6 (ggL_refused_L_seen_r7))))))) ggL_refused_L_seen_wsX30) ggL_refused_L_seen_wsX00) ggL_refused_L_seen_wsX10) ggL_refused_L_seen_wsX20)
set_option maxRecDepth 20000 in
theorem gL_refused_L_seen : GoodIn wsL_refused (va_wsS RL 62 yL_seen wsL_seen) := goodIn_app (goodIn_of _ (by decide +kernel)) ggL_refused_L_seen
set_option maxRecDepth 20000 in
set_option maxRecDepth 20000 in
theorem ggL_refused_X3_count_c : GoodIn wsL_refused [.code yX3_count cX3_count 2 (some .int)] := goodIn_r _ [11] (by first | exact Eq.refl _ | decide +kernel) (by decide +kernel)
set_option maxRecDepth 20000 in
theorem ggL_refused_X3_count_r1 : GoodIn wsL_refused wsX3_count_r1 := goodIn_r _ [12, 13, 14, 15, 16, 17, 18, 19, 20, 21, 22, 23, 24, 25, 10, 26, 27, 28, 29, 30, 31, 32, 33, 34] (by first | exact Eq.refl _ | decide +kernel) (by decide +kernel)
set_option maxRecDepth 20000 in
theorem ggL_refused_X3_count_r2 : GoodIn wsL_refused wsX3_count_r2 := goodIn_r _ [35, 36, 37, 38, 39, 40, 41, 42, 43, 44, 45, 46, 47, 48, 49, 50, 51, 52, 53, 54, 55, 56, 57, 58] (by first | exact Eq.refl _ | decide +kernel) (by decide +kernel)
set_option maxRecDepth 20000 in
theorem ggL_refused_X3_count_r3 : GoodIn wsL_refused wsX3_count_r3 := goodIn_r _ [59, 60, 61, 62, 63, 64, 65, 66, 67, 68, 69, 70, 71, 72, 73, 74, 75, 76, 77, 78, 79, 80, 81, 82] (by first | exact Eq.refl _ | decide +kernel) (by decide +kernel)
set_option maxRecDepth 20000 in
theorem ggL_refused_X3_count_r4 : GoodIn wsL_refused wsX3_count_r4 := goodIn_r _ [83, 84, 85, 86, 87, 88, 89, 90, 91, 92, 93, 94, 95] (by first | exact Eq.refl _ | decide +kernel) (by decide +kernel)
set_option maxRecDepth 20000 in
theorem ggL_refused_X3_count_wsX30 : GoodIn wsL_refused wsX30 := goodIn_r _ [285, 286, 287, 288, 289, 290] (by first | exact Eq.refl _ | decide +kernel) (by decide +kernel)
set_option maxRecDepth 20000 in
theorem ggL_refused_X3_count_wsX00 : GoodIn wsL_refused wsX00 := goodIn_r _ [291, 292, 293, 294, 295, 296, 297, 298, 299, 300, 301, 302] (by first | exact Eq.refl _ | decide +kernel) (by decide +kernel)
set_option maxRecDepth 20000 in
theorem ggL_refused_X3_count_wsX10 : GoodIn wsL_refused wsX10 := goodIn_r _ [303, 304] (by first | exact Eq.refl _ | decide +kernel) (by decide +kernel)
set_option maxRecDepth 20000 in
theorem ggL_refused_X3_count_wsX20 : GoodIn wsL_refused wsX20 := goodIn_r _ [305, 306, 307, 308, 309, 310, 311] (by first | exact Eq.refl _ | decide +kernel) (by decide +kernel)
theorem ggL_refused_X3_count : GoodIn wsL_refused wsX3_count := goodIn_app (b := ((wsX3_count_r1 ++ (wsX3_count_r2 ++ (wsX3_count_r3 ++ wsX3_count_r4))) ++ wsX30 ++ wsX00 ++ wsX10 ++ wsX20)) ggL_refused_X3_count_c (goodIn_app (goodIn_app (goodIn_app (goodIn_app (goodIn_app ggL_refused_X3_count_r1 (goodIn_app ggL_refused_X3_count_r2 (goodIn_app ggL_refused_X3_count_r3 (ggL_refused_X3_count_r4)))) ggL_refused_X3_count_wsX30) ggL_refused_X3_count_wsX00) ggL_refused_X3_count_wsX10) ggL_refused_X3_count_wsX20)
set_option maxRecDepth 20000 in
theorem gL_refused_X3_count : GoodIn wsL_refused (wsV RL 13 RX3 yX3_count wsX3_count) := goodIn_app (goodIn_of _ (by decide +kernel)) ggL_refused_X3_count
set_option maxRecDepth 20000 in
set_option maxRecDepth 20000 in
theorem ggL_refused_L_refusesFor_c : GoodIn wsL_refused [.code yL_refusesFor cL_refusesFor 3 (some .boolean)] := goodIn_r _ [167] (by first | exact Eq.refl _ | decide +kernel) (by decide +kernel)
set_option maxRecDepth 20000 in
theorem ggL_refused_L_refusesFor_r1 : GoodIn wsL_refused wsL_refusesFor_r1 := goodIn_r _ [168, 169, 170, 10, 171, 12, 13, 100, 21, 22, 18, 23, 24, 25, 26, 146, 147, 148, 149, 150, 151, 105, 45, 46] (by first | exact Eq.refl _ | decide +kernel) (by decide +kernel)
set_option maxRecDepth 20000 in
theorem ggL_refused_L_refusesFor_r2 : GoodIn wsL_refused wsL_refusesFor_r2 := goodIn_r _ [47, 48, 172, 173, 174, 87, 175, 89, 176, 177, 178, 179, 180, 181, 182, 183, 184, 185, 186, 187, 188, 39, 189, 190] (by first | exact Eq.refl _ | decide +kernel) (by decide +kernel)
set_option maxRecDepth 20000 in
theorem ggL_refused_L_refusesFor_r3 : GoodIn wsL_refused wsL_refusesFor_r3 := goodIn_r _ [191, 192, 75, 126, 158, 53, 156, 193, 157, 194, 195, 196, 197, 198, 199, 200, 201, 202, 203, 204, 205, 206, 207, 208] (by first | exact Eq.refl _ | decide +kernel) (by decide +kernel)
set_option maxRecDepth 20000 in
theorem ggL_refused_L_refusesFor_r4 : GoodIn wsL_refused wsL_refusesFor_r4 := goodIn_r _ [209, 60, 210, 20, 211, 212, 213, 214, 106, 77, 78, 79, 96, 97, 98, 99, 101, 102, 103, 104, 107, 108, 109, 110] (by first | exact Eq.refl _ | decide +kernel) (by decide +kernel)
set_option maxRecDepth 20000 in
theorem ggL_refused_L_refusesFor_r5 : GoodIn wsL_refused wsL_refusesFor_r5 := goodIn_r _ [31, 32, 33, 34, 35, 36, 37, 38, 111, 112, 113, 114, 49, 50, 51, 52, 54, 55, 56, 57, 58, 59, 61, 62] (by first | exact Eq.refl _ | decide +kernel) (by decide +kernel)
set_option maxRecDepth 20000 in
theorem ggL_refused_L_refusesFor_r6 : GoodIn wsL_refused wsL_refusesFor_r6 := goodIn_r _ [63, 64, 65, 66, 67, 68, 69, 70, 44, 115, 116, 117, 118, 119, 120, 121, 122, 123, 124, 125, 215, 216, 217, 218] (by first | exact Eq.refl _ | decide +kernel) (by decide +kernel)
set_option maxRecDepth 20000 in
theorem ggL_refused_L_refusesFor_r7 : GoodIn wsL_refused wsL_refusesFor_r7 := goodIn_r _ [219, 220, 221, 222, 223, 224, 225, 226, 227, 228, 229, 230, 231, 232, 233, 234, 235, 236] (by first | exact Eq.refl _ | decide +kernel) (by decide +kernel)
set_option maxRecDepth 20000 in
theorem ggL_refused_L_refusesFor_wsX30 : GoodIn wsL_refused wsX30 := goodIn_r _ [285, 286, 287, 288, 289, 290] (by first | exact Eq.refl _ | decide +kernel) (by decide +kernel)
set_option maxRecDepth 20000 in
theorem ggL_refused_L_refusesFor_wsX00 : GoodIn wsL_refused wsX00 := goodIn_r _ [291, 292, 293, 294, 295, 296, 297, 298, 299, 300, 301, 302] (by first | exact Eq.refl _ | decide +kernel) (by decide +kernel)
set_option maxRecDepth 20000 in
theorem ggL_refused_L_refusesFor_wsX10 : GoodIn wsL_refused wsX10 := goodIn_r _ [303, 304] (by first | exact Eq.refl _ | decide +kernel) (by decide +kernel)
theorem ggL_refused_L_refusesFor : GoodIn wsL_refused wsL_refusesFor := goodIn_app (b := ((wsL_refusesFor_r1 ++ (wsL_refusesFor_r2 ++ (wsL_refusesFor_r3 ++ (wsL_refusesFor_r4 ++ (wsL_refusesFor_r5 ++ (wsL_refusesFor_r6 ++ wsL_refusesFor_r7)))))) ++ wsX30 ++ wsX00 ++ wsX10)) ggL_refused_L_refusesFor_c (goodIn_app (goodIn_app (goodIn_app (goodIn_app ggL_refused_L_refusesFor_r1 (goodIn_app ggL_refused_L_refusesFor_r2 (goodIn_app ggL_refused_L_refusesFor_r3 (goodIn_app ggL_refused_L_refusesFor_r4 (goodIn_app ggL_refused_L_refusesFor_r5 (goodIn_app ggL_refused_L_refusesFor_r6 (ggL_refused_L_refusesFor_r7))))))) ggL_refused_L_refusesFor_wsX30) ggL_refused_L_refusesFor_wsX00) ggL_refused_L_refusesFor_wsX10)
set_option maxRecDepth 20000 in
theorem gL_refused_L_refusesFor : GoodIn wsL_refused (va_wsS RL 66 yL_refusesFor wsL_refusesFor) := goodIn_app (goodIn_of _ (by decide +kernel)) ggL_refused_L_refusesFor
set_option maxRecDepth 20000 in
set_option maxRecDepth 20000 in
theorem ggL_refused_L_refusesAny_c : GoodIn wsL_refused [.code yL_refusesAny cL_refusesAny 5 (some .boolean)] := goodIn_r _ [239] (by first | exact Eq.refl _ | decide +kernel) (by decide +kernel)
set_option maxRecDepth 20000 in
theorem ggL_refused_L_refusesAny_r1 : GoodIn wsL_refused wsL_refusesAny_r1 := goodIn_r _ [240, 241, 242, 10, 243, 12, 13, 244, 25, 26, 131, 132, 133, 146, 147, 148, 149, 150, 151, 245, 246, 247, 18, 248] (by first | exact Eq.refl _ | decide +kernel) (by decide +kernel)
set_option maxRecDepth 20000 in
theorem ggL_refused_L_refusesAny_r2 : GoodIn wsL_refused wsL_refusesAny_r2 := goodIn_r _ [157, 156, 20, 21, 22, 23, 24, 249, 139, 140, 141, 172, 173, 174, 87, 175, 89, 176, 177, 178, 179, 180, 181, 182] (by first | exact Eq.refl _ | decide +kernel) (by decide +kernel)
set_option maxRecDepth 20000 in
theorem ggL_refused_L_refusesAny_r3 : GoodIn wsL_refused wsL_refusesAny_r3 := goodIn_r _ [183, 184, 185, 186, 187, 188, 39, 189, 190, 191, 192, 48, 75, 126, 158, 53, 193, 194, 195, 250, 251, 252, 253, 254] (by first | exact Eq.refl _ | decide +kernel) (by decide +kernel)
set_option maxRecDepth 20000 in
theorem ggL_refused_L_refusesAny_r4 : GoodIn wsL_refused wsL_refusesAny_r4 := goodIn_r _ [255, 256, 257, 208, 209, 60, 210, 58, 59, 61, 66, 67, 258, 135, 136, 137, 159, 160, 161, 162, 163, 164, 106, 77] (by first | exact Eq.refl _ | decide +kernel) (by decide +kernel)
set_option maxRecDepth 20000 in
theorem ggL_refused_L_refusesAny_r5 : GoodIn wsL_refused wsL_refusesAny_r5 := goodIn_r _ [78, 79, 259, 260, 261, 262, 100, 263, 212, 213, 214, 168, 169, 170, 171, 105, 45, 46, 47, 196, 197, 198, 199, 264] (by first | exact Eq.refl _ | decide +kernel) (by decide +kernel)
set_option maxRecDepth 20000 in
theorem ggL_refused_L_refusesAny_r6 : GoodIn wsL_refused wsL_refusesAny_r6 := goodIn_r _ [265, 266, 267, 138, 134, 268, 269, 270, 271, 272, 273, 274, 275, 200, 201, 202, 203, 204, 205, 206, 207, 211, 276, 277] (by first | exact Eq.refl _ | decide +kernel) (by decide +kernel)
set_option maxRecDepth 20000 in
theorem ggL_refused_L_refusesAny_r7 : GoodIn wsL_refused wsL_refusesAny_r7 := goodIn_r _ [278, 279, 15, 16, 17, 19, 280, 281, 282, 283, 284, 96, 97, 98, 99, 101, 102, 103, 104, 107, 108, 109, 110, 31] (by first | exact Eq.refl _ | decide +kernel) (by decide +kernel)
set_option maxRecDepth 20000 in
theorem ggL_refused_L_refusesAny_r8 : GoodIn wsL_refused wsL_refusesAny_r8 := goodIn_r _ [32, 33, 34, 35, 36, 37, 38, 111, 112, 113, 114, 49, 50, 51, 52, 54, 55, 56, 57, 62, 63, 64, 65, 68] (by first | exact Eq.refl _ | decide +kernel) (by decide +kernel)
set_option maxRecDepth 20000 in
theorem ggL_refused_L_refusesAny_r9 : GoodIn wsL_refused wsL_refusesAny_r9 := goodIn_r _ [69, 70, 44, 115, 116, 117, 118, 119, 120, 121, 122, 123, 124, 125, 215, 216, 217, 218, 219, 220, 221, 222, 223, 224] (by first | exact Eq.refl _ | decide +kernel) (by decide +kernel)
set_option maxRecDepth 20000 in
theorem ggL_refused_L_refusesAny_r10 : GoodIn wsL_refused wsL_refusesAny_r10 := goodIn_r _ [225, 226, 227, 127, 128, 129, 130, 228, 229, 230, 231, 232, 233, 234, 235, 236, 142, 143, 144, 145, 152, 153, 154, 155] (by first | exact Eq.refl _ | decide +kernel) (by decide +kernel)
set_option maxRecDepth 20000 in
theorem ggL_refused_L_refusesAny_r11 : GoodIn wsL_refused wsL_refusesAny_r11 := goodIn_r _ [7, 8, 9, 11, 14, 27, 28, 29, 30, 40, 41, 42, 43, 71, 72, 73, 74, 76, 80, 81, 82, 83, 84, 85] (by first | exact Eq.refl _ | decide +kernel) (by decide +kernel)
set_option maxRecDepth 20000 in
theorem ggL_refused_L_refusesAny_r12 : GoodIn wsL_refused wsL_refusesAny_r12 := goodIn_r _ [86, 88, 90, 91, 92, 93, 94, 95] (by first | exact Eq.refl _ | decide +kernel) (by decide +kernel)
set_option maxRecDepth 20000 in
theorem ggL_refused_L_refusesAny_wsX30 : GoodIn wsL_refused wsX30 := goodIn_r _ [285, 286, 287, 288, 289, 290] (by first | exact Eq.refl _ | decide +kernel) (by decide +kernel)
set_option maxRecDepth 20000 in
theorem ggL_refused_L_refusesAny_wsX00 : GoodIn wsL_refused wsX00 := goodIn_r _ [291, 292, 293, 294, 295, 296, 297, 298, 299, 300, 301, 302] (by first | exact Eq.refl _ | decide +kernel) (by decide +kernel)
set_option maxRecDepth 20000 in
theorem ggL_refused_L_refusesAny_wsX10 : GoodIn wsL_refused wsX10 := goodIn_r _ [303, 304] (by first | exact Eq.refl _ | decide +kernel) (by decide +kernel)
set_option maxRecDepth 20000 in
theorem ggL_refused_L_refusesAny_wsX20 : GoodIn wsL_refused wsX20 := goodIn_r _ [305, 306, 307, 308, 309, 310, 311] (by first | exact Eq.refl _ | decide +kernel) (by decide +kernel)
theorem ggL_refused_L_refusesAny : GoodIn wsL_refused wsL_refusesAny := goodIn_app (b := ((wsL_refusesAny_r1 ++ (wsL_refusesAny_r2 ++ (wsL_refusesAny_r3 ++ (wsL_refusesAny_r4 ++ (wsL_refusesAny_r5 ++ (wsL_refusesAny_r6 ++ (wsL_refusesAny_r7 ++ (wsL_refusesAny_r8 ++ (wsL_refusesAny_r9 ++ (wsL_refusesAny_r10 ++ (wsL_refusesAny_r11 ++ wsL_refusesAny_r12))))))))))) ++ wsX30 ++ wsX00 ++ wsX10 ++ wsX20)) ggL_refused_L_refusesAny_c (goodIn_app (goodIn_app (goodIn_app (goodIn_app (goodIn_app ggL_refused_L_refusesAny_r1 (goodIn_app ggL_refused_L_refusesAny_r2 (goodIn_app ggL_refused_L_refusesAny_r3 (goodIn_app ggL_refused_L_refusesAny_r4 (goodIn_app ggL_refused_L_refusesAny_r5 (goodIn_app ggL_refused_L_refusesAny_r6 (goodIn_app ggL_refused_L_refusesAny_r7 (goodIn_app ggL_refused_L_refusesAny_r8 (goodIn_app ggL_refused_L_refusesAny_r9 (goodIn_app ggL_refused_L_refusesAny_r10 (goodIn_app ggL_refused_L_refusesAny_r11 (ggL_refused_L_refusesAny_r12)))))))))))) ggL_refused_L_refusesAny_wsX30) ggL_refused_L_refusesAny_wsX00) ggL_refused_L_refusesAny_wsX10) ggL_refused_L_refusesAny_wsX20)
set_option maxRecDepth 20000 in
theorem gL_refused_L_refusesAny : GoodIn wsL_refused (va_wsS RL 70 yL_refusesAny wsL_refusesAny) := goodIn_app (goodIn_of _ (by decide +kernel)) ggL_refused_L_refusesAny
theorem dL_refused_0 : decode cL_refused 0 = .ok (.aload_n 0, 1) := by decide +kernel
theorem dL_refused_1 : decode cL_refused 1 = .ok (.invokestatic 62, 3) := by decide +kernel
theorem dL_refused_4 : decode cL_refused 4 = .ok (.lstore_n 1, 1) := by decide +kernel
theorem dL_refused_5 : decode cL_refused 5 = .ok (.aload_n 0, 1) := by decide +kernel
theorem dL_refused_6 : decode cL_refused 6 = .ok (.bipush 12, 2) := by decide +kernel
theorem dL_refused_8 : decode cL_refused 8 = .ok (.invokevirtual 13, 3) := by decide +kernel
theorem dL_refused_11 : decode cL_refused 11 = .ok (.istore_n 3, 1) := by decide +kernel
theorem dL_refused_12 : decode cL_refused 12 = .ok (.aload_n 0, 1) := by decide +kernel
theorem dL_refused_13 : decode cL_refused 13 = .ok (.bipush 9, 2) := by decide +kernel
theorem dL_refused_15 : decode cL_refused 15 = .ok (.invokevirtual 13, 3) := by decide +kernel
theorem dL_refused_18 : decode cL_refused 18 = .ok (.istore 4, 2) := by decide +kernel
theorem dL_refused_20 : decode cL_refused 20 = .ok (.iload 4, 2) := by decide +kernel
theorem dL_refused_22 : decode cL_refused 22 = .ok (.bipush (-5), 2) := by decide +kernel
theorem dL_refused_24 : decode cL_refused 24 = .ok (.if_icmp .eq 23, 3) := by decide +kernel
theorem dL_refused_27 : decode cL_refused 27 = .ok (.aload_n 0, 1) := by decide +kernel
theorem dL_refused_28 : decode cL_refused 28 = .ok (.iload 4, 2) := by decide +kernel
theorem dL_refused_30 : decode cL_refused 30 = .ok (.iconst 0, 1) := by decide +kernel
theorem dL_refused_31 : decode cL_refused 31 = .ok (.invokestatic 66, 3) := by decide +kernel
theorem dL_refused_34 : decode cL_refused 34 = .ok (.ifCond .eq 17, 3) := by decide +kernel
theorem dL_refused_37 : decode cL_refused 37 = .ok (.aload_n 0, 1) := by decide +kernel
theorem dL_refused_38 : decode cL_refused 38 = .ok (.iload 4, 2) := by decide +kernel
theorem dL_refused_40 : decode cL_refused 40 = .ok (.iconst 1, 1) := by decide +kernel
theorem dL_refused_41 : decode cL_refused 41 = .ok (.invokestatic 66, 3) := by decide +kernel
theorem dL_refused_44 : decode cL_refused 44 = .ok (.ifCond .eq 7, 3) := by decide +kernel
theorem dL_refused_47 : decode cL_refused 47 = .ok (.iconst 1, 1) := by decide +kernel
theorem dL_refused_48 : decode cL_refused 48 = .ok (.goto 4, 3) := by decide +kernel
theorem dL_refused_51 : decode cL_refused 51 = .ok (.iconst 0, 1) := by decide +kernel
theorem dL_refused_52 : decode cL_refused 52 = .ok (.istore 5, 2) := by decide +kernel
theorem dL_refused_54 : decode cL_refused 54 = .ok (.iload 5, 2) := by decide +kernel
theorem dL_refused_56 : decode cL_refused 56 = .ok (.ifCond .eq 42, 3) := by decide +kernel
theorem dL_refused_59 : decode cL_refused 59 = .ok (.aload_n 0, 1) := by decide +kernel
theorem dL_refused_60 : decode cL_refused 60 = .ok (.iconst 0, 1) := by decide +kernel
theorem dL_refused_61 : decode cL_refused 61 = .ok (.invokestatic 70, 3) := by decide +kernel
theorem dL_refused_64 : decode cL_refused 64 = .ok (.ifCond .eq 34, 3) := by decide +kernel
theorem dL_refused_67 : decode cL_refused 67 = .ok (.aload_n 0, 1) := by decide +kernel
theorem dL_refused_68 : decode cL_refused 68 = .ok (.iconst 1, 1) := by decide +kernel
theorem dL_refused_69 : decode cL_refused 69 = .ok (.invokestatic 70, 3) := by decide +kernel
theorem dL_refused_72 : decode cL_refused 72 = .ok (.ifCond .eq 26, 3) := by decide +kernel
theorem dL_refused_75 : decode cL_refused 75 = .ok (.aload_n 0, 1) := by decide +kernel
theorem dL_refused_76 : decode cL_refused 76 = .ok (.invokestatic 62, 3) := by decide +kernel
theorem dL_refused_79 : decode cL_refused 79 = .ok (.lload_n 1, 1) := by decide +kernel
theorem dL_refused_80 : decode cL_refused 80 = .ok (.lcmp, 1) := by decide +kernel
theorem dL_refused_81 : decode cL_refused 81 = .ok (.ifCond .ne 17, 3) := by decide +kernel
theorem dL_refused_84 : decode cL_refused 84 = .ok (.aload_n 0, 1) := by decide +kernel
theorem dL_refused_85 : decode cL_refused 85 = .ok (.bipush 12, 2) := by decide +kernel
theorem dL_refused_87 : decode cL_refused 87 = .ok (.invokevirtual 13, 3) := by decide +kernel
theorem dL_refused_90 : decode cL_refused 90 = .ok (.iload_n 3, 1) := by decide +kernel
theorem dL_refused_91 : decode cL_refused 91 = .ok (.if_icmp .ne 7, 3) := by decide +kernel
theorem dL_refused_94 : decode cL_refused 94 = .ok (.iconst 1, 1) := by decide +kernel
theorem dL_refused_95 : decode cL_refused 95 = .ok (.goto 4, 3) := by decide +kernel
theorem dL_refused_98 : decode cL_refused 98 = .ok (.iconst 0, 1) := by decide +kernel
theorem dL_refused_99 : decode cL_refused 99 = .ok (.ireturn, 1) := by decide +kernel
