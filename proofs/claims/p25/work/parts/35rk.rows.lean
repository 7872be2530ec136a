set_option maxRecDepth 20000 in
set_option maxRecDepth 20000 in
theorem ggL_told_X3_count_c : GoodIn wsL_told [.code yX3_count cX3_count 2 (some .int)] := goodIn_r _ [215] (by first | exact Eq.refl _ | decide +kernel) (by decide +kernel)
set_option maxRecDepth 20000 in
theorem ggL_told_X3_count_r1 : GoodIn wsL_told wsX3_count_r1 := goodIn_r _ [13, 20, 24, 208, 209, 210, 12, 211, 152, 153, 154, 155, 31, 156, 3, 157, 216, 217, 218, 219, 220, 221, 222, 223] (by first | exact Eq.refl _ | decide +kernel) (by decide +kernel)
set_option maxRecDepth 20000 in
theorem ggL_told_X3_count_r2 : GoodIn wsL_told wsX3_count_r2 := goodIn_r _ [224, 225, 226, 227, 30, 228, 229, 230, 231, 232, 233, 234, 235, 32, 236, 237, 238, 239, 35, 240, 241, 242, 243, 180] (by first | exact Eq.refl _ | decide +kernel) (by decide +kernel)
set_option maxRecDepth 20000 in
theorem ggL_told_X3_count_r3 : GoodIn wsL_told wsX3_count_r3 := goodIn_r _ [181, 178, 182, 244, 245, 246, 247, 183, 184, 248, 249, 250, 251, 252, 253, 254, 33, 255, 256, 257, 258, 259, 260, 261] (by first | exact Eq.refl _ | decide +kernel) (by decide +kernel)
set_option maxRecDepth 20000 in
theorem ggL_told_X3_count_r4 : GoodIn wsL_told wsX3_count_r4 := goodIn_r _ [262, 263, 264, 265, 19, 266, 46, 70, 71, 72, 23, 73, 69] (by first | exact Eq.refl _ | decide +kernel) (by decide +kernel)
set_option maxRecDepth 20000 in
theorem ggL_told_X3_count_wsX30 : GoodIn wsL_told wsX30 := goodIn_r _ [267, 268, 269, 270, 271, 272] (by first | exact Eq.refl _ | decide +kernel) (by decide +kernel)
set_option maxRecDepth 20000 in
theorem ggL_told_X3_count_wsX00 : GoodIn wsL_told wsX00 := goodIn_r _ [273, 274, 275, 276, 277, 278, 279, 280, 281, 282, 283, 284] (by first | exact Eq.refl _ | decide +kernel) (by decide +kernel)
set_option maxRecDepth 20000 in
theorem ggL_told_X3_count_wsX10 : GoodIn wsL_told wsX10 := goodIn_r _ [285, 286] (by first | exact Eq.refl _ | decide +kernel) (by decide +kernel)
set_option maxRecDepth 20000 in
theorem ggL_told_X3_count_wsX20 : GoodIn wsL_told wsX20 := goodIn_r _ [287, 288, 289, 290, 291, 292, 293] (by first | exact Eq.refl _ | decide +kernel) (by decide +kernel)
theorem ggL_told_X3_count : GoodIn wsL_told wsX3_count := goodIn_app (b := ((wsX3_count_r1 ++ (wsX3_count_r2 ++ (wsX3_count_r3 ++ wsX3_count_r4))) ++ wsX30 ++ wsX00 ++ wsX10 ++ wsX20)) ggL_told_X3_count_c (goodIn_app (goodIn_app (goodIn_app (goodIn_app (goodIn_app ggL_told_X3_count_r1 (goodIn_app ggL_told_X3_count_r2 (goodIn_app ggL_told_X3_count_r3 (ggL_told_X3_count_r4)))) ggL_told_X3_count_wsX30) ggL_told_X3_count_wsX00) ggL_told_X3_count_wsX10) ggL_told_X3_count_wsX20)
set_option maxRecDepth 20000 in
theorem gL_told_X3_count : GoodIn wsL_told (wsV RL 13 RX3 yX3_count wsX3_count) := goodIn_app (goodIn_of _ (by decide +kernel)) ggL_told_X3_count
theorem dL_told_0 : decode cL_told 0 = .ok (.new 14, 3) := by decide +kernel
theorem dL_told_3 : decode cL_told 3 = .ok (.dup, 1) := by decide +kernel
theorem dL_told_4 : decode cL_told 4 = .ok (.invokespecial 74, 3) := by decide +kernel
theorem dL_told_7 : decode cL_told 7 = .ok (.astore 4, 2) := by decide +kernel
theorem dL_told_9 : decode cL_told 9 = .ok (.aload 4, 2) := by decide +kernel
theorem dL_told_11 : decode cL_told 11 = .ok (.lload_n 0, 1) := by decide +kernel
theorem dL_told_12 : decode cL_told 12 = .ok (.invokestatic 101, 3) := by decide +kernel
theorem dL_told_15 : decode cL_told 15 = .ok (.ifCond .eq 20, 3) := by decide +kernel
theorem dL_told_18 : decode cL_told 18 = .ok (.aload 4, 2) := by decide +kernel
theorem dL_told_20 : decode cL_told 20 = .ok (.lload_n 2, 1) := by decide +kernel
theorem dL_told_21 : decode cL_told 21 = .ok (.invokestatic 101, 3) := by decide +kernel
theorem dL_told_24 : decode cL_told 24 = .ok (.ifCond .eq 11, 3) := by decide +kernel
theorem dL_told_27 : decode cL_told 27 = .ok (.aload 4, 2) := by decide +kernel
theorem dL_told_29 : decode cL_told 29 = .ok (.invokevirtual 105, 3) := by decide +kernel
theorem dL_told_32 : decode cL_told 32 = .ok (.goto 5, 3) := by decide +kernel
theorem dL_told_35 : decode cL_told 35 = .ok (.bipush (-99), 2) := by decide +kernel
theorem dL_told_37 : decode cL_told 37 = .ok (.istore 5, 2) := by decide +kernel
theorem dL_told_39 : decode cL_told 39 = .ok (.aload 4, 2) := by decide +kernel
theorem dL_told_41 : decode cL_told 41 = .ok (.bipush 12, 2) := by decide +kernel
theorem dL_told_43 : decode cL_told 43 = .ok (.invokevirtual 13, 3) := by decide +kernel
theorem dL_told_46 : decode cL_told 46 = .ok (.iload 5, 2) := by decide +kernel
theorem dL_told_48 : decode cL_told 48 = .ok (.ifCond .le 7, 3) := by decide +kernel
theorem dL_told_51 : decode cL_told 51 = .ok (.iconst 1, 1) := by decide +kernel
theorem dL_told_52 : decode cL_told 52 = .ok (.goto 4, 3) := by decide +kernel
theorem dL_told_55 : decode cL_told 55 = .ok (.iconst 0, 1) := by decide +kernel
theorem dL_told_56 : decode cL_told 56 = .ok (.if_icmp .ne 28, 3) := by decide +kernel
theorem dL_told_59 : decode cL_told 59 = .ok (.aload 4, 2) := by decide +kernel
theorem dL_told_61 : decode cL_told 61 = .ok (.iconst 0, 1) := by decide +kernel
theorem dL_told_62 : decode cL_told 62 = .ok (.invokevirtual 13, 3) := by decide +kernel
theorem dL_told_65 : decode cL_told 65 = .ok (.iload 5, 2) := by decide +kernel
theorem dL_told_67 : decode cL_told 67 = .ok (.ifCond .le 8, 3) := by decide +kernel
theorem dL_told_70 : decode cL_told 70 = .ok (.iload 5, 2) := by decide +kernel
theorem dL_told_72 : decode cL_told 72 = .ok (.goto 4, 3) := by decide +kernel
theorem dL_told_75 : decode cL_told 75 = .ok (.iconst 0, 1) := by decide +kernel
theorem dL_told_76 : decode cL_told 76 = .ok (.if_icmp .ne 8, 3) := by decide +kernel
theorem dL_told_79 : decode cL_told 79 = .ok (.iload 5, 2) := by decide +kernel
theorem dL_told_81 : decode cL_told 81 = .ok (.goto 5, 3) := by decide +kernel
theorem dL_told_84 : decode cL_told 84 = .ok (.bipush (-98), 2) := by decide +kernel
theorem dL_told_86 : decode cL_told 86 = .ok (.ireturn, 1) := by decide +kernel
set_option maxRecDepth 20000 in
set_option maxRecDepth 20000 in
theorem ggL_texts_L_told_c : GoodIn wsL_texts [.code yL_told cL_told 6 (some .int)] := goodIn_r _ [30] (by first | exact Eq.refl _ | decide +kernel) (by decide +kernel)
set_option maxRecDepth 20000 in
theorem ggL_texts_L_told_r1 : GoodIn wsL_texts wsL_told_r1 := goodIn_r _ [19, 20, 21, 31, 32, 33, 34, 35, 36, 37, 38, 39, 40, 41, 42, 43, 44, 45, 46, 47, 48, 49, 50, 51] (by first | exact Eq.refl _ | decide +kernel) (by decide +kernel)
set_option maxRecDepth 20000 in
theorem ggL_texts_L_told_r2 : GoodIn wsL_texts wsL_told_r2 := goodIn_r _ [52, 53, 54, 55, 56, 57, 58, 59, 60, 61, 62, 63, 64, 65, 66, 67, 68, 69, 70, 71, 72, 73, 74, 75] (by first | exact Eq.refl _ | decide +kernel) (by decide +kernel)
set_option maxRecDepth 20000 in
theorem ggL_texts_L_told_r3 : GoodIn wsL_texts wsL_told_r3 := goodIn_r _ [76, 77, 78, 79, 80, 81, 82, 83, 84, 29, 85, 86, 87, 88, 89, 90, 91, 92, 93, 94, 95, 96, 97, 98] (by first | exact Eq.refl _ | decide +kernel) (by decide +kernel)
set_option maxRecDepth 20000 in
theorem ggL_texts_L_told_r4 : GoodIn wsL_texts wsL_told_r4 := goodIn_r _ [99, 100, 101, 102, 103, 104, 105, 106, 107, 108, 109, 110, 111, 112, 113, 114, 115, 116, 117, 118, 119, 120, 121, 122] (by first | exact Eq.refl _ | decide +kernel) (by decide +kernel)
set_option maxRecDepth 20000 in
theorem ggL_texts_L_told_r5 : GoodIn wsL_texts wsL_told_r5 := goodIn_r _ [123, 124, 125, 126, 127, 128, 129, 130, 131, 132, 133, 134, 135, 136, 137, 138, 139, 140, 141, 142, 143, 144, 145, 146] (by first | exact Eq.refl _ | decide +kernel) (by decide +kernel)
set_option maxRecDepth 20000 in
theorem ggL_texts_L_told_r6 : GoodIn wsL_texts wsL_told_r6 := goodIn_r _ [147, 148, 149, 150, 151, 152, 153, 154, 155, 156, 157, 158, 159, 160, 161, 162, 163, 164, 165, 166, 167, 168, 169, 170] (by first | exact Eq.refl _ | decide +kernel) (by decide +kernel)
set_option maxRecDepth 20000 in
theorem ggL_texts_L_told_r7 : GoodIn wsL_texts wsL_told_r7 := goodIn_r _ [171, 172, 173, 174, 175, 176, 177, 178, 179, 180, 181, 182, 183, 184, 185, 186, 187, 188, 189, 190, 191, 192, 193, 194] (by first | exact Eq.refl _ | decide +kernel) (by decide +kernel)
set_option maxRecDepth 20000 in
theorem ggL_texts_L_told_r8 : GoodIn wsL_texts wsL_told_r8 := goodIn_r _ [195, 196, 197, 198, 199, 200, 201, 202, 203, 204, 205, 206, 207, 208, 209, 210, 211, 212, 213, 214, 215, 216, 217, 218] (by first | exact Eq.refl _ | decide +kernel) (by decide +kernel)
set_option maxRecDepth 20000 in
theorem ggL_texts_L_told_r9 : GoodIn wsL_texts wsL_told_r9 := goodIn_r _ [219, 220, 221, 222, 223, 224, 225, 226, 227, 228, 229, 230, 231, 232, 233, 234, 235, 236, 237, 238, 239, 240, 241, 242] (by first | exact Eq.refl _ | decide +kernel) (by decide +kernel)
set_option maxRecDepth 20000 in
theorem ggL_texts_L_told_r10 : GoodIn wsL_texts wsL_told_r10 := goodIn_r _ [243, 244, 245, 246, 247, 248, 249, 250, 251, 252, 253, 254, 255, 256, 257, 258, 259, 260, 261, 262, 263, 264, 265, 266] (by first | exact Eq.refl _ | decide +kernel) (by decide +kernel)
set_option maxRecDepth 20000 in
theorem ggL_texts_L_told_r11 : GoodIn wsL_texts wsL_told_r11 := goodIn_r _ [267, 268, 269, 270, 271, 272, 273, 274, 275, 276, 277, 278, 279, 280, 281, 282, 283, 284, 285, 286, 287, 288, 289, 290] (by first | exact Eq.refl _ | decide +kernel) (by decide +kernel)
set_option maxRecDepth 20000 in
theorem ggL_texts_L_told_r12 : GoodIn wsL_texts wsL_told_r12 := goodIn_r _ [291, 292] (by first | exact Eq.refl _ | decide +kernel) (by decide +kernel)
set_option maxRecDepth 20000 in
theorem ggL_texts_L_told_wsX30 : GoodIn wsL_texts wsX30 := goodIn_r _ [331, 332, 333, 334, 335, 336] (by first | exact Eq.refl _ | decide +kernel) (by decide +kernel)
set_option maxRecDepth 20000 in
theorem ggL_texts_L_told_wsX00 : GoodIn wsL_texts wsX00 := goodIn_r _ [337, 338, 339, 340, 341, 342, 343, 344, 345, 346, 347, 348] (by first | exact Eq.refl _ | decide +kernel) (by decide +kernel)
set_option maxRecDepth 20000 in
theorem ggL_texts_L_told_wsX10 : GoodIn wsL_texts wsX10 := goodIn_r _ [349, 350] (by first | exact Eq.refl _ | decide +kernel) (by decide +kernel)
set_option maxRecDepth 20000 in
theorem ggL_texts_L_told_wsX20 : GoodIn wsL_texts wsX20 := goodIn_r _ [351, 352, 353, 354, 355, 356, 357] (by first | exact Eq.refl _ | decide +kernel) (by decide +kernel)
theorem ggL_texts_L_told : GoodIn wsL_texts wsL_told := goodIn_app (b := ((wsL_told_r1 ++ (wsL_told_r2 ++ (wsL_told_r3 ++ (wsL_told_r4 ++ (wsL_told_r5 ++ (wsL_told_r6 ++ (wsL_told_r7 ++ (wsL_told_r8 ++ (wsL_told_r9 ++ (wsL_told_r10 ++ (wsL_told_r11 ++ wsL_told_r12))))))))))) ++ wsX30 ++ wsX00 ++ wsX10 ++ wsX20)) ggL_texts_L_told_c (goodIn_app (goodIn_app (goodIn_app (goodIn_app (goodIn_app ggL_texts_L_told_r1 (goodIn_app ggL_texts_L_told_r2 (goodIn_app ggL_texts_L_told_r3 (goodIn_app ggL_texts_L_told_r4 (goodIn_app ggL_texts_L_told_r5 (goodIn_app ggL_texts_L_told_r6 (goodIn_app ggL_texts_L_told_r7 (goodIn_app ggL_texts_L_told_r8 (goodIn_app ggL_texts_L_told_r9 (goodIn_app ggL_texts_L_told_r10 (goodIn_app ggL_texts_L_told_r11 (ggL_texts_L_told_r12)))))))))))) ggL_texts_L_told_wsX30) ggL_texts_L_told_wsX00) ggL_texts_L_told_wsX10) ggL_texts_L_told_wsX20)
set_option maxRecDepth 20000 in
theorem gL_texts_L_told : GoodIn wsL_texts (va_wsS RL 110 yL_told wsL_told) := goodIn_app (goodIn_of _ (by decide +kernel)) ggL_texts_L_told
set_option maxRecDepth 20000 in
theorem ggL_texts_X3_init : GoodIn wsL_texts wsX3_init := goodIn_r _ [33, 34, 35, 36, 37, 38, 39, 40, 41, 42, 43, 44, 45, 46, 47, 48, 49, 50, 51, 52, 53, 54, 55, 56, 57, 58, 59, 60, 61, 62, 63, 64, 65, 66, 67, 68, 69, 70, 71, 72, 73, 74, 75, 76, 77, 78, 79, 80, 81, 82, 337, 338, 339, 340, 341, 342, 343, 344, 345, 346, 347, 348, 331, 332, 333, 334, 335, 336, 349, 350, 351, 352, 353, 354, 355, 356, 357] (by decide +kernel) (by decide +kernel)
set_option maxRecDepth 20000 in
theorem gL_texts_X3_init : GoodIn wsL_texts (wsX3_init) := ggL_texts_X3_init
set_option maxRecDepth 20000 in
theorem ggL_texts_L_types : GoodIn wsL_texts wsL_types := goodIn_r _ [85, 86, 87, 88, 89, 21, 90, 51, 91, 92, 93, 50, 94, 95, 79, 96, 97, 98, 99, 331, 332, 333, 334, 335, 336, 351, 352, 353, 354, 355, 356, 357] (by decide +kernel) (by decide +kernel)
set_option maxRecDepth 20000 in
theorem gL_texts_L_types : GoodIn wsL_texts (va_wsS RL 101 yL_types wsL_types) := goodIn_app (goodIn_of _ (by decide +kernel)) ggL_texts_L_types
set_option maxRecDepth 20000 in
set_option maxRecDepth 20000 in
theorem ggL_texts_X3_layAll_c : GoodIn wsL_texts [.code yX3_layAll cX3_layAll 3 (some .int)] := goodIn_r _ [103] (by first | exact Eq.refl _ | decide +kernel) (by decide +kernel)
set_option maxRecDepth 20000 in
theorem ggL_texts_X3_layAll_r1 : GoodIn wsL_texts wsX3_layAll_r1 := goodIn_r _ [51, 41, 40, 47, 104, 105, 106, 50, 107, 108, 109, 95, 110, 111, 112, 113, 80, 81, 82, 114, 115, 116, 117, 118] (by first | exact Eq.refl _ | decide +kernel) (by decide +kernel)
set_option maxRecDepth 20000 in
theorem ggL_texts_X3_layAll_r2 : GoodIn wsL_texts wsX3_layAll_r2 := goodIn_r _ [119, 120, 121, 79, 122, 123, 124, 125, 126, 21, 127, 128, 129, 130, 131, 132, 133, 134, 135, 136, 137, 138, 139, 140] (by first | exact Eq.refl _ | decide +kernel) (by decide +kernel)
set_option maxRecDepth 20000 in
theorem ggL_texts_X3_layAll_r3 : GoodIn wsL_texts wsX3_layAll_r3 := goodIn_r _ [141, 142, 39, 143, 57, 144, 145, 146, 147, 58, 59, 60, 61, 148, 62, 149, 150, 151, 152, 153, 154, 155, 156, 157] (by first | exact Eq.refl _ | decide +kernel) (by decide +kernel)
set_option maxRecDepth 20000 in
theorem ggL_texts_X3_layAll_r4 : GoodIn wsL_texts wsX3_layAll_r4 := goodIn_r _ [158, 159, 160, 161, 162, 163, 164, 165, 166, 167, 168, 169, 170, 171, 172, 173, 174, 175, 176, 177, 178, 179, 180, 181] (by first | exact Eq.refl _ | decide +kernel) (by decide +kernel)
set_option maxRecDepth 20000 in
theorem ggL_texts_X3_layAll_r5 : GoodIn wsL_texts wsX3_layAll_r5 := goodIn_r _ [182, 183, 184, 185, 186, 187, 188, 189, 190, 191, 192, 193, 194, 195, 196, 197, 198, 199, 200, 201, 202, 203, 204, 205] (by first | exact Eq.refl _ | decide +kernel) (by decide +kernel)
set_option maxRecDepth 20000 in
theorem ggL_texts_X3_layAll_r6 : GoodIn wsL_texts wsX3_layAll_r6 := goodIn_r _ [206, 207, 208, 209, 210, 211, 212, 213, 214, 215, 216, 217, 218, 219, 220, 221, 222, 223, 46, 224, 73, 225, 226, 227] (by first | exact Eq.refl _ | decide +kernel) (by decide +kernel)
set_option maxRecDepth 20000 in
theorem ggL_texts_X3_layAll_r7 : GoodIn wsL_texts wsX3_layAll_r7 := goodIn_r _ [228, 72, 229, 230, 231, 232, 233, 234, 235, 236, 237] (by first | exact Eq.refl _ | decide +kernel) (by decide +kernel)
set_option maxRecDepth 20000 in
theorem ggL_texts_X3_layAll_wsX30 : GoodIn wsL_texts wsX30 := goodIn_r _ [331, 332, 333, 334, 335, 336] (by first | exact Eq.refl _ | decide +kernel) (by decide +kernel)
set_option maxRecDepth 20000 in
theorem ggL_texts_X3_layAll_wsX20 : GoodIn wsL_texts wsX20 := goodIn_r _ [351, 352, 353, 354, 355, 356, 357] (by first | exact Eq.refl _ | decide +kernel) (by decide +kernel)
set_option maxRecDepth 20000 in
theorem ggL_texts_X3_layAll_wsX00 : GoodIn wsL_texts wsX00 := goodIn_r _ [337, 338, 339, 340, 341, 342, 343, 344, 345, 346, 347, 348] (by first | exact Eq.refl _ | decide +kernel) (by decide +kernel)
set_option maxRecDepth 20000 in
theorem ggL_texts_X3_layAll_wsX10 : GoodIn wsL_texts wsX10 := goodIn_r _ [349, 350] (by first | exact Eq.refl _ | decide +kernel) (by decide +kernel)
theorem ggL_texts_X3_layAll : GoodIn wsL_texts wsX3_layAll := goodIn_app (b := ((wsX3_layAll_r1 ++ (wsX3_layAll_r2 ++ (wsX3_layAll_r3 ++ (wsX3_layAll_r4 ++ (wsX3_layAll_r5 ++ (wsX3_layAll_r6 ++ wsX3_layAll_r7)))))) ++ wsX30 ++ wsX20 ++ wsX00 ++ wsX10)) ggL_texts_X3_layAll_c (goodIn_app (goodIn_app (goodIn_app (goodIn_app (goodIn_app ggL_texts_X3_layAll_r1 (goodIn_app ggL_texts_X3_layAll_r2 (goodIn_app ggL_texts_X3_layAll_r3 (goodIn_app ggL_texts_X3_layAll_r4 (goodIn_app ggL_texts_X3_layAll_r5 (goodIn_app ggL_texts_X3_layAll_r6 (ggL_texts_X3_layAll_r7))))))) ggL_texts_X3_layAll_wsX30) ggL_texts_X3_layAll_wsX20) ggL_texts_X3_layAll_wsX00) ggL_texts_X3_layAll_wsX10)
set_option maxRecDepth 20000 in
theorem gL_texts_X3_layAll : GoodIn wsL_texts (wsV RL 105 RX3 yX3_layAll wsX3_layAll) := goodIn_app (goodIn_of _ (by decide +kernel)) ggL_texts_X3_layAll
set_option maxRecDepth 20000 in
set_option maxRecDepth 20000 in
theorem ggL_texts_X3_count_c : GoodIn wsL_texts [.code yX3_count cX3_count 2 (some .int)] := goodIn_r _ [241] (by first | exact Eq.refl _ | decide +kernel) (by decide +kernel)
set_option maxRecDepth 20000 in
theorem ggL_texts_X3_count_r1 : GoodIn wsL_texts wsX3_count_r1 := goodIn_r _ [40, 47, 51, 234, 235, 236, 39, 237, 178, 179, 180, 181, 58, 182, 21, 183, 242, 243, 244, 245, 246, 247, 248, 249] (by first | exact Eq.refl _ | decide +kernel) (by decide +kernel)
set_option maxRecDepth 20000 in
theorem ggL_texts_X3_count_r2 : GoodIn wsL_texts wsX3_count_r2 := goodIn_r _ [250, 251, 252, 253, 57, 254, 255, 256, 257, 258, 259, 260, 261, 59, 262, 263, 264, 265, 62, 266, 267, 268, 269, 206] (by first | exact Eq.refl _ | decide +kernel) (by decide +kernel)
set_option maxRecDepth 20000 in
theorem ggL_texts_X3_count_r3 : GoodIn wsL_texts wsX3_count_r3 := goodIn_r _ [207, 204, 208, 270, 271, 272, 273, 209, 210, 274, 275, 276, 277, 278, 279, 280, 60, 281, 282, 283, 284, 285, 286, 287] (by first | exact Eq.refl _ | decide +kernel) (by decide +kernel)
set_option maxRecDepth 20000 in
theorem ggL_texts_X3_count_r4 : GoodIn wsL_texts wsX3_count_r4 := goodIn_r _ [288, 289, 290, 291, 46, 292, 73, 96, 97, 98, 50, 99, 95] (by first | exact Eq.refl _ | decide +kernel) (by decide +kernel)
set_option maxRecDepth 20000 in
theorem ggL_texts_X3_count_wsX30 : GoodIn wsL_texts wsX30 := goodIn_r _ [331, 332, 333, 334, 335, 336] (by first | exact Eq.refl _ | decide +kernel) (by decide +kernel)
set_option maxRecDepth 20000 in
theorem ggL_texts_X3_count_wsX00 : GoodIn wsL_texts wsX00 := goodIn_r _ [337, 338, 339, 340, 341, 342, 343, 344, 345, 346, 347, 348] (by first | exact Eq.refl _ | decide +kernel) (by decide +kernel)
set_option maxRecDepth 20000 in
theorem ggL_texts_X3_count_wsX10 : GoodIn wsL_texts wsX10 := goodIn_r _ [349, 350] (by first | exact Eq.refl _ | decide +kernel) (by decide +kernel)
set_option maxRecDepth 20000 in
theorem ggL_texts_X3_count_wsX20 : GoodIn wsL_texts wsX20 := goodIn_r _ [351, 352, 353, 354, 355, 356, 357] (by first | exact Eq.refl _ | decide +kernel) (by decide +kernel)
theorem ggL_texts_X3_count : GoodIn wsL_texts wsX3_count := goodIn_app (b := ((wsX3_count_r1 ++ (wsX3_count_r2 ++ (wsX3_count_r3 ++ wsX3_count_r4))) ++ wsX30 ++ wsX00 ++ wsX10 ++ wsX20)) ggL_texts_X3_count_c (goodIn_app (goodIn_app (goodIn_app (goodIn_app (goodIn_app ggL_texts_X3_count_r1 (goodIn_app ggL_texts_X3_count_r2 (goodIn_app ggL_texts_X3_count_r3 (ggL_texts_X3_count_r4)))) ggL_texts_X3_count_wsX30) ggL_texts_X3_count_wsX00) ggL_texts_X3_count_wsX10) ggL_texts_X3_count_wsX20)
set_option maxRecDepth 20000 in
theorem gL_texts_X3_count : GoodIn wsL_texts (wsV RL 13 RX3 yX3_count wsX3_count) := goodIn_app (goodIn_of _ (by decide +kernel)) ggL_texts_X3_count
set_option maxRecDepth 20000 in
theorem ggL_texts_X3_clearText : GoodIn wsL_texts wsX3_clearText := goodIn_r _ [296, 51, 96, 97, 98, 50, 99, 95, 297, 298, 299, 300, 331, 332, 333, 334, 335, 336, 351, 352, 353, 354, 355, 356, 357] (by decide +kernel) (by decide +kernel)
set_option maxRecDepth 20000 in
theorem gL_texts_X3_clearText : GoodIn wsL_texts (wsV RL 156 RX3 yX3_clearText wsX3_clearText) := goodIn_app (goodIn_of _ (by decide +kernel)) ggL_texts_X3_clearText
set_option maxRecDepth 20000 in
theorem ggL_texts_X3_wire : GoodIn wsL_texts wsX3_wire := goodIn_r _ [304, 40, 305, 179, 180, 39, 181, 58, 182, 21, 183, 306, 307, 308, 309, 310, 259, 260, 261, 59, 311, 282, 283, 284, 60, 312, 313, 314, 315, 246, 247, 248, 249, 178, 250, 251, 252, 253, 57, 316, 317, 318, 319, 262, 263, 264, 265, 62, 266, 267, 268, 269, 206, 207, 204, 208, 270, 271, 272, 273, 209, 210, 274, 275, 276, 258, 320, 321, 322, 323, 324, 325, 326, 327, 328, 329, 330, 61, 331, 332, 333, 334, 335, 336, 337, 338, 339, 340, 341, 342, 343, 344, 345, 346, 347, 348] (by decide +kernel) (by decide +kernel)
set_option maxRecDepth 20000 in
theorem gL_texts_X3_wire : GoodIn wsL_texts (wsV RL 19 RX3 yX3_wire wsX3_wire) := goodIn_app (goodIn_of _ (by decide +kernel)) ggL_texts_X3_wire
set_option maxRecDepth 20000 in
theorem ggL_texts_X3_type : GoodIn wsL_texts wsX3_type := goodIn_r _ [90, 51, 91, 92, 93, 50, 94, 95, 79, 96, 97, 98, 99, 331, 332, 333, 334, 335, 336, 351, 352, 353, 354, 355, 356, 357] (by decide +kernel) (by decide +kernel)
set_option maxRecDepth 20000 in
theorem gL_texts_X3_type : GoodIn wsL_texts (wsV RL 97 RX3 yX3_type wsX3_type) := goodIn_app (goodIn_of _ (by decide +kernel)) ggL_texts_X3_type
theorem dL_texts_0 : decode cL_texts 0 = .ok (.ldc2_w 108, 3) := by decide +kernel
theorem dL_texts_3 : decode cL_texts 3 = .ok (.lconst 0, 1) := by decide +kernel
theorem dL_texts_4 : decode cL_texts 4 = .ok (.invokestatic 110, 3) := by decide +kernel
theorem dL_texts_7 : decode cL_texts 7 = .ok (.bipush (-101), 2) := by decide +kernel
theorem dL_texts_9 : decode cL_texts 9 = .ok (.if_icmp .ne 97, 3) := by decide +kernel
theorem dL_texts_12 : decode cL_texts 12 = .ok (.ldc2_w 114, 3) := by decide +kernel
theorem dL_texts_15 : decode cL_texts 15 = .ok (.lconst 0, 1) := by decide +kernel
theorem dL_texts_16 : decode cL_texts 16 = .ok (.invokestatic 110, 3) := by decide +kernel
theorem dL_texts_19 : decode cL_texts 19 = .ok (.bipush (-103), 2) := by decide +kernel
theorem dL_texts_21 : decode cL_texts 21 = .ok (.if_icmp .ne 85, 3) := by decide +kernel
theorem dL_texts_24 : decode cL_texts 24 = .ok (.ldc2_w 116, 3) := by decide +kernel
theorem dL_texts_27 : decode cL_texts 27 = .ok (.lconst 0, 1) := by decide +kernel
theorem dL_texts_28 : decode cL_texts 28 = .ok (.invokestatic 110, 3) := by decide +kernel
theorem dL_texts_31 : decode cL_texts 31 = .ok (.bipush (-105), 2) := by decide +kernel
theorem dL_texts_33 : decode cL_texts 33 = .ok (.if_icmp .ne 73, 3) := by decide +kernel
theorem dL_texts_36 : decode cL_texts 36 = .ok (.ldc2_w 118, 3) := by decide +kernel
theorem dL_texts_39 : decode cL_texts 39 = .ok (.lconst 0, 1) := by decide +kernel
theorem dL_texts_40 : decode cL_texts 40 = .ok (.invokestatic 110, 3) := by decide +kernel
theorem dL_texts_43 : decode cL_texts 43 = .ok (.bipush (-105), 2) := by decide +kernel
theorem dL_texts_45 : decode cL_texts 45 = .ok (.if_icmp .ne 61, 3) := by decide +kernel
theorem dL_texts_48 : decode cL_texts 48 = .ok (.ldc2_w 120, 3) := by decide +kernel
theorem dL_texts_51 : decode cL_texts 51 = .ok (.lconst 0, 1) := by decide +kernel
theorem dL_texts_52 : decode cL_texts 52 = .ok (.invokestatic 110, 3) := by decide +kernel
theorem dL_texts_55 : decode cL_texts 55 = .ok (.bipush (-104), 2) := by decide +kernel
theorem dL_texts_57 : decode cL_texts 57 = .ok (.if_icmp .ne 49, 3) := by decide +kernel
theorem dL_texts_60 : decode cL_texts 60 = .ok (.ldc2_w 122, 3) := by decide +kernel
theorem dL_texts_63 : decode cL_texts 63 = .ok (.lconst 0, 1) := by decide +kernel
theorem dL_texts_64 : decode cL_texts 64 = .ok (.invokestatic 110, 3) := by decide +kernel
theorem dL_texts_67 : decode cL_texts 67 = .ok (.bipush (-106), 2) := by decide +kernel
theorem dL_texts_69 : decode cL_texts 69 = .ok (.if_icmp .ne 37, 3) := by decide +kernel
theorem dL_texts_72 : decode cL_texts 72 = .ok (.ldc2_w 124, 3) := by decide +kernel
theorem dL_texts_75 : decode cL_texts 75 = .ok (.lconst 0, 1) := by decide +kernel
theorem dL_texts_76 : decode cL_texts 76 = .ok (.invokestatic 110, 3) := by decide +kernel
theorem dL_texts_79 : decode cL_texts 79 = .ok (.bipush (-101), 2) := by decide +kernel
theorem dL_texts_81 : decode cL_texts 81 = .ok (.if_icmp .ne 25, 3) := by decide +kernel
theorem dL_texts_84 : decode cL_texts 84 = .ok (.ldc2_w 126, 3) := by decide +kernel
theorem dL_texts_87 : decode cL_texts 87 = .ok (.lconst 0, 1) := by decide +kernel
theorem dL_texts_88 : decode cL_texts 88 = .ok (.invokestatic 110, 3) := by decide +kernel
theorem dL_texts_91 : decode cL_texts 91 = .ok (.bipush (-104), 2) := by decide +kernel
theorem dL_texts_93 : decode cL_texts 93 = .ok (.if_icmp .ne 13, 3) := by decide +kernel
theorem dL_texts_96 : decode cL_texts 96 = .ok (.lconst 0, 1) := by decide +kernel
theorem dL_texts_97 : decode cL_texts 97 = .ok (.lconst 0, 1) := by decide +kernel
theorem dL_texts_98 : decode cL_texts 98 = .ok (.invokestatic 110, 3) := by decide +kernel
theorem dL_texts_101 : decode cL_texts 101 = .ok (.bipush (-100), 2) := by decide +kernel
theorem dL_texts_103 : decode cL_texts 103 = .ok (.if_icmp .eq 5, 3) := by decide +kernel
theorem dL_texts_106 : decode cL_texts 106 = .ok (.iconst 0, 1) := by decide +kernel
theorem dL_texts_107 : decode cL_texts 107 = .ok (.ireturn, 1) := by decide +kernel
theorem dL_texts_108 : decode cL_texts 108 = .ok (.ldc2_w 128, 3) := by decide +kernel
theorem dL_texts_111 : decode cL_texts 111 = .ok (.ldc2_w 124, 3) := by decide +kernel
theorem dL_texts_114 : decode cL_texts 114 = .ok (.invokestatic 110, 3) := by decide +kernel
theorem dL_texts_117 : decode cL_texts 117 = .ok (.iconst 1, 1) := by decide +kernel
theorem dL_texts_118 : decode cL_texts 118 = .ok (.if_icmp .ne 100, 3) := by decide +kernel
theorem dL_texts_121 : decode cL_texts 121 = .ok (.ldc2_w 130, 3) := by decide +kernel
theorem dL_texts_124 : decode cL_texts 124 = .ok (.ldc2_w 132, 3) := by decide +kernel
theorem dL_texts_127 : decode cL_texts 127 = .ok (.invokestatic 110, 3) := by decide +kernel
theorem dL_texts_130 : decode cL_texts 130 = .ok (.iconst 3, 1) := by decide +kernel
theorem dL_texts_131 : decode cL_texts 131 = .ok (.if_icmp .ne 87, 3) := by decide +kernel
theorem dL_texts_134 : decode cL_texts 134 = .ok (.ldc2_w 134, 3) := by decide +kernel
theorem dL_texts_137 : decode cL_texts 137 = .ok (.lconst 0, 1) := by decide +kernel
theorem dL_texts_138 : decode cL_texts 138 = .ok (.invokestatic 110, 3) := by decide +kernel
theorem dL_texts_141 : decode cL_texts 141 = .ok (.bipush (-4), 2) := by decide +kernel
theorem dL_texts_143 : decode cL_texts 143 = .ok (.if_icmp .ne 75, 3) := by decide +kernel
theorem dL_texts_146 : decode cL_texts 146 = .ok (.ldc2_w 136, 3) := by decide +kernel
theorem dL_texts_149 : decode cL_texts 149 = .ok (.lconst 0, 1) := by decide +kernel
theorem dL_texts_150 : decode cL_texts 150 = .ok (.invokestatic 110, 3) := by decide +kernel
theorem dL_texts_153 : decode cL_texts 153 = .ok (.bipush (-4), 2) := by decide +kernel
theorem dL_texts_155 : decode cL_texts 155 = .ok (.if_icmp .ne 63, 3) := by decide +kernel
theorem dL_texts_158 : decode cL_texts 158 = .ok (.ldc2_w 138, 3) := by decide +kernel
theorem dL_texts_161 : decode cL_texts 161 = .ok (.lconst 0, 1) := by decide +kernel
theorem dL_texts_162 : decode cL_texts 162 = .ok (.invokestatic 110, 3) := by decide +kernel
theorem dL_texts_165 : decode cL_texts 165 = .ok (.bipush (-100), 2) := by decide +kernel
theorem dL_texts_167 : decode cL_texts 167 = .ok (.if_icmp .ne 51, 3) := by decide +kernel
theorem dL_texts_170 : decode cL_texts 170 = .ok (.ldc2_w 140, 3) := by decide +kernel
theorem dL_texts_173 : decode cL_texts 173 = .ok (.lconst 0, 1) := by decide +kernel
theorem dL_texts_174 : decode cL_texts 174 = .ok (.invokestatic 110, 3) := by decide +kernel
theorem dL_texts_177 : decode cL_texts 177 = .ok (.bipush (-101), 2) := by decide +kernel
theorem dL_texts_179 : decode cL_texts 179 = .ok (.if_icmp .ne 39, 3) := by decide +kernel
theorem dL_texts_182 : decode cL_texts 182 = .ok (.ldc2_w 142, 3) := by decide +kernel
theorem dL_texts_185 : decode cL_texts 185 = .ok (.lconst 0, 1) := by decide +kernel
theorem dL_texts_186 : decode cL_texts 186 = .ok (.invokestatic 110, 3) := by decide +kernel
theorem dL_texts_189 : decode cL_texts 189 = .ok (.bipush (-101), 2) := by decide +kernel
theorem dL_texts_191 : decode cL_texts 191 = .ok (.if_icmp .ne 27, 3) := by decide +kernel
