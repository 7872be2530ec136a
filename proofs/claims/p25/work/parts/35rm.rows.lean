theorem dL_texts_412 : decode cL_texts 412 = .ok (.if_icmp .eq 5, 3) := by decide +kernel
theorem dL_texts_415 : decode cL_texts 415 = .ok (.iconst 0, 1) := by decide +kernel
theorem dL_texts_416 : decode cL_texts 416 = .ok (.ireturn, 1) := by decide +kernel
theorem dL_texts_417 : decode cL_texts 417 = .ok (.iinc 1 1, 3) := by decide +kernel
theorem dL_texts_420 : decode cL_texts 420 = .ok (.goto (-23), 3) := by decide +kernel
theorem dL_texts_423 : decode cL_texts 423 = .ok (.aload_n 0, 1) := by decide +kernel
theorem dL_texts_424 : decode cL_texts 424 = .ok (.bipush 49, 2) := by decide +kernel
theorem dL_texts_426 : decode cL_texts 426 = .ok (.invokevirtual 97, 3) := by decide +kernel
theorem dL_texts_429 : decode cL_texts 429 = .ok (.bipush (-3), 2) := by decide +kernel
theorem dL_texts_431 : decode cL_texts 431 = .ok (.if_icmp .ne 34, 3) := by decide +kernel
theorem dL_texts_434 : decode cL_texts 434 = .ok (.aload_n 0, 1) := by decide +kernel
theorem dL_texts_435 : decode cL_texts 435 = .ok (.invokevirtual 105, 3) := by decide +kernel
theorem dL_texts_438 : decode cL_texts 438 = .ok (.bipush (-115), 2) := by decide +kernel
theorem dL_texts_440 : decode cL_texts 440 = .ok (.if_icmp .ne 25, 3) := by decide +kernel
theorem dL_texts_443 : decode cL_texts 443 = .ok (.aload_n 0, 1) := by decide +kernel
theorem dL_texts_444 : decode cL_texts 444 = .ok (.invokevirtual 156, 3) := by decide +kernel
theorem dL_texts_447 : decode cL_texts 447 = .ok (.bipush 80, 2) := by decide +kernel
theorem dL_texts_449 : decode cL_texts 449 = .ok (.if_icmp .ne 16, 3) := by decide +kernel
theorem dL_texts_452 : decode cL_texts 452 = .ok (.aload_n 0, 1) := by decide +kernel
theorem dL_texts_453 : decode cL_texts 453 = .ok (.invokevirtual 105, 3) := by decide +kernel
theorem dL_texts_456 : decode cL_texts 456 = .ok (.bipush (-100), 2) := by decide +kernel
theorem dL_texts_458 : decode cL_texts 458 = .ok (.if_icmp .ne 7, 3) := by decide +kernel
theorem dL_texts_461 : decode cL_texts 461 = .ok (.iconst 1, 1) := by decide +kernel
theorem dL_texts_462 : decode cL_texts 462 = .ok (.goto 4, 3) := by decide +kernel
theorem dL_texts_465 : decode cL_texts 465 = .ok (.iconst 0, 1) := by decide +kernel
theorem dL_texts_466 : decode cL_texts 466 = .ok (.ireturn, 1) := by decide +kernel
set_option maxRecDepth 20000 in
set_option maxRecDepth 20000 in
theorem ggL_law_L_wires_c : GoodIn wsL_law [.code yL_wires cL_wires 2 (some .boolean)] := goodIn_r _ [7] (by first | exact Eq.refl _ | decide +kernel) (by decide +kernel)
set_option maxRecDepth 20000 in
theorem ggL_law_L_wires_r1 : GoodIn wsL_law wsL_wires_r1 := goodIn_r _ [0, 1, 2, 8, 9, 10, 11, 12, 13, 14, 15, 16, 17, 18, 19, 20, 21, 22, 23, 24, 25, 26, 27, 28] (by first | exact Eq.refl _ | decide +kernel) (by decide +kernel)
set_option maxRecDepth 20000 in
theorem ggL_law_L_wires_r2 : GoodIn wsL_law wsL_wires_r2 := goodIn_r _ [29, 30, 31, 32, 33, 34, 35, 36, 37, 38, 39, 40, 41, 42, 43, 44, 45, 46, 47, 48, 49, 50, 51, 52] (by first | exact Eq.refl _ | decide +kernel) (by decide +kernel)
set_option maxRecDepth 20000 in
theorem ggL_law_L_wires_r3 : GoodIn wsL_law wsL_wires_r3 := goodIn_r _ [53, 54, 55, 56, 57, 58, 59, 60, 61, 62, 63, 64, 65, 66, 67, 68, 69, 70, 71, 72, 73, 74, 75, 76] (by first | exact Eq.refl _ | decide +kernel) (by decide +kernel)
set_option maxRecDepth 20000 in
theorem ggL_law_L_wires_r4 : GoodIn wsL_law wsL_wires_r4 := goodIn_r _ [77, 78, 79, 80, 81, 82, 83, 84, 85, 86, 87, 88, 89, 90, 91, 92, 93, 94, 95, 96, 97, 98, 99, 100] (by first | exact Eq.refl _ | decide +kernel) (by decide +kernel)
set_option maxRecDepth 20000 in
theorem ggL_law_L_wires_r5 : GoodIn wsL_law wsL_wires_r5 := goodIn_r _ [101, 102, 103, 104, 105, 106, 107, 108, 109, 110, 111, 112, 113, 114, 115, 116, 117, 118, 119, 120, 121, 122, 123, 124] (by first | exact Eq.refl _ | decide +kernel) (by decide +kernel)
set_option maxRecDepth 20000 in
theorem ggL_law_L_wires_r6 : GoodIn wsL_law wsL_wires_r6 := goodIn_r _ [125, 126, 127, 128, 129, 130, 131, 132, 133, 134, 135, 136, 137, 138, 139, 140, 141, 142, 143, 144, 145, 146, 147, 148] (by first | exact Eq.refl _ | decide +kernel) (by decide +kernel)
set_option maxRecDepth 20000 in
theorem ggL_law_L_wires_r7 : GoodIn wsL_law wsL_wires_r7 := goodIn_r _ [149, 150, 151, 152, 153, 154, 155, 156, 157, 158, 159, 160, 161, 162, 163, 164, 165, 166, 167, 168, 169, 170, 171, 172] (by first | exact Eq.refl _ | decide +kernel) (by decide +kernel)
set_option maxRecDepth 20000 in
theorem ggL_law_L_wires_r8 : GoodIn wsL_law wsL_wires_r8 := goodIn_r _ [173, 174, 175, 176, 177, 178, 179, 180, 181, 182, 183, 184, 185, 186, 187, 188, 189, 190, 191, 192, 193, 194, 195, 196] (by first | exact Eq.refl _ | decide +kernel) (by decide +kernel)
set_option maxRecDepth 20000 in
theorem ggL_law_L_wires_r9 : GoodIn wsL_law wsL_wires_r9 := goodIn_r _ [197, 198, 199, 200, 201, 202, 203, 204, 205, 206, 207, 208, 209, 210, 211, 212, 213, 214, 215, 216, 217, 218, 219, 220] (by first | exact Eq.refl _ | decide +kernel) (by decide +kernel)
set_option maxRecDepth 20000 in
theorem ggL_law_L_wires_r10 : GoodIn wsL_law wsL_wires_r10 := goodIn_r _ [221, 222, 223, 224, 225, 226, 227, 228, 229, 230, 231, 232, 233, 234, 235, 236, 237, 238, 239, 240, 241, 242, 243, 244] (by first | exact Eq.refl _ | decide +kernel) (by decide +kernel)
set_option maxRecDepth 20000 in
theorem ggL_law_L_wires_r11 : GoodIn wsL_law wsL_wires_r11 := goodIn_r _ [245, 246, 247, 248, 249, 250, 251, 252, 253, 254, 255, 256, 257, 258, 259, 260, 261, 262, 263, 264, 265, 266, 267, 268] (by first | exact Eq.refl _ | decide +kernel) (by decide +kernel)
set_option maxRecDepth 20000 in
theorem ggL_law_L_wires_r12 : GoodIn wsL_law wsL_wires_r12 := goodIn_r _ [269, 270, 271, 272, 273, 274, 275, 276, 277, 278, 279, 280, 281, 282, 283, 284, 285, 286, 287, 288, 289, 290, 291, 292] (by first | exact Eq.refl _ | decide +kernel) (by decide +kernel)
set_option maxRecDepth 20000 in
theorem ggL_law_L_wires_r13 : GoodIn wsL_law wsL_wires_r13 := goodIn_r _ [293, 294, 295, 296, 297, 298, 299, 300, 6, 301, 302, 303, 304, 305, 306, 307, 308, 309, 310, 311, 312, 313, 314, 315] (by first | exact Eq.refl _ | decide +kernel) (by decide +kernel)
set_option maxRecDepth 20000 in
theorem ggL_law_L_wires_r14 : GoodIn wsL_law wsL_wires_r14 := goodIn_r _ [316, 317, 318, 319, 320, 321, 322, 323, 324, 325, 326, 327, 328, 329, 330, 331, 332, 333, 334, 335, 336, 337, 338, 339] (by first | exact Eq.refl _ | decide +kernel) (by decide +kernel)
set_option maxRecDepth 20000 in
theorem ggL_law_L_wires_r15 : GoodIn wsL_law wsL_wires_r15 := goodIn_r _ [340, 341, 342, 343, 344, 345, 346, 347, 348, 349, 350, 351] (by first | exact Eq.refl _ | decide +kernel) (by decide +kernel)
set_option maxRecDepth 20000 in
theorem ggL_law_L_wires_wsX30 : GoodIn wsL_law wsX30 := goodIn_r _ [480, 481, 482, 483, 484, 485] (by first | exact Eq.refl _ | decide +kernel) (by decide +kernel)
set_option maxRecDepth 20000 in
theorem ggL_law_L_wires_wsX00 : GoodIn wsL_law wsX00 := goodIn_r _ [486, 487, 488, 489, 490, 491, 492, 493, 494, 495, 496, 497] (by first | exact Eq.refl _ | decide +kernel) (by decide +kernel)
set_option maxRecDepth 20000 in
theorem ggL_law_L_wires_wsX10 : GoodIn wsL_law wsX10 := goodIn_r _ [498, 499] (by first | exact Eq.refl _ | decide +kernel) (by decide +kernel)
set_option maxRecDepth 20000 in
theorem ggL_law_L_wires_wsX20 : GoodIn wsL_law wsX20 := goodIn_r _ [500, 501, 502, 503, 504, 505, 506] (by first | exact Eq.refl _ | decide +kernel) (by decide +kernel)
theorem ggL_law_L_wires : GoodIn wsL_law wsL_wires := goodIn_app (b := ((wsL_wires_r1 ++ (wsL_wires_r2 ++ (wsL_wires_r3 ++ (wsL_wires_r4 ++ (wsL_wires_r5 ++ (wsL_wires_r6 ++ (wsL_wires_r7 ++ (wsL_wires_r8 ++ (wsL_wires_r9 ++ (wsL_wires_r10 ++ (wsL_wires_r11 ++ (wsL_wires_r12 ++ (wsL_wires_r13 ++ (wsL_wires_r14 ++ wsL_wires_r15)))))))))))))) ++ wsX30 ++ wsX00 ++ wsX10 ++ wsX20)) ggL_law_L_wires_c (goodIn_app (goodIn_app (goodIn_app (goodIn_app (goodIn_app ggL_law_L_wires_r1 (goodIn_app ggL_law_L_wires_r2 (goodIn_app ggL_law_L_wires_r3 (goodIn_app ggL_law_L_wires_r4 (goodIn_app ggL_law_L_wires_r5 (goodIn_app ggL_law_L_wires_r6 (goodIn_app ggL_law_L_wires_r7 (goodIn_app ggL_law_L_wires_r8 (goodIn_app ggL_law_L_wires_r9 (goodIn_app ggL_law_L_wires_r10 (goodIn_app ggL_law_L_wires_r11 (goodIn_app ggL_law_L_wires_r12 (goodIn_app ggL_law_L_wires_r13 (goodIn_app ggL_law_L_wires_r14 (ggL_law_L_wires_r15))))))))))))))) ggL_law_L_wires_wsX30) ggL_law_L_wires_wsX00) ggL_law_L_wires_wsX10) ggL_law_L_wires_wsX20)
set_option maxRecDepth 20000 in
theorem gL_law_L_wires : GoodIn wsL_law (va_wsS RL 161 yL_wires wsL_wires) := goodIn_app (goodIn_of _ (by decide +kernel)) ggL_law_L_wires
set_option maxRecDepth 20000 in
set_option maxRecDepth 20000 in
theorem ggL_law_L_tool_c : GoodIn wsL_law [.code yL_tool cL_tool 2 (some .boolean)] := goodIn_r _ [354] (by first | exact Eq.refl _ | decide +kernel) (by decide +kernel)
set_option maxRecDepth 20000 in
theorem ggL_law_L_tool_r1 : GoodIn wsL_law wsL_tool_r1 := goodIn_r _ [0, 1, 2, 8, 9, 10, 11, 12, 13, 14, 15, 16, 17, 18, 19, 20, 21, 22, 23, 24, 25, 26, 27, 28] (by first | exact Eq.refl _ | decide +kernel) (by decide +kernel)
set_option maxRecDepth 20000 in
theorem ggL_law_L_tool_r2 : GoodIn wsL_law wsL_tool_r2 := goodIn_r _ [29, 30, 31, 32, 33, 34, 35, 36, 37, 38, 39, 40, 41, 42, 43, 44, 45, 46, 47, 48, 49, 50, 51, 52] (by first | exact Eq.refl _ | decide +kernel) (by decide +kernel)
set_option maxRecDepth 20000 in
theorem ggL_law_L_tool_r3 : GoodIn wsL_law wsL_tool_r3 := goodIn_r _ [53, 54, 55, 56, 57, 58, 59, 220, 221, 222, 223, 224, 225, 226, 127, 76, 77, 227, 228, 229, 230, 87, 89, 86] (by first | exact Eq.refl _ | decide +kernel) (by decide +kernel)
set_option maxRecDepth 20000 in
theorem ggL_law_L_tool_r4 : GoodIn wsL_law wsL_tool_r4 := goodIn_r _ [231, 232, 233, 234, 235, 236, 237, 238, 239, 240, 241, 113, 114, 209, 210, 211, 242, 243, 244, 245, 109, 110, 111, 112] (by first | exact Eq.refl _ | decide +kernel) (by decide +kernel)
set_option maxRecDepth 20000 in
theorem ggL_law_L_tool_r5 : GoodIn wsL_law wsL_tool_r5 := goodIn_r _ [246, 217, 218, 219, 96, 97, 98, 99, 100, 101, 102, 103, 72, 73, 74, 75, 78, 79, 80, 81, 82, 83, 84, 85] (by first | exact Eq.refl _ | decide +kernel) (by decide +kernel)
set_option maxRecDepth 20000 in
theorem ggL_law_L_tool_r6 : GoodIn wsL_law wsL_tool_r6 := goodIn_r _ [88, 90, 91, 247, 248, 249, 250, 251, 252, 253, 254, 136, 137, 138, 139, 176, 177, 178, 183, 184, 255, 213, 214, 215] (by first | exact Eq.refl _ | decide +kernel) (by decide +kernel)
set_option maxRecDepth 20000 in
theorem ggL_law_L_tool_r7 : GoodIn wsL_law wsL_tool_r7 := goodIn_r _ [256, 193, 194, 195, 335, 336, 337, 338, 261, 339, 141, 142, 143, 119, 120, 121, 122, 144, 145, 146, 147, 105, 106, 107] (by first | exact Eq.refl _ | decide +kernel) (by decide +kernel)
set_option maxRecDepth 20000 in
theorem ggL_law_L_tool_r8 : GoodIn wsL_law wsL_tool_r8 := goodIn_r _ [108, 148, 149, 150, 151, 152, 153, 154, 155, 156, 157, 158, 159, 160, 161, 162, 163, 164, 165, 166, 167, 168, 169, 170] (by first | exact Eq.refl _ | decide +kernel) (by decide +kernel)
set_option maxRecDepth 20000 in
theorem ggL_law_L_tool_r9 : GoodIn wsL_law wsL_tool_r9 := goodIn_r _ [171, 172, 173, 174, 175, 179, 180, 181, 182, 185, 186, 187, 188, 189, 190, 191, 192, 196, 197, 198, 199, 64, 65, 66] (by first | exact Eq.refl _ | decide +kernel) (by decide +kernel)
set_option maxRecDepth 20000 in
theorem ggL_law_L_tool_r10 : GoodIn wsL_law wsL_tool_r10 := goodIn_r _ [67, 200, 201, 202, 203, 204, 115, 116, 117, 118, 355, 356, 357, 358, 104, 318, 319, 320, 321, 322, 133, 134, 135, 140] (by first | exact Eq.refl _ | decide +kernel) (by decide +kernel)
set_option maxRecDepth 20000 in
theorem ggL_law_L_tool_r11 : GoodIn wsL_law wsL_tool_r11 := goodIn_r _ [92, 93, 94, 95, 272, 273, 274, 275, 276, 277, 278, 279, 264, 280, 281, 282, 283, 284, 285, 286, 287, 288, 289, 290] (by first | exact Eq.refl _ | decide +kernel) (by decide +kernel)
set_option maxRecDepth 20000 in
theorem ggL_law_L_tool_r12 : GoodIn wsL_law wsL_tool_r12 := goodIn_r _ [291, 292, 293, 294, 295, 296, 297, 298, 299, 300, 6, 301, 302, 303, 304, 305, 306, 205, 206, 207, 208, 212, 216, 307] (by first | exact Eq.refl _ | decide +kernel) (by decide +kernel)
set_option maxRecDepth 20000 in
theorem ggL_law_L_tool_r13 : GoodIn wsL_law wsL_tool_r13 := goodIn_r _ [308, 309, 310, 311, 312, 313, 314, 315, 316, 317, 267, 268, 269, 270, 271, 257, 258, 259, 260, 262, 263, 265, 266, 323] (by first | exact Eq.refl _ | decide +kernel) (by decide +kernel)
set_option maxRecDepth 20000 in
theorem ggL_law_L_tool_r14 : GoodIn wsL_law wsL_tool_r14 := goodIn_r _ [324, 325, 326, 327, 328, 329, 330, 331, 332, 333, 334, 340, 341, 342, 343, 344, 345, 346, 347, 348, 349, 350, 351, 123] (by first | exact Eq.refl _ | decide +kernel) (by decide +kernel)
set_option maxRecDepth 20000 in
theorem ggL_law_L_tool_r15 : GoodIn wsL_law wsL_tool_r15 := goodIn_r _ [124, 125, 126, 128, 129, 130, 131, 132] (by first | exact Eq.refl _ | decide +kernel) (by decide +kernel)
set_option maxRecDepth 20000 in
theorem ggL_law_L_tool_wsX30 : GoodIn wsL_law wsX30 := goodIn_r _ [480, 481, 482, 483, 484, 485] (by first | exact Eq.refl _ | decide +kernel) (by decide +kernel)
set_option maxRecDepth 20000 in
theorem ggL_law_L_tool_wsX00 : GoodIn wsL_law wsX00 := goodIn_r _ [486, 487, 488, 489, 490, 491, 492, 493, 494, 495, 496, 497] (by first | exact Eq.refl _ | decide +kernel) (by decide +kernel)
set_option maxRecDepth 20000 in
theorem ggL_law_L_tool_wsX10 : GoodIn wsL_law wsX10 := goodIn_r _ [498, 499] (by first | exact Eq.refl _ | decide +kernel) (by decide +kernel)
set_option maxRecDepth 20000 in
theorem ggL_law_L_tool_wsX20 : GoodIn wsL_law wsX20 := goodIn_r _ [500, 501, 502, 503, 504, 505, 506] (by first | exact Eq.refl _ | decide +kernel) (by decide +kernel)
theorem ggL_law_L_tool : GoodIn wsL_law wsL_tool := goodIn_app (b := ((wsL_tool_r1 ++ (wsL_tool_r2 ++ (wsL_tool_r3 ++ (wsL_tool_r4 ++ (wsL_tool_r5 ++ (wsL_tool_r6 ++ (wsL_tool_r7 ++ (wsL_tool_r8 ++ (wsL_tool_r9 ++ (wsL_tool_r10 ++ (wsL_tool_r11 ++ (wsL_tool_r12 ++ (wsL_tool_r13 ++ (wsL_tool_r14 ++ wsL_tool_r15)))))))))))))) ++ wsX30 ++ wsX00 ++ wsX10 ++ wsX20)) ggL_law_L_tool_c (goodIn_app (goodIn_app (goodIn_app (goodIn_app (goodIn_app ggL_law_L_tool_r1 (goodIn_app ggL_law_L_tool_r2 (goodIn_app ggL_law_L_tool_r3 (goodIn_app ggL_law_L_tool_r4 (goodIn_app ggL_law_L_tool_r5 (goodIn_app ggL_law_L_tool_r6 (goodIn_app ggL_law_L_tool_r7 (goodIn_app ggL_law_L_tool_r8 (goodIn_app ggL_law_L_tool_r9 (goodIn_app ggL_law_L_tool_r10 (goodIn_app ggL_law_L_tool_r11 (goodIn_app ggL_law_L_tool_r12 (goodIn_app ggL_law_L_tool_r13 (goodIn_app ggL_law_L_tool_r14 (ggL_law_L_tool_r15))))))))))))))) ggL_law_L_tool_wsX30) ggL_law_L_tool_wsX00) ggL_law_L_tool_wsX10) ggL_law_L_tool_wsX20)
set_option maxRecDepth 20000 in
theorem gL_law_L_tool : GoodIn wsL_law (va_wsS RL 165 yL_tool wsL_tool) := goodIn_app (goodIn_of _ (by decide +kernel)) ggL_law_L_tool
set_option maxRecDepth 20000 in
set_option maxRecDepth 20000 in
theorem ggL_law_L_texts_c : GoodIn wsL_law [.code yL_texts cL_texts 2 (some .boolean)] := goodIn_r _ [361] (by first | exact Eq.refl _ | decide +kernel) (by decide +kernel)
set_option maxRecDepth 20000 in
theorem ggL_law_L_texts_r1 : GoodIn wsL_law wsL_texts_r1 := goodIn_r _ [362, 363, 364, 365, 366, 367, 368, 369, 370, 371, 372, 373, 374, 375, 376, 377, 378, 379, 0, 1, 2, 380, 381, 382] (by first | exact Eq.refl _ | decide +kernel) (by decide +kernel)
set_option maxRecDepth 20000 in
theorem ggL_law_L_texts_r2 : GoodIn wsL_law wsL_texts_r2 := goodIn_r _ [383, 384, 385, 386, 6, 387, 8, 9, 10, 11, 12, 13, 14, 15, 16, 17, 18, 19, 20, 21, 22, 23, 24, 25] (by first | exact Eq.refl _ | decide +kernel) (by decide +kernel)
set_option maxRecDepth 20000 in
theorem ggL_law_L_texts_r3 : GoodIn wsL_law wsL_texts_r3 := goodIn_r _ [26, 27, 28, 29, 30, 31, 32, 33, 34, 35, 36, 37, 38, 39, 40, 41, 42, 43, 44, 45, 46, 47, 48, 49] (by first | exact Eq.refl _ | decide +kernel) (by decide +kernel)
set_option maxRecDepth 20000 in
theorem ggL_law_L_texts_r4 : GoodIn wsL_law wsL_texts_r4 := goodIn_r _ [50, 51, 52, 53, 54, 55, 56, 57, 58, 59, 388, 389, 390, 391, 392, 393, 394, 395, 396, 397, 398, 399, 204, 200] (by first | exact Eq.refl _ | decide +kernel) (by decide +kernel)
set_option maxRecDepth 20000 in
theorem ggL_law_L_texts_r5 : GoodIn wsL_law wsL_texts_r5 := goodIn_r _ [201, 202, 203, 400, 401, 402, 403, 404, 405, 406, 407, 408, 409, 410, 411, 412, 413, 414, 415, 416, 417, 418, 419, 420] (by first | exact Eq.refl _ | decide +kernel) (by decide +kernel)
set_option maxRecDepth 20000 in
theorem ggL_law_L_texts_r6 : GoodIn wsL_law wsL_texts_r6 := goodIn_r _ [421, 422, 423, 424, 425, 76, 77, 426, 427, 428, 429, 430, 431, 432, 433, 434, 435, 436, 437, 104, 79, 80, 81, 82] (by first | exact Eq.refl _ | decide +kernel) (by decide +kernel)
set_option maxRecDepth 20000 in
theorem ggL_law_L_texts_r7 : GoodIn wsL_law wsL_texts_r7 := goodIn_r _ [83, 84, 85, 86, 87, 88, 89, 90, 91, 438, 439, 440, 441, 442, 443, 444, 445, 446, 447, 448, 449, 450, 451, 452] (by first | exact Eq.refl _ | decide +kernel) (by decide +kernel)
set_option maxRecDepth 20000 in
theorem ggL_law_L_texts_r8 : GoodIn wsL_law wsL_texts_r8 := goodIn_r _ [453, 454, 455, 456, 457, 458, 243, 244, 245, 109, 110, 111, 112, 113, 114, 246, 217, 218, 219, 459, 460, 461, 462, 463] (by first | exact Eq.refl _ | decide +kernel) (by decide +kernel)
set_option maxRecDepth 20000 in
theorem ggL_law_L_texts_r9 : GoodIn wsL_law wsL_texts_r9 := goodIn_r _ [248, 249, 250, 210, 211, 251, 252, 253, 254, 136, 137, 138, 139, 176, 177, 178, 183, 184, 255, 213, 214, 215, 231, 232] (by first | exact Eq.refl _ | decide +kernel) (by decide +kernel)
set_option maxRecDepth 20000 in
theorem ggL_law_L_texts_r10 : GoodIn wsL_law wsL_texts_r10 := goodIn_r _ [233, 234, 235, 236, 96, 97, 98, 99, 100, 101, 102, 103, 72, 73, 74, 75, 78, 105, 106, 107, 108, 144, 145, 146] (by first | exact Eq.refl _ | decide +kernel) (by decide +kernel)
set_option maxRecDepth 20000 in
theorem ggL_law_L_texts_r11 : GoodIn wsL_law wsL_texts_r11 := goodIn_r _ [147, 148, 149, 150, 151, 152, 153, 154, 155, 156, 157, 158, 159, 160, 161, 162, 163, 164, 165, 166, 167, 168, 169, 170] (by first | exact Eq.refl _ | decide +kernel) (by decide +kernel)
set_option maxRecDepth 20000 in
theorem ggL_law_L_texts_r12 : GoodIn wsL_law wsL_texts_r12 := goodIn_r _ [171, 172, 173, 174, 175, 179, 180, 181, 182, 185, 186, 187, 188, 189, 190, 191, 192, 193, 194, 195, 196, 197, 198, 199] (by first | exact Eq.refl _ | decide +kernel) (by decide +kernel)
set_option maxRecDepth 20000 in
theorem ggL_law_L_texts_r13 : GoodIn wsL_law wsL_texts_r13 := goodIn_r _ [64, 65, 66, 67, 464, 465, 466, 467, 468, 469, 470, 471, 272, 273, 274, 275, 261, 276, 277, 278, 279, 264, 256, 280] (by first | exact Eq.refl _ | decide +kernel) (by decide +kernel)
set_option maxRecDepth 20000 in
theorem ggL_law_L_texts_r14 : GoodIn wsL_law wsL_texts_r14 := goodIn_r _ [281, 282, 283, 284, 285, 286, 287, 288, 289, 290, 291, 292, 293, 294, 295, 296, 297, 298] (by first | exact Eq.refl _ | decide +kernel) (by decide +kernel)
set_option maxRecDepth 20000 in
theorem ggL_law_L_texts_wsX30 : GoodIn wsL_law wsX30 := goodIn_r _ [480, 481, 482, 483, 484, 485] (by first | exact Eq.refl _ | decide +kernel) (by decide +kernel)
set_option maxRecDepth 20000 in
theorem ggL_law_L_texts_wsX00 : GoodIn wsL_law wsX00 := goodIn_r _ [486, 487, 488, 489, 490, 491, 492, 493, 494, 495, 496, 497] (by first | exact Eq.refl _ | decide +kernel) (by decide +kernel)
set_option maxRecDepth 20000 in
theorem ggL_law_L_texts_wsX10 : GoodIn wsL_law wsX10 := goodIn_r _ [498, 499] (by first | exact Eq.refl _ | decide +kernel) (by decide +kernel)
set_option maxRecDepth 20000 in
theorem ggL_law_L_texts_wsX20 : GoodIn wsL_law wsX20 := goodIn_r _ [500, 501, 502, 503, 504, 505, 506] (by first | exact Eq.refl _ | decide +kernel) (by decide +kernel)
theorem ggL_law_L_texts : GoodIn wsL_law wsL_texts := goodIn_app (b := ((wsL_texts_r1 ++ (wsL_texts_r2 ++ (wsL_texts_r3 ++ (wsL_texts_r4 ++ (wsL_texts_r5 ++ (wsL_texts_r6 ++ (wsL_texts_r7 ++ (wsL_texts_r8 ++ (wsL_texts_r9 ++ (wsL_texts_r10 ++ (wsL_texts_r11 ++ (wsL_texts_r12 ++ (wsL_texts_r13 ++ wsL_texts_r14))))))))))))) ++ wsX30 ++ wsX00 ++ wsX10 ++ wsX20)) ggL_law_L_texts_c (goodIn_app (goodIn_app (goodIn_app (goodIn_app (goodIn_app ggL_law_L_texts_r1 (goodIn_app ggL_law_L_texts_r2 (goodIn_app ggL_law_L_texts_r3 (goodIn_app ggL_law_L_texts_r4 (goodIn_app ggL_law_L_texts_r5 (goodIn_app ggL_law_L_texts_r6 (goodIn_app ggL_law_L_texts_r7 (goodIn_app ggL_law_L_texts_r8 (goodIn_app ggL_law_L_texts_r9 (goodIn_app ggL_law_L_texts_r10 (goodIn_app ggL_law_L_texts_r11 (goodIn_app ggL_law_L_texts_r12 (goodIn_app ggL_law_L_texts_r13 (ggL_law_L_texts_r14)))))))))))))) ggL_law_L_texts_wsX30) ggL_law_L_texts_wsX00) ggL_law_L_texts_wsX10) ggL_law_L_texts_wsX20)
set_option maxRecDepth 20000 in
theorem gL_law_L_texts : GoodIn wsL_law (va_wsS RL 168 yL_texts wsL_texts) := goodIn_app (goodIn_of _ (by decide +kernel)) ggL_law_L_texts
set_option maxRecDepth 20000 in
theorem ggL_law_X3_init : GoodIn wsL_law wsX3_init := goodIn_r _ [10, 11, 12, 13, 14, 15, 16, 17, 18, 19, 20, 21, 22, 23, 24, 25, 26, 27, 28, 29, 30, 31, 32, 33, 34, 35, 36, 37, 38, 39, 40, 41, 42, 43, 44, 45, 46, 47, 48, 49, 50, 51, 52, 53, 54, 55, 56, 57, 58, 59, 486, 487, 488, 489, 490, 491, 492, 493, 494, 495, 496, 497, 480, 481, 482, 483, 484, 485, 498, 499, 500, 501, 502, 503, 504, 505, 506] (by decide +kernel) (by decide +kernel)
set_option maxRecDepth 20000 in
theorem gL_law_X3_init : GoodIn wsL_law (wsX3_init) := ggL_law_X3_init
set_option maxRecDepth 20000 in
set_option maxRecDepth 20000 in
theorem ggL_law_X3_lay_c : GoodIn wsL_law [.code yX3_lay cX3_lay 5 (some .int)] := goodIn_r _ [240] (by first | exact Eq.refl _ | decide +kernel) (by decide +kernel)
set_option maxRecDepth 20000 in
theorem ggL_law_X3_lay_r1 : GoodIn wsL_law wsX3_lay_r1 := goodIn_r _ [17, 24, 241, 113, 2, 114, 209, 210, 211, 224, 225, 226, 127, 76, 77, 242, 243, 244, 16, 245, 89, 87, 109, 110] (by first | exact Eq.refl _ | decide +kernel) (by decide +kernel)
set_option maxRecDepth 20000 in
theorem ggL_law_X3_lay_r2 : GoodIn wsL_law wsX3_lay_r2 := goodIn_r _ [111, 112, 35, 246, 217, 218, 219, 96, 97, 98, 23, 99, 50, 100, 101, 102, 103, 49, 72, 73, 74, 75, 78, 79] (by first | exact Eq.refl _ | decide +kernel) (by decide +kernel)
set_option maxRecDepth 20000 in
theorem ggL_law_X3_lay_r3 : GoodIn wsL_law wsX3_lay_r3 := goodIn_r _ [80, 81, 34, 82, 83, 84, 85, 36, 37, 38, 86, 39, 88, 90, 91, 247, 248, 249, 250, 251, 252, 253, 254, 136] (by first | exact Eq.refl _ | decide +kernel) (by decide +kernel)
set_option maxRecDepth 20000 in
theorem ggL_law_X3_lay_r4 : GoodIn wsL_law wsX3_lay_r4 := goodIn_r _ [137, 138, 139, 176, 177, 178, 183, 184, 255, 213, 214, 215, 231, 232, 233, 234, 235, 236, 256, 193, 194, 195] (by first | exact Eq.refl _ | decide +kernel) (by decide +kernel)
set_option maxRecDepth 20000 in
theorem ggL_law_X3_lay_wsX30 : GoodIn wsL_law wsX30 := goodIn_r _ [480, 481, 482, 483, 484, 485] (by first | exact Eq.refl _ | decide +kernel) (by decide +kernel)
set_option maxRecDepth 20000 in
theorem ggL_law_X3_lay_wsX00 : GoodIn wsL_law wsX00 := goodIn_r _ [486, 487, 488, 489, 490, 491, 492, 493, 494, 495, 496, 497] (by first | exact Eq.refl _ | decide +kernel) (by decide +kernel)
set_option maxRecDepth 20000 in
theorem ggL_law_X3_lay_wsX10 : GoodIn wsL_law wsX10 := goodIn_r _ [498, 499] (by first | exact Eq.refl _ | decide +kernel) (by decide +kernel)
theorem ggL_law_X3_lay : GoodIn wsL_law wsX3_lay := goodIn_app (b := ((wsX3_lay_r1 ++ (wsX3_lay_r2 ++ (wsX3_lay_r3 ++ wsX3_lay_r4))) ++ wsX30 ++ wsX00 ++ wsX10)) ggL_law_X3_lay_c (goodIn_app (goodIn_app (goodIn_app (goodIn_app ggL_law_X3_lay_r1 (goodIn_app ggL_law_X3_lay_r2 (goodIn_app ggL_law_X3_lay_r3 (ggL_law_X3_lay_r4)))) ggL_law_X3_lay_wsX30) ggL_law_X3_lay_wsX00) ggL_law_X3_lay_wsX10)
set_option maxRecDepth 20000 in
theorem gL_law_X3_lay : GoodIn wsL_law (wsV RL 29 RX3 yX3_lay wsX3_lay) := goodIn_app (goodIn_of _ (by decide +kernel)) ggL_law_X3_lay
set_option maxRecDepth 20000 in
theorem ggL_law_X3_keep : GoodIn wsL_law wsX3_keep := goodIn_r _ [358, 19, 17, 20, 104, 79, 80, 16, 81, 34, 82, 83, 84, 85, 35, 36, 37, 38, 86, 39, 87, 88, 89, 90, 91, 105, 106, 107, 108, 109, 110, 111, 112, 113, 2, 114, 480, 481, 482, 483, 484, 485, 486, 487, 488, 489, 490, 491, 492, 493, 494, 495, 496, 497] (by decide +kernel) (by decide +kernel)
set_option maxRecDepth 20000 in
theorem gL_law_X3_keep : GoodIn wsL_law (wsV RL 92 RX3 yX3_keep wsX3_keep) := goodIn_app (goodIn_of _ (by decide +kernel)) ggL_law_X3_keep
set_option maxRecDepth 20000 in
set_option maxRecDepth 20000 in
theorem ggL_law_L_seen_c : GoodIn wsL_law [.code yL_seen cL_seen 4 (some .long)] := goodIn_r _ [304] (by first | exact Eq.refl _ | decide +kernel) (by decide +kernel)
set_option maxRecDepth 20000 in
theorem ggL_law_L_seen_r1 : GoodIn wsL_law wsL_seen_r1 := goodIn_r _ [305, 306, 144, 145, 146, 2, 147, 17, 24, 28, 105, 106, 107, 16, 108, 109, 110, 111, 112, 35, 113, 114, 148, 149] (by first | exact Eq.refl _ | decide +kernel) (by decide +kernel)
set_option maxRecDepth 20000 in
theorem ggL_law_L_seen_r2 : GoodIn wsL_law wsL_seen_r2 := goodIn_r _ [150, 151, 152, 153, 154, 155, 156, 157, 158, 159, 34, 160, 161, 162, 163, 164, 165, 166, 167, 36, 168, 169, 170, 171] (by first | exact Eq.refl _ | decide +kernel) (by decide +kernel)
set_option maxRecDepth 20000 in
theorem ggL_law_L_seen_r3 : GoodIn wsL_law wsL_seen_r3 := goodIn_r _ [39, 172, 173, 174, 175, 176, 177, 138, 178, 179, 180, 181, 182, 183, 184, 185, 186, 187, 188, 189, 190, 191, 37, 192] (by first | exact Eq.refl _ | decide +kernel) (by decide +kernel)
set_option maxRecDepth 20000 in
theorem ggL_law_L_seen_r4 : GoodIn wsL_law wsL_seen_r4 := goodIn_r _ [193, 194, 195, 196, 197, 198, 199, 64, 65, 66, 23, 67, 50, 200, 201, 202, 27, 203, 204, 272, 273, 274, 275, 261] (by first | exact Eq.refl _ | decide +kernel) (by decide +kernel)
set_option maxRecDepth 20000 in
theorem ggL_law_L_seen_r5 : GoodIn wsL_law wsL_seen_r5 := goodIn_r _ [276, 277, 278, 279, 264, 256, 280, 281, 282, 283, 284, 285, 286, 287, 288, 289, 290, 291, 292, 293, 294, 295, 296, 297] (by first | exact Eq.refl _ | decide +kernel) (by decide +kernel)
set_option maxRecDepth 20000 in
theorem ggL_law_L_seen_r6 : GoodIn wsL_law wsL_seen_r6 := goodIn_r _ [298, 38, 205, 206, 207, 208, 209, 210, 211, 212, 213, 214, 215, 216, 217, 218, 219, 220, 221, 222, 223, 224, 225, 226] (by first | exact Eq.refl _ | decide +kernel) (by decide +kernel)
set_option maxRecDepth 20000 in
theorem ggL_law_L_seen_r7 : GoodIn wsL_law wsL_seen_r7 := goodIn_r _ [127, 76, 77, 227, 228, 229, 230, 87, 89, 86, 231, 232, 233, 234, 235, 236] (by first | exact Eq.refl _ | decide +kernel) (by decide +kernel)
set_option maxRecDepth 20000 in
theorem ggL_law_L_seen_wsX30 : GoodIn wsL_law wsX30 := goodIn_r _ [480, 481, 482, 483, 484, 485] (by first | exact Eq.refl _ | decide +kernel) (by decide +kernel)
set_option maxRecDepth 20000 in
theorem ggL_law_L_seen_wsX00 : GoodIn wsL_law wsX00 := goodIn_r _ [486, 487, 488, 489, 490, 491, 492, 493, 494, 495, 496, 497] (by first | exact Eq.refl _ | decide +kernel) (by decide +kernel)
set_option maxRecDepth 20000 in
theorem ggL_law_L_seen_wsX10 : GoodIn wsL_law wsX10 := goodIn_r _ [498, 499] (by first | exact Eq.refl _ | decide +kernel) (by decide +kernel)
set_option maxRecDepth 20000 in
theorem ggL_law_L_seen_wsX20 : GoodIn wsL_law wsX20 := goodIn_r _ [500, 501, 502, 503, 504, 505, 506] (by first | exact Eq.refl _ | decide +kernel) (by decide +kernel)
theorem ggL_law_L_seen : GoodIn wsL_law wsL_seen := goodIn_app (b := ((wsL_seen_r1 ++ (wsL_seen_r2 ++ (wsL_seen_r3 ++ (wsL_seen_r4 ++ (wsL_seen_r5 ++ (wsL_seen_r6 ++ wsL_seen_r7)))))) ++ wsX30 ++ wsX00 ++ wsX10 ++ wsX20)) ggL_law_L_seen_c (goodIn_app (goodIn_app (goodIn_app (goodIn_app (goodIn_app ggL_law_L_seen_r1 (goodIn_app ggL_law_L_seen_r2 (goodIn_app ggL_law_L_seen_r3 (goodIn_app ggL_law_L_seen_r4 (goodIn_app ggL_law_L_seen_r5 (goodIn_app ggL_law_L_seen_r6 (ggL_law_L_seen_r7))))))) ggL_law_L_seen_wsX30) ggL_law_L_seen_wsX00) ggL_law_L_seen_wsX10) ggL_law_L_seen_wsX20)
set_option maxRecDepth 20000 in
theorem gL_law_L_seen : GoodIn wsL_law (va_wsS RL 62 yL_seen wsL_seen) := goodIn_app (goodIn_of _ (by decide +kernel)) ggL_law_L_seen
set_option maxRecDepth 20000 in
theorem ggL_law_L_drawn : GoodIn wsL_law wsL_drawn := goodIn_r _ [474, 475] (by decide +kernel) (by decide +kernel)
set_option maxRecDepth 20000 in
theorem gL_law_L_drawn : GoodIn wsL_law (va_wsS RL 171 yL_drawn wsL_drawn) := goodIn_app (goodIn_of _ (by decide +kernel)) ggL_law_L_drawn
set_option maxRecDepth 20000 in
theorem ggL_law_L_part : GoodIn wsL_law wsL_part := goodIn_r _ [478, 479] (by decide +kernel) (by decide +kernel)
set_option maxRecDepth 20000 in
theorem gL_law_L_part : GoodIn wsL_law (va_wsS RL 175 yL_part wsL_part) := goodIn_app (goodIn_of _ (by decide +kernel)) ggL_law_L_part
set_option maxRecDepth 20000 in
set_option maxRecDepth 20000 in
theorem ggL_law_X3_count_c : GoodIn wsL_law [.code yX3_count cX3_count 2 (some .int)] := goodIn_r _ [147] (by first | exact Eq.refl _ | decide +kernel) (by decide +kernel)
set_option maxRecDepth 20000 in
theorem ggL_law_X3_count_r1 : GoodIn wsL_law wsX3_count_r1 := goodIn_r _ [17, 24, 28, 105, 106, 107, 16, 108, 109, 110, 111, 112, 35, 113, 2, 114, 148, 149, 150, 151, 152, 153, 154, 155] (by first | exact Eq.refl _ | decide +kernel) (by decide +kernel)
set_option maxRecDepth 20000 in
theorem ggL_law_X3_count_r2 : GoodIn wsL_law wsX3_count_r2 := goodIn_r _ [156, 157, 158, 159, 34, 160, 161, 162, 163, 164, 165, 166, 167, 36, 168, 169, 170, 171, 39, 172, 173, 174, 175, 176] (by first | exact Eq.refl _ | decide +kernel) (by decide +kernel)
set_option maxRecDepth 20000 in
theorem ggL_law_X3_count_r3 : GoodIn wsL_law wsX3_count_r3 := goodIn_r _ [177, 138, 178, 179, 180, 181, 182, 183, 184, 185, 186, 187, 188, 189, 190, 191, 37, 192, 193, 194, 195, 196, 197, 198] (by first | exact Eq.refl _ | decide +kernel) (by decide +kernel)
set_option maxRecDepth 20000 in
theorem ggL_law_X3_count_r4 : GoodIn wsL_law wsX3_count_r4 := goodIn_r _ [199, 64, 65, 66, 23, 67, 50, 200, 201, 202, 27, 203, 204] (by first | exact Eq.refl _ | decide +kernel) (by decide +kernel)
set_option maxRecDepth 20000 in
theorem ggL_law_X3_count_wsX30 : GoodIn wsL_law wsX30 := goodIn_r _ [480, 481, 482, 483, 484, 485] (by first | exact Eq.refl _ | decide +kernel) (by decide +kernel)
set_option maxRecDepth 20000 in
theorem ggL_law_X3_count_wsX00 : GoodIn wsL_law wsX00 := goodIn_r _ [486, 487, 488, 489, 490, 491, 492, 493, 494, 495, 496, 497] (by first | exact Eq.refl _ | decide +kernel) (by decide +kernel)
set_option maxRecDepth 20000 in
theorem ggL_law_X3_count_wsX10 : GoodIn wsL_law wsX10 := goodIn_r _ [498, 499] (by first | exact Eq.refl _ | decide +kernel) (by decide +kernel)
set_option maxRecDepth 20000 in
theorem ggL_law_X3_count_wsX20 : GoodIn wsL_law wsX20 := goodIn_r _ [500, 501, 502, 503, 504, 505, 506] (by first | exact Eq.refl _ | decide +kernel) (by decide +kernel)
theorem ggL_law_X3_count : GoodIn wsL_law wsX3_count := goodIn_app (b := ((wsX3_count_r1 ++ (wsX3_count_r2 ++ (wsX3_count_r3 ++ wsX3_count_r4))) ++ wsX30 ++ wsX00 ++ wsX10 ++ wsX20)) ggL_law_X3_count_c (goodIn_app (goodIn_app (goodIn_app (goodIn_app (goodIn_app ggL_law_X3_count_r1 (goodIn_app ggL_law_X3_count_r2 (goodIn_app ggL_law_X3_count_r3 (ggL_law_X3_count_r4)))) ggL_law_X3_count_wsX30) ggL_law_X3_count_wsX00) ggL_law_X3_count_wsX10) ggL_law_X3_count_wsX20)
set_option maxRecDepth 20000 in
theorem gL_law_X3_count : GoodIn wsL_law (wsV RL 13 RX3 yX3_count wsX3_count) := goodIn_app (goodIn_of _ (by decide +kernel)) ggL_law_X3_count
set_option maxRecDepth 20000 in
theorem ggL_law_X3_takeOff : GoodIn wsL_law wsX3_takeOff := goodIn_r _ [338, 17, 24, 261, 110, 111, 16, 112, 35, 113, 2, 114, 96, 97, 98, 23, 99, 50, 100, 101, 102, 103, 49, 72, 73, 74, 75, 76, 77, 78, 79, 80, 81, 34, 82, 83, 84, 85, 36, 37, 38, 86, 39, 87, 88, 89, 90, 91, 256, 193, 194, 195, 339, 141, 142, 143, 480, 481, 482, 483, 484, 485, 486, 487, 488, 489, 490, 491, 492, 493, 494, 495, 496, 497, 498, 499] (by decide +kernel) (by decide +kernel)
set_option maxRecDepth 20000 in
theorem gL_law_X3_takeOff : GoodIn wsL_law (wsV RL 35 RX3 yX3_takeOff wsX3_takeOff) := goodIn_app (goodIn_of _ (by decide +kernel)) ggL_law_X3_takeOff
set_option maxRecDepth 20000 in
theorem ggL_law_X3_bend : GoodIn wsL_law wsX3_bend := goodIn_r _ [313, 17, 24, 261, 110, 111, 16, 112, 35, 113, 2, 114, 224, 225, 226, 127, 76, 77, 264, 165, 166, 167, 36, 96, 97, 98, 23, 99, 50, 100, 101, 102, 103, 49, 72, 73, 74, 75, 78, 79, 80, 81, 34, 82, 83, 84, 85, 37, 38, 86, 39, 87, 88, 89, 90, 91, 314, 315, 316, 317, 480, 481, 482, 483, 484, 485, 486, 487, 488, 489, 490, 491, 492, 493, 494, 495, 496, 497, 498, 499] (by decide +kernel) (by decide +kernel)
set_option maxRecDepth 20000 in
theorem gL_law_X3_bend : GoodIn wsL_law (wsV RL 38 RX3 yX3_bend wsX3_bend) := goodIn_app (goodIn_of _ (by decide +kernel)) ggL_law_X3_bend
set_option maxRecDepth 20000 in
theorem ggL_law_X3_moveLead : GoodIn wsL_law wsX3_moveLead := goodIn_r _ [343, 17, 24, 209, 210, 2, 211, 127, 76, 77, 216, 217, 218, 16, 219, 35, 109, 110, 111, 112, 113, 114, 212, 213, 214, 215, 34, 96, 97, 98, 23, 99, 50, 100, 101, 102, 103, 49, 72, 73, 74, 75, 78, 79, 80, 81, 82, 83, 84, 85, 36, 37, 38, 86, 39, 87, 88, 89, 90, 91, 344, 345, 346, 347, 480, 481, 482, 483, 484, 485, 486, 487, 488, 489, 490, 491, 492, 493, 494, 495, 496, 497, 498, 499] (by decide +kernel) (by decide +kernel)
set_option maxRecDepth 20000 in
theorem gL_law_X3_moveLead : GoodIn wsL_law (wsV RL 41 RX3 yX3_moveLead wsX3_moveLead) := goodIn_app (goodIn_of _ (by decide +kernel)) ggL_law_X3_moveLead
set_option maxRecDepth 20000 in
theorem ggL_law_X3_setWidth : GoodIn wsL_law wsX3_setWidth := goodIn_r _ [351, 17, 24, 127, 76, 2, 77, 96, 97, 98, 23, 99, 50, 100, 101, 102, 103, 49, 72, 73, 74, 75, 78, 79, 80, 16, 81, 34, 82, 83, 84, 85, 35, 36, 37, 38, 86, 39, 87, 88, 89, 90, 91, 480, 481, 482, 483, 484, 485, 486, 487, 488, 489, 490, 491, 492, 493, 494, 495, 496, 497, 498, 499] (by decide +kernel) (by decide +kernel)
set_option maxRecDepth 20000 in
theorem gL_law_X3_setWidth : GoodIn wsL_law (wsV RL 44 RX3 yX3_setWidth wsX3_setWidth) := goodIn_app (goodIn_of _ (by decide +kernel)) ggL_law_X3_setWidth
set_option maxRecDepth 20000 in
theorem ggL_law_X3_changeTool : GoodIn wsL_law wsX3_changeTool := goodIn_r _ [118, 17, 24, 96, 97, 98, 23, 99, 50, 100, 101, 102, 103, 49, 72, 73, 74, 75, 76, 2, 77, 78, 79, 80, 16, 81, 34, 82, 83, 84, 85, 35, 36, 37, 38, 86, 39, 87, 88, 89, 90, 91, 480, 481, 482, 483, 484, 485, 486, 487, 488, 489, 490, 491, 492, 493, 494, 495, 496, 497, 498, 499] (by decide +kernel) (by decide +kernel)
set_option maxRecDepth 20000 in
theorem gL_law_X3_changeTool : GoodIn wsL_law (wsV RL 82 RX3 yX3_changeTool wsX3_changeTool) := goodIn_app (goodIn_of _ (by decide +kernel)) ggL_law_X3_changeTool
set_option maxRecDepth 20000 in
theorem ggL_law_X3_thread : GoodIn wsL_law wsX3_thread := goodIn_r _ [122, 17, 24, 96, 97, 98, 23, 99, 50, 100, 101, 102, 103, 49, 72, 73, 74, 75, 76, 2, 77, 78, 79, 80, 16, 81, 34, 82, 83, 84, 85, 35, 36, 37, 38, 86, 39, 87, 88, 89, 90, 91, 480, 481, 482, 483, 484, 485, 486, 487, 488, 489, 490, 491, 492, 493, 494, 495, 496, 497, 498, 499] (by decide +kernel) (by decide +kernel)
set_option maxRecDepth 20000 in
theorem gL_law_X3_thread : GoodIn wsL_law (wsV RL 85 RX3 yX3_thread wsX3_thread) := goodIn_app (goodIn_of _ (by decide +kernel)) ggL_law_X3_thread
set_option maxRecDepth 20000 in
theorem ggL_law_X3_pull : GoodIn wsL_law wsX3_pull := goodIn_r _ [321, 17, 24, 261, 110, 111, 16, 112, 35, 113, 2, 114, 127, 76, 77, 96, 97, 98, 23, 99, 50, 100, 101, 102, 103, 49, 72, 73, 74, 75, 78, 79, 80, 81, 34, 82, 83, 84, 85, 36, 37, 38, 86, 39, 87, 88, 89, 90, 91, 322, 133, 134, 135, 136, 137, 138, 139, 109, 140, 141, 142, 143, 256, 193, 194, 195, 480, 481, 482, 483, 484, 485, 486, 487, 488, 489, 490, 491, 492, 493, 494, 495, 496, 497, 498, 499] (by decide +kernel) (by decide +kernel)
set_option maxRecDepth 20000 in
theorem gL_law_X3_pull : GoodIn wsL_law (wsV RL 47 RX3 yX3_pull wsX3_pull) := goodIn_app (goodIn_of _ (by decide +kernel)) ggL_law_X3_pull
set_option maxRecDepth 20000 in
theorem ggL_law_X3_sample : GoodIn wsL_law wsX3_sample := goodIn_r _ [126, 17, 24, 127, 76, 2, 77, 105, 106, 107, 16, 108, 109, 110, 111, 112, 35, 113, 114, 96, 97, 98, 23, 99, 50, 100, 101, 102, 103, 49, 72, 73, 74, 75, 78, 79, 80, 81, 34, 82, 83, 84, 85, 36, 37, 38, 86, 39, 87, 88, 89, 90, 91, 128, 129, 130, 131, 132, 133, 134, 135, 136, 137, 138, 139, 140, 141, 142, 143, 480, 481, 482, 483, 484, 485, 486, 487, 488, 489, 490, 491, 492, 493, 494, 495, 496, 497, 498, 499] (by decide +kernel) (by decide +kernel)
set_option maxRecDepth 20000 in
theorem gL_law_X3_sample : GoodIn wsL_law (wsV RL 50 RX3 yX3_sample wsX3_sample) := goodIn_app (goodIn_of _ (by decide +kernel)) ggL_law_X3_sample
set_option maxRecDepth 20000 in
theorem ggL_law_X3_restore : GoodIn wsL_law wsX3_restore := goodIn_r _ [95, 20, 24, 17, 19, 96, 97, 98, 23, 99, 50, 100, 101, 102, 103, 49, 72, 73, 74, 75, 76, 2, 77, 78, 79, 80, 16, 81, 34, 82, 83, 84, 85, 35, 36, 37, 38, 86, 39, 87, 88, 89, 90, 91, 104, 105, 106, 107, 108, 109, 110, 111, 112, 113, 114, 480, 481, 482, 483, 484, 485, 498, 499, 486, 487, 488, 489, 490, 491, 492, 493, 494, 495, 496, 497] (by decide +kernel) (by decide +kernel)
set_option maxRecDepth 20000 in
theorem gL_law_X3_restore : GoodIn wsL_law (wsV RL 79 RX3 yX3_restore wsX3_restore) := goodIn_app (goodIn_of _ (by decide +kernel)) ggL_law_X3_restore
set_option maxRecDepth 20000 in
set_option maxRecDepth 20000 in
theorem ggL_law_L_refused_c : GoodIn wsL_law [.code yL_refused cL_refused 6 (some .boolean)] := goodIn_r _ [301] (by first | exact Eq.refl _ | decide +kernel) (by decide +kernel)
set_option maxRecDepth 20000 in
theorem ggL_law_L_refused_r1 : GoodIn wsL_law wsL_refused_r1 := goodIn_r _ [302, 303, 6, 304, 305, 306, 144, 145, 146, 2, 147, 17, 24, 28, 105, 106, 107, 16, 108, 109, 110, 111, 112, 35] (by first | exact Eq.refl _ | decide +kernel) (by decide +kernel)
set_option maxRecDepth 20000 in
theorem ggL_law_L_refused_r2 : GoodIn wsL_law wsL_refused_r2 := goodIn_r _ [113, 114, 148, 149, 150, 151, 152, 153, 154, 155, 156, 157, 158, 159, 34, 160, 161, 162, 163, 164, 165, 166, 167, 36] (by first | exact Eq.refl _ | decide +kernel) (by decide +kernel)
set_option maxRecDepth 20000 in
theorem ggL_law_L_refused_r3 : GoodIn wsL_law wsL_refused_r3 := goodIn_r _ [168, 169, 170, 171, 39, 172, 173, 174, 175, 176, 177, 138, 178, 179, 180, 181, 182, 183, 184, 185, 186, 187, 188, 189] (by first | exact Eq.refl _ | decide +kernel) (by decide +kernel)
set_option maxRecDepth 20000 in
theorem ggL_law_L_refused_r4 : GoodIn wsL_law wsL_refused_r4 := goodIn_r _ [190, 191, 37, 192, 193, 194, 195, 196, 197, 198, 199, 64, 65, 66, 23, 67, 50, 200, 201, 202, 27, 203, 204, 272] (by first | exact Eq.refl _ | decide +kernel) (by decide +kernel)
set_option maxRecDepth 20000 in
theorem ggL_law_L_refused_r5 : GoodIn wsL_law wsL_refused_r5 := goodIn_r _ [273, 274, 275, 261, 276, 277, 278, 279, 264, 256, 280, 281, 282, 283, 284, 285, 286, 287, 288, 289, 290, 291, 292, 293] (by first | exact Eq.refl _ | decide +kernel) (by decide +kernel)
set_option maxRecDepth 20000 in
theorem ggL_law_L_refused_r6 : GoodIn wsL_law wsL_refused_r6 := goodIn_r _ [294, 295, 296, 297, 298, 38, 205, 206, 207, 208, 209, 210, 211, 212, 213, 214, 215, 216, 217, 218, 219, 220, 221, 222] (by first | exact Eq.refl _ | decide +kernel) (by decide +kernel)
set_option maxRecDepth 20000 in
theorem ggL_law_L_refused_r7 : GoodIn wsL_law wsL_refused_r7 := goodIn_r _ [223, 224, 225, 226, 127, 76, 77, 227, 228, 229, 230, 87, 89, 86, 231, 232, 233, 234, 235, 236, 307, 308, 309, 310] (by first | exact Eq.refl _ | decide +kernel) (by decide +kernel)
set_option maxRecDepth 20000 in
theorem ggL_law_L_refused_r8 : GoodIn wsL_law wsL_refused_r8 := goodIn_r _ [311, 312, 313, 96, 97, 98, 99, 100, 101, 102, 103, 49, 72, 73, 74, 75, 78, 79, 80, 81, 82, 83, 84, 85] (by first | exact Eq.refl _ | decide +kernel) (by decide +kernel)
set_option maxRecDepth 20000 in
theorem ggL_law_L_refused_r9 : GoodIn wsL_law wsL_refused_r9 := goodIn_r _ [88, 90, 91, 314, 315, 316, 317, 318, 319, 320, 321, 322, 133, 134, 135, 136, 137, 139, 140, 141, 142, 143, 267, 268] (by first | exact Eq.refl _ | decide +kernel) (by decide +kernel)
set_option maxRecDepth 20000 in
theorem ggL_law_L_refused_r10 : GoodIn wsL_law wsL_refused_r10 := goodIn_r _ [269, 270, 271, 257, 258, 259, 260, 262, 263, 265, 266, 323, 324, 325, 326, 327, 328, 329, 330, 331, 332, 333, 334, 237] (by first | exact Eq.refl _ | decide +kernel) (by decide +kernel)
set_option maxRecDepth 20000 in
theorem ggL_law_L_refused_r11 : GoodIn wsL_law wsL_refused_r11 := goodIn_r _ [238, 239, 240, 241, 242, 243, 244, 245, 246, 247, 248, 249, 250, 251, 252, 253, 254, 255, 335, 336, 337, 338, 339, 340] (by first | exact Eq.refl _ | decide +kernel) (by decide +kernel)
set_option maxRecDepth 20000 in
theorem ggL_law_L_refused_r12 : GoodIn wsL_law wsL_refused_r12 := goodIn_r _ [341, 342, 343, 344, 345, 346, 347, 348, 349, 350, 351, 123, 124, 125, 126, 128, 129, 130, 131, 132] (by first | exact Eq.refl _ | decide +kernel) (by decide +kernel)
set_option maxRecDepth 20000 in
theorem ggL_law_L_refused_wsX30 : GoodIn wsL_law wsX30 := goodIn_r _ [480, 481, 482, 483, 484, 485] (by first | exact Eq.refl _ | decide +kernel) (by decide +kernel)
set_option maxRecDepth 20000 in
theorem ggL_law_L_refused_wsX00 : GoodIn wsL_law wsX00 := goodIn_r _ [486, 487, 488, 489, 490, 491, 492, 493, 494, 495, 496, 497] (by first | exact Eq.refl _ | decide +kernel) (by decide +kernel)
set_option maxRecDepth 20000 in
theorem ggL_law_L_refused_wsX10 : GoodIn wsL_law wsX10 := goodIn_r _ [498, 499] (by first | exact Eq.refl _ | decide +kernel) (by decide +kernel)
set_option maxRecDepth 20000 in
theorem ggL_law_L_refused_wsX20 : GoodIn wsL_law wsX20 := goodIn_r _ [500, 501, 502, 503, 504, 505, 506] (by first | exact Eq.refl _ | decide +kernel) (by decide +kernel)
theorem ggL_law_L_refused : GoodIn wsL_law wsL_refused := goodIn_app (b := ((wsL_refused_r1 ++ (wsL_refused_r2 ++ (wsL_refused_r3 ++ (wsL_refused_r4 ++ (wsL_refused_r5 ++ (wsL_refused_r6 ++ (wsL_refused_r7 ++ (wsL_refused_r8 ++ (wsL_refused_r9 ++ (wsL_refused_r10 ++ (wsL_refused_r11 ++ wsL_refused_r12))))))))))) ++ wsX30 ++ wsX00 ++ wsX10 ++ wsX20)) ggL_law_L_refused_c (goodIn_app (goodIn_app (goodIn_app (goodIn_app (goodIn_app ggL_law_L_refused_r1 (goodIn_app ggL_law_L_refused_r2 (goodIn_app ggL_law_L_refused_r3 (goodIn_app ggL_law_L_refused_r4 (goodIn_app ggL_law_L_refused_r5 (goodIn_app ggL_law_L_refused_r6 (goodIn_app ggL_law_L_refused_r7 (goodIn_app ggL_law_L_refused_r8 (goodIn_app ggL_law_L_refused_r9 (goodIn_app ggL_law_L_refused_r10 (goodIn_app ggL_law_L_refused_r11 (ggL_law_L_refused_r12)))))))))))) ggL_law_L_refused_wsX30) ggL_law_L_refused_wsX00) ggL_law_L_refused_wsX10) ggL_law_L_refused_wsX20)
set_option maxRecDepth 20000 in
theorem gL_law_L_refused : GoodIn wsL_law (va_wsS RL 88 yL_refused wsL_refused) := goodIn_app (goodIn_of _ (by decide +kernel)) ggL_law_L_refused
set_option maxRecDepth 20000 in
theorem ggL_law_X3_undo : GoodIn wsL_law wsX3_undo := goodIn_r _ [63, 24, 17, 64, 65, 66, 23, 67, 50, 68, 69, 70, 71, 72, 73, 74, 75, 49, 76, 2, 77, 78, 79, 80, 16, 81, 34, 82, 83, 84, 85, 35, 36, 37, 38, 86, 39, 87, 88, 89, 90, 91, 480, 481, 482, 483, 484, 485, 498, 499, 486, 487, 488, 489, 490, 491, 492, 493, 494, 495, 496, 497] (by decide +kernel) (by decide +kernel)
set_option maxRecDepth 20000 in
theorem gL_law_X3_undo : GoodIn wsL_law (wsV RL 75 RX3 yX3_undo wsX3_undo) := goodIn_app (goodIn_of _ (by decide +kernel)) ggL_law_X3_undo
theorem dL_law_0 : decode cL_law 0 = .ok (.invokestatic 161, 3) := by decide +kernel
theorem dL_law_3 : decode cL_law 3 = .ok (.ifCond .eq 15, 3) := by decide +kernel
theorem dL_law_6 : decode cL_law 6 = .ok (.invokestatic 165, 3) := by decide +kernel
theorem dL_law_9 : decode cL_law 9 = .ok (.ifCond .eq 9, 3) := by decide +kernel
theorem dL_law_12 : decode cL_law 12 = .ok (.invokestatic 168, 3) := by decide +kernel
theorem dL_law_15 : decode cL_law 15 = .ok (.ifCond .ne 5, 3) := by decide +kernel
theorem dL_law_18 : decode cL_law 18 = .ok (.iconst 0, 1) := by decide +kernel
theorem dL_law_19 : decode cL_law 19 = .ok (.ireturn, 1) := by decide +kernel
theorem dL_law_20 : decode cL_law 20 = .ok (.new 14, 3) := by decide +kernel
theorem dL_law_23 : decode cL_law 23 = .ok (.dup, 1) := by decide +kernel
theorem dL_law_24 : decode cL_law 24 = .ok (.invokespecial 74, 3) := by decide +kernel
theorem dL_law_27 : decode cL_law 27 = .ok (.astore_n 1, 1) := by decide +kernel
theorem dL_law_28 : decode cL_law 28 = .ok (.bipush 64, 2) := by decide +kernel
theorem dL_law_30 : decode cL_law 30 = .ok (.newarray .long, 2) := by decide +kernel
theorem dL_law_32 : decode cL_law 32 = .ok (.astore_n 2, 1) := by decide +kernel
theorem dL_law_33 : decode cL_law 33 = .ok (.iconst 0, 1) := by decide +kernel
theorem dL_law_34 : decode cL_law 34 = .ok (.istore_n 3, 1) := by decide +kernel
theorem dL_law_35 : decode cL_law 35 = .ok (.aload_n 1, 1) := by decide +kernel
theorem dL_law_36 : decode cL_law 36 = .ok (.iconst 4, 1) := by decide +kernel
theorem dL_law_37 : decode cL_law 37 = .ok (.bipush 7, 2) := by decide +kernel
theorem dL_law_39 : decode cL_law 39 = .ok (.bipush 80, 2) := by decide +kernel
theorem dL_law_41 : decode cL_law 41 = .ok (.invokevirtual 29, 3) := by decide +kernel
theorem dL_law_44 : decode cL_law 44 = .ok (.bipush 95, 2) := by decide +kernel
theorem dL_law_46 : decode cL_law 46 = .ok (.if_icmp .ne 11, 3) := by decide +kernel
theorem dL_law_49 : decode cL_law 49 = .ok (.aload_n 1, 1) := by decide +kernel
theorem dL_law_50 : decode cL_law 50 = .ok (.invokevirtual 92, 3) := by decide +kernel
theorem dL_law_53 : decode cL_law 53 = .ok (.iconst 1, 1) := by decide +kernel
theorem dL_law_54 : decode cL_law 54 = .ok (.if_icmp .eq 5, 3) := by decide +kernel
theorem dL_law_57 : decode cL_law 57 = .ok (.iconst 0, 1) := by decide +kernel
theorem dL_law_58 : decode cL_law 58 = .ok (.ireturn, 1) := by decide +kernel
theorem dL_law_59 : decode cL_law 59 = .ok (.aload_n 1, 1) := by decide +kernel
theorem dL_law_60 : decode cL_law 60 = .ok (.invokestatic 62, 3) := by decide +kernel
theorem dL_law_63 : decode cL_law 63 = .ok (.lstore 4, 2) := by decide +kernel
theorem dL_law_65 : decode cL_law 65 = .ok (.iconst 0, 1) := by decide +kernel
theorem dL_law_66 : decode cL_law 66 = .ok (.istore 6, 2) := by decide +kernel
theorem dL_law_68 : decode cL_law 68 = .ok (.iload 6, 2) := by decide +kernel
theorem dL_law_70 : decode cL_law 70 = .ok (.bipush 28, 2) := by decide +kernel
theorem dL_law_72 : decode cL_law 72 = .ok (.if_icmp .ge 327, 3) := by decide +kernel
theorem dL_law_75 : decode cL_law 75 = .ok (.aload_n 0, 1) := by decide +kernel
theorem dL_law_76 : decode cL_law 76 = .ok (.iload 6, 2) := by decide +kernel
theorem dL_law_78 : decode cL_law 78 = .ok (.invokestatic 171, 3) := by decide +kernel
theorem dL_law_81 : decode cL_law 81 = .ok (.istore 7, 2) := by decide +kernel
theorem dL_law_83 : decode cL_law 83 = .ok (.iload 7, 2) := by decide +kernel
theorem dL_law_85 : decode cL_law 85 = .ok (.bipush 13, 2) := by decide +kernel
theorem dL_law_87 : decode cL_law 87 = .ok (.invokestatic 175, 3) := by decide +kernel
theorem dL_law_90 : decode cL_law 90 = .ok (.istore 8, 2) := by decide +kernel
theorem dL_law_92 : decode cL_law 92 = .ok (.aload_n 2, 1) := by decide +kernel
theorem dL_law_93 : decode cL_law 93 = .ok (.iload_n 3, 1) := by decide +kernel
theorem dL_law_94 : decode cL_law 94 = .ok (.aload_n 1, 1) := by decide +kernel
theorem dL_law_95 : decode cL_law 95 = .ok (.invokestatic 62, 3) := by decide +kernel
theorem dL_law_98 : decode cL_law 98 = .ok (.lastore, 1) := by decide +kernel
theorem dL_law_99 : decode cL_law 99 = .ok (.aload_n 1, 1) := by decide +kernel
theorem dL_law_100 : decode cL_law 100 = .ok (.bipush 12, 2) := by decide +kernel
theorem dL_law_102 : decode cL_law 102 = .ok (.invokevirtual 13, 3) := by decide +kernel
theorem dL_law_105 : decode cL_law 105 = .ok (.istore 9, 2) := by decide +kernel
theorem dL_law_107 : decode cL_law 107 = .ok (.iload 7, 2) := by decide +kernel
theorem dL_law_109 : decode cL_law 109 = .ok (.iconst 4, 1) := by decide +kernel
theorem dL_law_110 : decode cL_law 110 = .ok (.ishr, 1) := by decide +kernel
theorem dL_law_111 : decode cL_law 111 = .ok (.bipush 13, 2) := by decide +kernel
theorem dL_law_113 : decode cL_law 113 = .ok (.invokestatic 175, 3) := by decide +kernel
theorem dL_law_116 : decode cL_law 116 = .ok (.istore 10, 2) := by decide +kernel
theorem dL_law_118 : decode cL_law 118 = .ok (.bipush 8, 2) := by decide +kernel
theorem dL_law_120 : decode cL_law 120 = .ok (.iload 7, 2) := by decide +kernel
theorem dL_law_122 : decode cL_law 122 = .ok (.bipush 12, 2) := by decide +kernel
theorem dL_law_124 : decode cL_law 124 = .ok (.ishr, 1) := by decide +kernel
theorem dL_law_125 : decode cL_law 125 = .ok (.sipush 195, 3) := by decide +kernel
theorem dL_law_128 : decode cL_law 128 = .ok (.invokestatic 175, 3) := by decide +kernel
theorem dL_law_131 : decode cL_law 131 = .ok (.iadd, 1) := by decide +kernel
theorem dL_law_132 : decode cL_law 132 = .ok (.istore 11, 2) := by decide +kernel
theorem dL_law_134 : decode cL_law 134 = .ok (.iload 8, 2) := by decide +kernel
theorem dL_law_136 : decode cL_law 136 = .ok (.iconst 5, 1) := by decide +kernel
theorem dL_law_137 : decode cL_law 137 = .ok (.if_icmp .ge 24, 3) := by decide +kernel
