set_option maxRecDepth 20000 in
theorem ggL_wires_X3_init : GoodIn wsL_wires wsX3_init := goodIn_r _ [6, 7, 8, 9, 10, 11, 12, 13, 14, 15, 16, 17, 18, 19, 20, 21, 22, 23, 24, 25, 26, 27, 28, 29, 30, 31, 32, 33, 34, 35, 36, 37, 38, 39, 40, 41, 42, 43, 44, 45, 46, 47, 48, 49, 50, 51, 52, 53, 54, 55, 355, 356, 357, 358, 359, 360, 361, 362, 363, 364, 365, 366, 349, 350, 351, 352, 353, 354, 367, 368, 369, 370, 371, 372, 373, 374, 375] (by decide +kernel) (by decide +kernel)
set_option maxRecDepth 20000 in
theorem gL_wires_X3_init : GoodIn wsL_wires (wsX3_init) := ggL_wires_X3_init
set_option maxRecDepth 20000 in
theorem ggL_wires_X3_undo : GoodIn wsL_wires wsX3_undo := goodIn_r _ [59, 20, 13, 60, 61, 62, 19, 63, 46, 64, 65, 66, 67, 68, 69, 70, 71, 45, 72, 3, 73, 74, 75, 76, 12, 77, 30, 78, 79, 80, 81, 31, 32, 33, 34, 82, 35, 83, 84, 85, 86, 87, 349, 350, 351, 352, 353, 354, 367, 368, 355, 356, 357, 358, 359, 360, 361, 362, 363, 364, 365, 366] (by decide +kernel) (by decide +kernel)
set_option maxRecDepth 20000 in
theorem gL_wires_X3_undo : GoodIn wsL_wires (wsV RL 75 RX3 yX3_undo wsX3_undo) := goodIn_app (goodIn_of _ (by decide +kernel)) ggL_wires_X3_undo
set_option maxRecDepth 20000 in
theorem ggL_wires_X3_restore : GoodIn wsL_wires wsX3_restore := goodIn_r _ [91, 16, 20, 13, 15, 92, 93, 94, 19, 95, 46, 96, 97, 98, 99, 45, 68, 69, 70, 71, 72, 3, 73, 74, 75, 76, 12, 77, 30, 78, 79, 80, 81, 31, 32, 33, 34, 82, 35, 83, 84, 85, 86, 87, 100, 101, 102, 103, 104, 105, 106, 107, 108, 109, 110, 349, 350, 351, 352, 353, 354, 367, 368, 355, 356, 357, 358, 359, 360, 361, 362, 363, 364, 365, 366] (by decide +kernel) (by decide +kernel)
set_option maxRecDepth 20000 in
theorem gL_wires_X3_restore : GoodIn wsL_wires (wsV RL 79 RX3 yX3_restore wsX3_restore) := goodIn_app (goodIn_of _ (by decide +kernel)) ggL_wires_X3_restore
set_option maxRecDepth 20000 in
theorem ggL_wires_X3_changeTool : GoodIn wsL_wires wsX3_changeTool := goodIn_r _ [114, 13, 20, 92, 93, 94, 19, 95, 46, 96, 97, 98, 99, 45, 68, 69, 70, 71, 72, 3, 73, 74, 75, 76, 12, 77, 30, 78, 79, 80, 81, 31, 32, 33, 34, 82, 35, 83, 84, 85, 86, 87, 349, 350, 351, 352, 353, 354, 355, 356, 357, 358, 359, 360, 361, 362, 363, 364, 365, 366, 367, 368] (by decide +kernel) (by decide +kernel)
set_option maxRecDepth 20000 in
theorem gL_wires_X3_changeTool : GoodIn wsL_wires (wsV RL 82 RX3 yX3_changeTool wsX3_changeTool) := goodIn_app (goodIn_of _ (by decide +kernel)) ggL_wires_X3_changeTool
set_option maxRecDepth 20000 in
theorem ggL_wires_X3_thread : GoodIn wsL_wires wsX3_thread := goodIn_r _ [118, 13, 20, 92, 93, 94, 19, 95, 46, 96, 97, 98, 99, 45, 68, 69, 70, 71, 72, 3, 73, 74, 75, 76, 12, 77, 30, 78, 79, 80, 81, 31, 32, 33, 34, 82, 35, 83, 84, 85, 86, 87, 349, 350, 351, 352, 353, 354, 355, 356, 357, 358, 359, 360, 361, 362, 363, 364, 365, 366, 367, 368] (by decide +kernel) (by decide +kernel)
set_option maxRecDepth 20000 in
theorem gL_wires_X3_thread : GoodIn wsL_wires (wsV RL 85 RX3 yX3_thread wsX3_thread) := goodIn_app (goodIn_of _ (by decide +kernel)) ggL_wires_X3_thread
set_option maxRecDepth 20000 in
theorem ggL_wires_X3_sample : GoodIn wsL_wires wsX3_sample := goodIn_r _ [122, 13, 20, 123, 72, 3, 73, 101, 102, 103, 12, 104, 105, 106, 107, 108, 31, 109, 110, 92, 93, 94, 19, 95, 46, 96, 97, 98, 99, 45, 68, 69, 70, 71, 74, 75, 76, 77, 30, 78, 79, 80, 81, 32, 33, 34, 82, 35, 83, 84, 85, 86, 87, 124, 125, 126, 127, 128, 129, 130, 131, 132, 133, 134, 135, 136, 137, 138, 139, 349, 350, 351, 352, 353, 354, 355, 356, 357, 358, 359, 360, 361, 362, 363, 364, 365, 366, 367, 368] (by decide +kernel) (by decide +kernel)
set_option maxRecDepth 20000 in
theorem gL_wires_X3_sample : GoodIn wsL_wires (wsV RL 50 RX3 yX3_sample wsX3_sample) := goodIn_app (goodIn_of _ (by decide +kernel)) ggL_wires_X3_sample
set_option maxRecDepth 20000 in
set_option maxRecDepth 20000 in
theorem ggL_wires_X3_count_c : GoodIn wsL_wires [.code yX3_count cX3_count 2 (some .int)] := goodIn_r _ [143] (by first | exact Eq.refl _ | decide +kernel) (by decide +kernel)
set_option maxRecDepth 20000 in
theorem ggL_wires_X3_count_r1 : GoodIn wsL_wires wsX3_count_r1 := goodIn_r _ [13, 20, 24, 101, 102, 103, 12, 104, 105, 106, 107, 108, 31, 109, 3, 110, 144, 145, 146, 147, 148, 149, 150, 151] (by first | exact Eq.refl _ | decide +kernel) (by decide +kernel)
set_option maxRecDepth 20000 in
theorem ggL_wires_X3_count_r2 : GoodIn wsL_wires wsX3_count_r2 := goodIn_r _ [152, 153, 154, 155, 30, 156, 157, 158, 159, 160, 161, 162, 163, 32, 164, 165, 166, 167, 35, 168, 169, 170, 171, 172] (by first | exact Eq.refl _ | decide +kernel) (by decide +kernel)
set_option maxRecDepth 20000 in
theorem ggL_wires_X3_count_r3 : GoodIn wsL_wires wsX3_count_r3 := goodIn_r _ [173, 134, 174, 175, 176, 177, 178, 179, 180, 181, 182, 183, 184, 185, 186, 187, 33, 188, 189, 190, 191, 192, 193, 194] (by first | exact Eq.refl _ | decide +kernel) (by decide +kernel)
set_option maxRecDepth 20000 in
theorem ggL_wires_X3_count_r4 : GoodIn wsL_wires wsX3_count_r4 := goodIn_r _ [195, 60, 61, 62, 19, 63, 46, 196, 197, 198, 23, 199, 200] (by first | exact Eq.refl _ | decide +kernel) (by decide +kernel)
set_option maxRecDepth 20000 in
theorem ggL_wires_X3_count_wsX30 : GoodIn wsL_wires wsX30 := goodIn_r _ [349, 350, 351, 352, 353, 354] (by first | exact Eq.refl _ | decide +kernel) (by decide +kernel)
set_option maxRecDepth 20000 in
theorem ggL_wires_X3_count_wsX00 : GoodIn wsL_wires wsX00 := goodIn_r _ [355, 356, 357, 358, 359, 360, 361, 362, 363, 364, 365, 366] (by first | exact Eq.refl _ | decide +kernel) (by decide +kernel)
set_option maxRecDepth 20000 in
theorem ggL_wires_X3_count_wsX10 : GoodIn wsL_wires wsX10 := goodIn_r _ [367, 368] (by first | exact Eq.refl _ | decide +kernel) (by decide +kernel)
set_option maxRecDepth 20000 in
theorem ggL_wires_X3_count_wsX20 : GoodIn wsL_wires wsX20 := goodIn_r _ [369, 370, 371, 372, 373, 374, 375] (by first | exact Eq.refl _ | decide +kernel) (by decide +kernel)
theorem ggL_wires_X3_count : GoodIn wsL_wires wsX3_count := goodIn_app (b := ((wsX3_count_r1 ++ (wsX3_count_r2 ++ (wsX3_count_r3 ++ wsX3_count_r4))) ++ wsX30 ++ wsX00 ++ wsX10 ++ wsX20)) ggL_wires_X3_count_c (goodIn_app (goodIn_app (goodIn_app (goodIn_app (goodIn_app ggL_wires_X3_count_r1 (goodIn_app ggL_wires_X3_count_r2 (goodIn_app ggL_wires_X3_count_r3 (ggL_wires_X3_count_r4)))) ggL_wires_X3_count_wsX30) ggL_wires_X3_count_wsX00) ggL_wires_X3_count_wsX10) ggL_wires_X3_count_wsX20)
set_option maxRecDepth 20000 in
theorem gL_wires_X3_count : GoodIn wsL_wires (wsV RL 13 RX3 yX3_count wsX3_count) := goodIn_app (goodIn_of _ (by decide +kernel)) ggL_wires_X3_count
set_option maxRecDepth 20000 in
theorem ggL_wires_X3_lead : GoodIn wsL_wires wsX3_lead := goodIn_r _ [204, 13, 205, 206, 3, 207, 208, 209, 210, 12, 211, 30, 212, 213, 214, 215, 31, 105, 106, 107, 108, 109, 110, 349, 350, 351, 352, 353, 354, 355, 356, 357, 358, 359, 360, 361, 362, 363, 364, 365, 366] (by decide +kernel) (by decide +kernel)
set_option maxRecDepth 20000 in
theorem gL_wires_X3_lead : GoodIn wsL_wires (wsV RL 23 RX3 yX3_lead wsX3_lead) := goodIn_app (goodIn_of _ (by decide +kernel)) ggL_wires_X3_lead
set_option maxRecDepth 20000 in
theorem ggL_wires_X3_laysLeft : GoodIn wsL_wires wsX3_laysLeft := goodIn_r _ [219, 13, 220, 221, 3, 222, 123, 72, 73, 223, 224, 225, 12, 226, 83, 85, 82, 227, 228, 229, 230, 231, 232, 349, 350, 351, 352, 353, 354, 355, 356, 357, 358, 359, 360, 361, 362, 363, 364, 365, 366] (by decide +kernel) (by decide +kernel)
set_option maxRecDepth 20000 in
theorem gL_wires_X3_laysLeft : GoodIn wsL_wires (wsV RL 26 RX3 yX3_laysLeft wsX3_laysLeft) := goodIn_app (goodIn_of _ (by decide +kernel)) ggL_wires_X3_laysLeft
set_option maxRecDepth 20000 in
set_option maxRecDepth 20000 in
theorem ggL_wires_X3_lay_c : GoodIn wsL_wires [.code yX3_lay cX3_lay 5 (some .int)] := goodIn_r _ [236] (by first | exact Eq.refl _ | decide +kernel) (by decide +kernel)
set_option maxRecDepth 20000 in
theorem ggL_wires_X3_lay_r1 : GoodIn wsL_wires wsX3_lay_r1 := goodIn_r _ [13, 20, 237, 109, 3, 110, 205, 206, 207, 220, 221, 222, 123, 72, 73, 238, 239, 240, 12, 241, 85, 83, 105, 106] (by first | exact Eq.refl _ | decide +kernel) (by decide +kernel)
set_option maxRecDepth 20000 in
theorem ggL_wires_X3_lay_r2 : GoodIn wsL_wires wsX3_lay_r2 := goodIn_r _ [107, 108, 31, 242, 213, 214, 215, 92, 93, 94, 19, 95, 46, 96, 97, 98, 99, 45, 68, 69, 70, 71, 74, 75] (by first | exact Eq.refl _ | decide +kernel) (by decide +kernel)
set_option maxRecDepth 20000 in
theorem ggL_wires_X3_lay_r3 : GoodIn wsL_wires wsX3_lay_r3 := goodIn_r _ [76, 77, 30, 78, 79, 80, 81, 32, 33, 34, 82, 35, 84, 86, 87, 243, 244, 245, 246, 247, 248, 249, 250, 132] (by first | exact Eq.refl _ | decide +kernel) (by decide +kernel)
set_option maxRecDepth 20000 in
theorem ggL_wires_X3_lay_r4 : GoodIn wsL_wires wsX3_lay_r4 := goodIn_r _ [133, 134, 135, 172, 173, 174, 179, 180, 251, 209, 210, 211, 227, 228, 229, 230, 231, 232, 252, 189, 190, 191] (by first | exact Eq.refl _ | decide +kernel) (by decide +kernel)
set_option maxRecDepth 20000 in
theorem ggL_wires_X3_lay_wsX30 : GoodIn wsL_wires wsX30 := goodIn_r _ [349, 350, 351, 352, 353, 354] (by first | exact Eq.refl _ | decide +kernel) (by decide +kernel)
set_option maxRecDepth 20000 in
theorem ggL_wires_X3_lay_wsX00 : GoodIn wsL_wires wsX00 := goodIn_r _ [355, 356, 357, 358, 359, 360, 361, 362, 363, 364, 365, 366] (by first | exact Eq.refl _ | decide +kernel) (by decide +kernel)
set_option maxRecDepth 20000 in
theorem ggL_wires_X3_lay_wsX10 : GoodIn wsL_wires wsX10 := goodIn_r _ [367, 368] (by first | exact Eq.refl _ | decide +kernel) (by decide +kernel)
theorem ggL_wires_X3_lay : GoodIn wsL_wires wsX3_lay := goodIn_app (b := ((wsX3_lay_r1 ++ (wsX3_lay_r2 ++ (wsX3_lay_r3 ++ wsX3_lay_r4))) ++ wsX30 ++ wsX00 ++ wsX10)) ggL_wires_X3_lay_c (goodIn_app (goodIn_app (goodIn_app (goodIn_app ggL_wires_X3_lay_r1 (goodIn_app ggL_wires_X3_lay_r2 (goodIn_app ggL_wires_X3_lay_r3 (ggL_wires_X3_lay_r4)))) ggL_wires_X3_lay_wsX30) ggL_wires_X3_lay_wsX00) ggL_wires_X3_lay_wsX10)
set_option maxRecDepth 20000 in
theorem gL_wires_X3_lay : GoodIn wsL_wires (wsV RL 29 RX3 yX3_lay wsX3_lay) := goodIn_app (goodIn_of _ (by decide +kernel)) ggL_wires_X3_lay
set_option maxRecDepth 20000 in
theorem ggL_wires_X3_crossing : GoodIn wsL_wires wsX3_crossing := goodIn_r _ [256, 13, 257, 106, 107, 12, 108, 31, 109, 3, 110, 123, 72, 73, 258, 149, 150, 151, 105, 152, 153, 154, 155, 30, 259, 176, 177, 178, 172, 173, 134, 174, 179, 180, 260, 161, 162, 163, 32, 261, 169, 170, 171, 175, 181, 182, 183, 160, 262, 165, 166, 167, 35, 148, 168, 349, 350, 351, 352, 353, 354, 355, 356, 357, 358, 359, 360, 361, 362, 363, 364, 365, 366] (by decide +kernel) (by decide +kernel)
set_option maxRecDepth 20000 in
theorem gL_wires_X3_crossing : GoodIn wsL_wires (wsV RL 56 RX3 yX3_crossing wsX3_crossing) := goodIn_app (goodIn_of _ (by decide +kernel)) ggL_wires_X3_crossing
set_option maxRecDepth 20000 in
theorem ggL_wires_X3_heightAt : GoodIn wsL_wires wsX3_heightAt := goodIn_r _ [266, 13, 257, 106, 107, 12, 108, 31, 109, 3, 110, 123, 72, 73, 260, 161, 162, 163, 32, 267, 181, 182, 183, 349, 350, 351, 352, 353, 354, 355, 356, 357, 358, 359, 360, 361, 362, 363, 364, 365, 366] (by decide +kernel) (by decide +kernel)
set_option maxRecDepth 20000 in
theorem gL_wires_X3_heightAt : GoodIn wsL_wires (wsV RL 53 RX3 yX3_heightAt wsX3_heightAt) := goodIn_app (goodIn_of _ (by decide +kernel)) ggL_wires_X3_heightAt
set_option maxRecDepth 20000 in
theorem ggL_wires_X3_wire : GoodIn wsL_wires wsX3_wire := goodIn_r _ [271, 13, 257, 106, 107, 12, 108, 31, 109, 3, 110, 272, 273, 274, 275, 260, 161, 162, 163, 32, 252, 189, 190, 191, 33, 276, 277, 278, 279, 148, 149, 150, 151, 105, 152, 153, 154, 155, 30, 280, 281, 282, 283, 164, 165, 166, 167, 35, 168, 169, 170, 171, 172, 173, 134, 174, 175, 176, 177, 178, 179, 180, 181, 182, 183, 160, 284, 285, 286, 287, 288, 289, 290, 291, 292, 293, 294, 34, 349, 350, 351, 352, 353, 354, 355, 356, 357, 358, 359, 360, 361, 362, 363, 364, 365, 366] (by decide +kernel) (by decide +kernel)
set_option maxRecDepth 20000 in
theorem gL_wires_X3_wire : GoodIn wsL_wires (wsV RL 19 RX3 yX3_wire wsX3_wire) := goodIn_app (goodIn_of _ (by decide +kernel)) ggL_wires_X3_wire
set_option maxRecDepth 20000 in
set_option maxRecDepth 20000 in
theorem ggL_wires_L_refused_c : GoodIn wsL_wires [.code yL_refused cL_refused 6 (some .boolean)] := goodIn_r _ [298] (by first | exact Eq.refl _ | decide +kernel) (by decide +kernel)
set_option maxRecDepth 20000 in
theorem ggL_wires_L_refused_r1 : GoodIn wsL_wires wsL_refused_r1 := goodIn_r _ [299, 300, 297, 301, 302, 303, 140, 141, 142, 3, 143, 13, 20, 24, 101, 102, 103, 12, 104, 105, 106, 107, 108, 31] (by first | exact Eq.refl _ | decide +kernel) (by decide +kernel)
set_option maxRecDepth 20000 in
theorem ggL_wires_L_refused_r2 : GoodIn wsL_wires wsL_refused_r2 := goodIn_r _ [109, 110, 144, 145, 146, 147, 148, 149, 150, 151, 152, 153, 154, 155, 30, 156, 157, 158, 159, 160, 161, 162, 163, 32] (by first | exact Eq.refl _ | decide +kernel) (by decide +kernel)
set_option maxRecDepth 20000 in
theorem ggL_wires_L_refused_r3 : GoodIn wsL_wires wsL_refused_r3 := goodIn_r _ [164, 165, 166, 167, 35, 168, 169, 170, 171, 172, 173, 134, 174, 175, 176, 177, 178, 179, 180, 181, 182, 183, 184, 185] (by first | exact Eq.refl _ | decide +kernel) (by decide +kernel)
set_option maxRecDepth 20000 in
theorem ggL_wires_L_refused_r4 : GoodIn wsL_wires wsL_refused_r4 := goodIn_r _ [186, 187, 33, 188, 189, 190, 191, 192, 193, 194, 195, 60, 61, 62, 19, 63, 46, 196, 197, 198, 23, 199, 200, 268] (by first | exact Eq.refl _ | decide +kernel) (by decide +kernel)
set_option maxRecDepth 20000 in
theorem ggL_wires_L_refused_r5 : GoodIn wsL_wires wsL_refused_r5 := goodIn_r _ [269, 270, 271, 257, 272, 273, 274, 275, 260, 252, 276, 277, 278, 279, 280, 281, 282, 283, 284, 285, 286, 287, 288, 289] (by first | exact Eq.refl _ | decide +kernel) (by decide +kernel)
set_option maxRecDepth 20000 in
theorem ggL_wires_L_refused_r6 : GoodIn wsL_wires wsL_refused_r6 := goodIn_r _ [290, 291, 292, 293, 294, 34, 201, 202, 203, 204, 205, 206, 207, 208, 209, 210, 211, 212, 213, 214, 215, 216, 217, 218] (by first | exact Eq.refl _ | decide +kernel) (by decide +kernel)
set_option maxRecDepth 20000 in
theorem ggL_wires_L_refused_r7 : GoodIn wsL_wires wsL_refused_r7 := goodIn_r _ [219, 220, 221, 222, 123, 72, 73, 223, 224, 225, 226, 83, 85, 82, 227, 228, 229, 230, 231, 232, 304, 305, 306, 307] (by first | exact Eq.refl _ | decide +kernel) (by decide +kernel)
set_option maxRecDepth 20000 in
theorem ggL_wires_L_refused_r8 : GoodIn wsL_wires wsL_refused_r8 := goodIn_r _ [308, 309, 310, 92, 93, 94, 95, 96, 97, 98, 99, 45, 68, 69, 70, 71, 74, 75, 76, 77, 78, 79, 80, 81] (by first | exact Eq.refl _ | decide +kernel) (by decide +kernel)
set_option maxRecDepth 20000 in
theorem ggL_wires_L_refused_r9 : GoodIn wsL_wires wsL_refused_r9 := goodIn_r _ [84, 86, 87, 311, 312, 313, 314, 315, 316, 317, 318, 319, 129, 130, 131, 132, 133, 135, 136, 137, 138, 139, 263, 264] (by first | exact Eq.refl _ | decide +kernel) (by decide +kernel)
set_option maxRecDepth 20000 in
theorem ggL_wires_L_refused_r10 : GoodIn wsL_wires wsL_refused_r10 := goodIn_r _ [265, 266, 267, 253, 254, 255, 256, 258, 259, 261, 262, 320, 321, 322, 323, 324, 325, 326, 327, 328, 329, 330, 331, 233] (by first | exact Eq.refl _ | decide +kernel) (by decide +kernel)
set_option maxRecDepth 20000 in
theorem ggL_wires_L_refused_r11 : GoodIn wsL_wires wsL_refused_r11 := goodIn_r _ [234, 235, 236, 237, 238, 239, 240, 241, 242, 243, 244, 245, 246, 247, 248, 249, 250, 251, 332, 333, 334, 335, 336, 337] (by first | exact Eq.refl _ | decide +kernel) (by decide +kernel)
set_option maxRecDepth 20000 in
theorem ggL_wires_L_refused_r12 : GoodIn wsL_wires wsL_refused_r12 := goodIn_r _ [338, 339, 340, 341, 342, 343, 344, 345, 346, 347, 348, 119, 120, 121, 122, 124, 125, 126, 127, 128] (by first | exact Eq.refl _ | decide +kernel) (by decide +kernel)
set_option maxRecDepth 20000 in
theorem ggL_wires_L_refused_wsX30 : GoodIn wsL_wires wsX30 := goodIn_r _ [349, 350, 351, 352, 353, 354] (by first | exact Eq.refl _ | decide +kernel) (by decide +kernel)
set_option maxRecDepth 20000 in
theorem ggL_wires_L_refused_wsX00 : GoodIn wsL_wires wsX00 := goodIn_r _ [355, 356, 357, 358, 359, 360, 361, 362, 363, 364, 365, 366] (by first | exact Eq.refl _ | decide +kernel) (by decide +kernel)
set_option maxRecDepth 20000 in
theorem ggL_wires_L_refused_wsX10 : GoodIn wsL_wires wsX10 := goodIn_r _ [367, 368] (by first | exact Eq.refl _ | decide +kernel) (by decide +kernel)
set_option maxRecDepth 20000 in
theorem ggL_wires_L_refused_wsX20 : GoodIn wsL_wires wsX20 := goodIn_r _ [369, 370, 371, 372, 373, 374, 375] (by first | exact Eq.refl _ | decide +kernel) (by decide +kernel)
theorem ggL_wires_L_refused : GoodIn wsL_wires wsL_refused := goodIn_app (b := ((wsL_refused_r1 ++ (wsL_refused_r2 ++ (wsL_refused_r3 ++ (wsL_refused_r4 ++ (wsL_refused_r5 ++ (wsL_refused_r6 ++ (wsL_refused_r7 ++ (wsL_refused_r8 ++ (wsL_refused_r9 ++ (wsL_refused_r10 ++ (wsL_refused_r11 ++ wsL_refused_r12))))))))))) ++ wsX30 ++ wsX00 ++ wsX10 ++ wsX20)) ggL_wires_L_refused_c (goodIn_app (goodIn_app (goodIn_app (goodIn_app (goodIn_app ggL_wires_L_refused_r1 (goodIn_app ggL_wires_L_refused_r2 (goodIn_app ggL_wires_L_refused_r3 (goodIn_app ggL_wires_L_refused_r4 (goodIn_app ggL_wires_L_refused_r5 (goodIn_app ggL_wires_L_refused_r6 (goodIn_app ggL_wires_L_refused_r7 (goodIn_app ggL_wires_L_refused_r8 (goodIn_app ggL_wires_L_refused_r9 (goodIn_app ggL_wires_L_refused_r10 (goodIn_app ggL_wires_L_refused_r11 (ggL_wires_L_refused_r12)))))))))))) ggL_wires_L_refused_wsX30) ggL_wires_L_refused_wsX00) ggL_wires_L_refused_wsX10) ggL_wires_L_refused_wsX20)
set_option maxRecDepth 20000 in
theorem gL_wires_L_refused : GoodIn wsL_wires (va_wsS RL 88 yL_refused wsL_refused) := goodIn_app (goodIn_of _ (by decide +kernel)) ggL_wires_L_refused
set_option maxRecDepth 20000 in
theorem ggL_wires_X3_setWidth : GoodIn wsL_wires wsX3_setWidth := goodIn_r _ [348, 13, 20, 123, 72, 3, 73, 92, 93, 94, 19, 95, 46, 96, 97, 98, 99, 45, 68, 69, 70, 71, 74, 75, 76, 12, 77, 30, 78, 79, 80, 81, 31, 32, 33, 34, 82, 35, 83, 84, 85, 86, 87, 349, 350, 351, 352, 353, 354, 355, 356, 357, 358, 359, 360, 361, 362, 363, 364, 365, 366, 367, 368] (by decide +kernel) (by decide +kernel)
set_option maxRecDepth 20000 in
theorem gL_wires_X3_setWidth : GoodIn wsL_wires (wsV RL 44 RX3 yX3_setWidth wsX3_setWidth) := goodIn_app (goodIn_of _ (by decide +kernel)) ggL_wires_X3_setWidth
set_option maxRecDepth 20000 in
theorem ggL_wires_X3_bend : GoodIn wsL_wires wsX3_bend := goodIn_r _ [310, 13, 20, 257, 106, 107, 12, 108, 31, 109, 3, 110, 220, 221, 222, 123, 72, 73, 260, 161, 162, 163, 32, 92, 93, 94, 19, 95, 46, 96, 97, 98, 99, 45, 68, 69, 70, 71, 74, 75, 76, 77, 30, 78, 79, 80, 81, 33, 34, 82, 35, 83, 84, 85, 86, 87, 311, 312, 313, 314, 349, 350, 351, 352, 353, 354, 355, 356, 357, 358, 359, 360, 361, 362, 363, 364, 365, 366, 367, 368] (by decide +kernel) (by decide +kernel)
set_option maxRecDepth 20000 in
theorem gL_wires_X3_bend : GoodIn wsL_wires (wsV RL 38 RX3 yX3_bend wsX3_bend) := goodIn_app (goodIn_of _ (by decide +kernel)) ggL_wires_X3_bend
set_option maxRecDepth 20000 in
theorem ggL_wires_X3_bestHeight : GoodIn wsL_wires wsX3_bestHeight := goodIn_r _ [323, 13, 257, 106, 107, 12, 108, 31, 109, 3, 110, 123, 72, 73, 324, 325, 326, 327, 328, 281, 282, 283, 164, 165, 166, 167, 35, 148, 149, 150, 151, 105, 152, 153, 154, 155, 30, 168, 169, 170, 171, 172, 173, 134, 174, 175, 176, 177, 178, 179, 180, 181, 182, 183, 160, 161, 162, 163, 32, 280, 349, 350, 351, 352, 353, 354, 355, 356, 357, 358, 359, 360, 361, 362, 363, 364, 365, 366] (by decide +kernel) (by decide +kernel)
set_option maxRecDepth 20000 in
theorem gL_wires_X3_bestHeight : GoodIn wsL_wires (wsV RL 59 RX3 yX3_bestHeight wsX3_bestHeight) := goodIn_app (goodIn_of _ (by decide +kernel)) ggL_wires_X3_bestHeight
set_option maxRecDepth 20000 in
theorem ggL_wires_X3_pull : GoodIn wsL_wires wsX3_pull := goodIn_r _ [318, 13, 20, 257, 106, 107, 12, 108, 31, 109, 3, 110, 123, 72, 73, 92, 93, 94, 19, 95, 46, 96, 97, 98, 99, 45, 68, 69, 70, 71, 74, 75, 76, 77, 30, 78, 79, 80, 81, 32, 33, 34, 82, 35, 83, 84, 85, 86, 87, 319, 129, 130, 131, 132, 133, 134, 135, 105, 136, 137, 138, 139, 252, 189, 190, 191, 349, 350, 351, 352, 353, 354, 355, 356, 357, 358, 359, 360, 361, 362, 363, 364, 365, 366, 367, 368] (by decide +kernel) (by decide +kernel)
set_option maxRecDepth 20000 in
theorem gL_wires_X3_pull : GoodIn wsL_wires (wsV RL 47 RX3 yX3_pull wsX3_pull) := goodIn_app (goodIn_of _ (by decide +kernel)) ggL_wires_X3_pull
set_option maxRecDepth 20000 in
theorem ggL_wires_X3_moveLead : GoodIn wsL_wires wsX3_moveLead := goodIn_r _ [340, 13, 20, 205, 206, 3, 207, 123, 72, 73, 212, 213, 214, 12, 215, 31, 105, 106, 107, 108, 109, 110, 208, 209, 210, 211, 30, 92, 93, 94, 19, 95, 46, 96, 97, 98, 99, 45, 68, 69, 70, 71, 74, 75, 76, 77, 78, 79, 80, 81, 32, 33, 34, 82, 35, 83, 84, 85, 86, 87, 341, 342, 343, 344, 349, 350, 351, 352, 353, 354, 355, 356, 357, 358, 359, 360, 361, 362, 363, 364, 365, 366, 367, 368] (by decide +kernel) (by decide +kernel)
set_option maxRecDepth 20000 in
theorem gL_wires_X3_moveLead : GoodIn wsL_wires (wsV RL 41 RX3 yX3_moveLead wsX3_moveLead) := goodIn_app (goodIn_of _ (by decide +kernel)) ggL_wires_X3_moveLead
set_option maxRecDepth 20000 in
theorem ggL_wires_X3_takeOff : GoodIn wsL_wires wsX3_takeOff := goodIn_r _ [335, 13, 20, 257, 106, 107, 12, 108, 31, 109, 3, 110, 92, 93, 94, 19, 95, 46, 96, 97, 98, 99, 45, 68, 69, 70, 71, 72, 73, 74, 75, 76, 77, 30, 78, 79, 80, 81, 32, 33, 34, 82, 35, 83, 84, 85, 86, 87, 252, 189, 190, 191, 336, 137, 138, 139, 349, 350, 351, 352, 353, 354, 355, 356, 357, 358, 359, 360, 361, 362, 363, 364, 365, 366, 367, 368] (by decide +kernel) (by decide +kernel)
set_option maxRecDepth 20000 in
theorem gL_wires_X3_takeOff : GoodIn wsL_wires (wsV RL 35 RX3 yX3_takeOff wsX3_takeOff) := goodIn_app (goodIn_of _ (by decide +kernel)) ggL_wires_X3_takeOff
theorem dL_wires_0 : decode cL_wires 0 = .ok (.new 14, 3) := by decide +kernel
theorem dL_wires_3 : decode cL_wires 3 = .ok (.dup, 1) := by decide +kernel
theorem dL_wires_4 : decode cL_wires 4 = .ok (.invokespecial 74, 3) := by decide +kernel
theorem dL_wires_7 : decode cL_wires 7 = .ok (.astore_n 0, 1) := by decide +kernel
theorem dL_wires_8 : decode cL_wires 8 = .ok (.aload_n 0, 1) := by decide +kernel
theorem dL_wires_9 : decode cL_wires 9 = .ok (.invokevirtual 75, 3) := by decide +kernel

