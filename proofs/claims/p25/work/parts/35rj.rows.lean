theorem dL_tool_124 : decode cL_tool 124 = .ok (.iconst 0, 1) := by decide +kernel
theorem dL_tool_125 : decode cL_tool 125 = .ok (.sipush 200, 3) := by decide +kernel
theorem dL_tool_128 : decode cL_tool 128 = .ok (.invokevirtual 29, 3) := by decide +kernel
theorem dL_tool_131 : decode cL_tool 131 = .ok (.bipush (-7), 2) := by decide +kernel
theorem dL_tool_133 : decode cL_tool 133 = .ok (.if_icmp .ne 109, 3) := by decide +kernel
theorem dL_tool_136 : decode cL_tool 136 = .ok (.aload_n 0, 1) := by decide +kernel
theorem dL_tool_137 : decode cL_tool 137 = .ok (.bipush 10, 2) := by decide +kernel
theorem dL_tool_139 : decode cL_tool 139 = .ok (.invokevirtual 26, 3) := by decide +kernel
theorem dL_tool_142 : decode cL_tool 142 = .ok (.ifCond .ne 100, 3) := by decide +kernel
theorem dL_tool_145 : decode cL_tool 145 = .ok (.aload_n 0, 1) := by decide +kernel
theorem dL_tool_146 : decode cL_tool 146 = .ok (.iconst 4, 1) := by decide +kernel
theorem dL_tool_147 : decode cL_tool 147 = .ok (.invokevirtual 13, 3) := by decide +kernel
theorem dL_tool_150 : decode cL_tool 150 = .ok (.sipush 204, 3) := by decide +kernel
theorem dL_tool_153 : decode cL_tool 153 = .ok (.if_icmp .ne 89, 3) := by decide +kernel
theorem dL_tool_156 : decode cL_tool 156 = .ok (.aload_n 0, 1) := by decide +kernel
theorem dL_tool_157 : decode cL_tool 157 = .ok (.invokevirtual 82, 3) := by decide +kernel
theorem dL_tool_160 : decode cL_tool 160 = .ok (.sipush 204, 3) := by decide +kernel
theorem dL_tool_163 : decode cL_tool 163 = .ok (.if_icmp .ne 79, 3) := by decide +kernel
theorem dL_tool_166 : decode cL_tool 166 = .ok (.aload_n 0, 1) := by decide +kernel
theorem dL_tool_167 : decode cL_tool 167 = .ok (.invokevirtual 82, 3) := by decide +kernel
theorem dL_tool_170 : decode cL_tool 170 = .ok (.bipush (-5), 2) := by decide +kernel
theorem dL_tool_172 : decode cL_tool 172 = .ok (.if_icmp .ne 70, 3) := by decide +kernel
theorem dL_tool_175 : decode cL_tool 175 = .ok (.aload_n 0, 1) := by decide +kernel
theorem dL_tool_176 : decode cL_tool 176 = .ok (.bipush 11, 2) := by decide +kernel
theorem dL_tool_178 : decode cL_tool 178 = .ok (.invokevirtual 13, 3) := by decide +kernel
theorem dL_tool_181 : decode cL_tool 181 = .ok (.iconst 1, 1) := by decide +kernel
theorem dL_tool_182 : decode cL_tool 182 = .ok (.if_icmp .ne 60, 3) := by decide +kernel
theorem dL_tool_185 : decode cL_tool 185 = .ok (.aload_n 0, 1) := by decide +kernel
theorem dL_tool_186 : decode cL_tool 186 = .ok (.bipush 10, 2) := by decide +kernel
theorem dL_tool_188 : decode cL_tool 188 = .ok (.invokevirtual 26, 3) := by decide +kernel
theorem dL_tool_191 : decode cL_tool 191 = .ok (.iconst 1, 1) := by decide +kernel
theorem dL_tool_192 : decode cL_tool 192 = .ok (.if_icmp .ne 50, 3) := by decide +kernel
theorem dL_tool_195 : decode cL_tool 195 = .ok (.aload_n 0, 1) := by decide +kernel
theorem dL_tool_196 : decode cL_tool 196 = .ok (.bipush 11, 2) := by decide +kernel
theorem dL_tool_198 : decode cL_tool 198 = .ok (.iconst 0, 1) := by decide +kernel
theorem dL_tool_199 : decode cL_tool 199 = .ok (.bipush 49, 2) := by decide +kernel
theorem dL_tool_201 : decode cL_tool 201 = .ok (.invokevirtual 29, 3) := by decide +kernel
theorem dL_tool_204 : decode cL_tool 204 = .ok (.bipush 84, 2) := by decide +kernel
theorem dL_tool_206 : decode cL_tool 206 = .ok (.if_icmp .ne 36, 3) := by decide +kernel
theorem dL_tool_209 : decode cL_tool 209 = .ok (.aload_n 0, 1) := by decide +kernel
theorem dL_tool_210 : decode cL_tool 210 = .ok (.iconst 4, 1) := by decide +kernel
theorem dL_tool_211 : decode cL_tool 211 = .ok (.invokevirtual 13, 3) := by decide +kernel
theorem dL_tool_214 : decode cL_tool 214 = .ok (.iconst 2, 1) := by decide +kernel
theorem dL_tool_215 : decode cL_tool 215 = .ok (.if_icmp .ne 27, 3) := by decide +kernel
theorem dL_tool_218 : decode cL_tool 218 = .ok (.aload_n 0, 1) := by decide +kernel
theorem dL_tool_219 : decode cL_tool 219 = .ok (.bipush 10, 2) := by decide +kernel
theorem dL_tool_221 : decode cL_tool 221 = .ok (.iconst 1, 1) := by decide +kernel
theorem dL_tool_222 : decode cL_tool 222 = .ok (.bipush 50, 2) := by decide +kernel
theorem dL_tool_224 : decode cL_tool 224 = .ok (.invokevirtual 29, 3) := by decide +kernel
theorem dL_tool_227 : decode cL_tool 227 = .ok (.bipush (-6), 2) := by decide +kernel
theorem dL_tool_229 : decode cL_tool 229 = .ok (.if_icmp .ne 13, 3) := by decide +kernel
theorem dL_tool_232 : decode cL_tool 232 = .ok (.aload_n 0, 1) := by decide +kernel
theorem dL_tool_233 : decode cL_tool 233 = .ok (.bipush 6, 2) := by decide +kernel
theorem dL_tool_235 : decode cL_tool 235 = .ok (.invokevirtual 13, 3) := by decide +kernel
theorem dL_tool_238 : decode cL_tool 238 = .ok (.iconst 5, 1) := by decide +kernel
theorem dL_tool_239 : decode cL_tool 239 = .ok (.if_icmp .eq 5, 3) := by decide +kernel
theorem dL_tool_242 : decode cL_tool 242 = .ok (.iconst 0, 1) := by decide +kernel
theorem dL_tool_243 : decode cL_tool 243 = .ok (.ireturn, 1) := by decide +kernel
theorem dL_tool_244 : decode cL_tool 244 = .ok (.aload_n 0, 1) := by decide +kernel
theorem dL_tool_245 : decode cL_tool 245 = .ok (.invokevirtual 85, 3) := by decide +kernel
theorem dL_tool_248 : decode cL_tool 248 = .ok (.iconst 5, 1) := by decide +kernel
theorem dL_tool_249 : decode cL_tool 249 = .ok (.if_icmp .ne 101, 3) := by decide +kernel
theorem dL_tool_252 : decode cL_tool 252 = .ok (.aload_n 0, 1) := by decide +kernel
theorem dL_tool_253 : decode cL_tool 253 = .ok (.iconst 0, 1) := by decide +kernel
theorem dL_tool_254 : decode cL_tool 254 = .ok (.bipush 15, 2) := by decide +kernel
theorem dL_tool_256 : decode cL_tool 256 = .ok (.bipush 50, 2) := by decide +kernel
theorem dL_tool_258 : decode cL_tool 258 = .ok (.invokevirtual 29, 3) := by decide +kernel
theorem dL_tool_261 : decode cL_tool 261 = .ok (.bipush 75, 2) := by decide +kernel
theorem dL_tool_263 : decode cL_tool 263 = .ok (.if_icmp .ne 87, 3) := by decide +kernel
theorem dL_tool_266 : decode cL_tool 266 = .ok (.aload_n 0, 1) := by decide +kernel
theorem dL_tool_267 : decode cL_tool 267 = .ok (.invokevirtual 92, 3) := by decide +kernel
theorem dL_tool_270 : decode cL_tool 270 = .ok (.iconst 2, 1) := by decide +kernel
theorem dL_tool_271 : decode cL_tool 271 = .ok (.if_icmp .ne 79, 3) := by decide +kernel
theorem dL_tool_274 : decode cL_tool 274 = .ok (.aload_n 0, 1) := by decide +kernel
theorem dL_tool_275 : decode cL_tool 275 = .ok (.iconst 0, 1) := by decide +kernel
theorem dL_tool_276 : decode cL_tool 276 = .ok (.invokevirtual 35, 3) := by decide +kernel
theorem dL_tool_279 : decode cL_tool 279 = .ok (.bipush 75, 2) := by decide +kernel
theorem dL_tool_281 : decode cL_tool 281 = .ok (.if_icmp .ne 69, 3) := by decide +kernel
theorem dL_tool_284 : decode cL_tool 284 = .ok (.aload_n 0, 1) := by decide +kernel
theorem dL_tool_285 : decode cL_tool 285 = .ok (.bipush 11, 2) := by decide +kernel
theorem dL_tool_287 : decode cL_tool 287 = .ok (.bipush 84, 2) := by decide +kernel
theorem dL_tool_289 : decode cL_tool 289 = .ok (.invokevirtual 47, 3) := by decide +kernel
theorem dL_tool_292 : decode cL_tool 292 = .ok (.bipush 76, 2) := by decide +kernel
theorem dL_tool_294 : decode cL_tool 294 = .ok (.if_icmp .ne 56, 3) := by decide +kernel
theorem dL_tool_297 : decode cL_tool 297 = .ok (.aload_n 0, 1) := by decide +kernel
theorem dL_tool_298 : decode cL_tool 298 = .ok (.bipush 11, 2) := by decide +kernel
theorem dL_tool_300 : decode cL_tool 300 = .ok (.bipush 77, 2) := by decide +kernel
theorem dL_tool_302 : decode cL_tool 302 = .ok (.invokevirtual 47, 3) := by decide +kernel
theorem dL_tool_305 : decode cL_tool 305 = .ok (.sipush 1000, 3) := by decide +kernel
theorem dL_tool_308 : decode cL_tool 308 = .ok (.if_icmp .ne 42, 3) := by decide +kernel
theorem dL_tool_311 : decode cL_tool 311 = .ok (.aload_n 0, 1) := by decide +kernel
theorem dL_tool_312 : decode cL_tool 312 = .ok (.iconst 0, 1) := by decide +kernel
theorem dL_tool_313 : decode cL_tool 313 = .ok (.invokevirtual 13, 3) := by decide +kernel
theorem dL_tool_316 : decode cL_tool 316 = .ok (.ifCond .ne 34, 3) := by decide +kernel
theorem dL_tool_319 : decode cL_tool 319 = .ok (.aload_n 0, 1) := by decide +kernel
theorem dL_tool_320 : decode cL_tool 320 = .ok (.invokevirtual 79, 3) := by decide +kernel
theorem dL_tool_323 : decode cL_tool 323 = .ok (.iconst 2, 1) := by decide +kernel
theorem dL_tool_324 : decode cL_tool 324 = .ok (.if_icmp .ne 26, 3) := by decide +kernel
theorem dL_tool_327 : decode cL_tool 327 = .ok (.aload_n 0, 1) := by decide +kernel
theorem dL_tool_328 : decode cL_tool 328 = .ok (.bipush 11, 2) := by decide +kernel
theorem dL_tool_330 : decode cL_tool 330 = .ok (.iconst 2, 1) := by decide +kernel
theorem dL_tool_331 : decode cL_tool 331 = .ok (.invokevirtual 19, 3) := by decide +kernel
theorem dL_tool_334 : decode cL_tool 334 = .ok (.bipush 84, 2) := by decide +kernel
theorem dL_tool_336 : decode cL_tool 336 = .ok (.if_icmp .ne 14, 3) := by decide +kernel
theorem dL_tool_339 : decode cL_tool 339 = .ok (.aload_n 0, 1) := by decide +kernel
theorem dL_tool_340 : decode cL_tool 340 = .ok (.invokestatic 88, 3) := by decide +kernel
theorem dL_tool_343 : decode cL_tool 343 = .ok (.ifCond .eq 7, 3) := by decide +kernel
theorem dL_tool_346 : decode cL_tool 346 = .ok (.iconst 1, 1) := by decide +kernel
theorem dL_tool_347 : decode cL_tool 347 = .ok (.goto 4, 3) := by decide +kernel
theorem dL_tool_350 : decode cL_tool 350 = .ok (.iconst 0, 1) := by decide +kernel
theorem dL_tool_351 : decode cL_tool 351 = .ok (.ireturn, 1) := by decide +kernel
set_option maxRecDepth 20000 in
theorem ggL_types_X3_type : GoodIn wsL_types wsX3_type := goodIn_r _ [6, 7, 8, 9, 10, 11, 12, 13, 14, 15, 16, 17, 18, 19, 20, 21, 22, 23, 24, 25, 26, 27, 28, 29, 30, 31] (by decide +kernel) (by decide +kernel)
set_option maxRecDepth 20000 in
theorem gL_types_X3_type : GoodIn wsL_types (wsV RL 97 RX3 yX3_type wsX3_type) := goodIn_app (goodIn_of _ (by decide +kernel)) ggL_types_X3_type
theorem dL_types_0 : decode cL_types 0 = .ok (.iconst 1, 1) := by decide +kernel
theorem dL_types_1 : decode cL_types 1 = .ok (.istore_n 3, 1) := by decide +kernel
theorem dL_types_2 : decode cL_types 2 = .ok (.bipush 56, 2) := by decide +kernel
theorem dL_types_4 : decode cL_types 4 = .ok (.istore 4, 2) := by decide +kernel
theorem dL_types_6 : decode cL_types 6 = .ok (.iload 4, 2) := by decide +kernel
theorem dL_types_8 : decode cL_types 8 = .ok (.ifCond .lt 45, 3) := by decide +kernel
theorem dL_types_11 : decode cL_types 11 = .ok (.lload_n 1, 1) := by decide +kernel
theorem dL_types_12 : decode cL_types 12 = .ok (.iload 4, 2) := by decide +kernel
theorem dL_types_14 : decode cL_types 14 = .ok (.lshr, 1) := by decide +kernel
theorem dL_types_15 : decode cL_types 15 = .ok (.ldc2_w 95, 3) := by decide +kernel
theorem dL_types_18 : decode cL_types 18 = .ok (.land, 1) := by decide +kernel
theorem dL_types_19 : decode cL_types 19 = .ok (.l2i, 1) := by decide +kernel
theorem dL_types_20 : decode cL_types 20 = .ok (.istore 5, 2) := by decide +kernel
theorem dL_types_22 : decode cL_types 22 = .ok (.iload_n 3, 1) := by decide +kernel
theorem dL_types_23 : decode cL_types 23 = .ok (.ifCond .eq 22, 3) := by decide +kernel
theorem dL_types_26 : decode cL_types 26 = .ok (.iload 5, 2) := by decide +kernel
theorem dL_types_28 : decode cL_types 28 = .ok (.ifCond .eq 13, 3) := by decide +kernel
theorem dL_types_31 : decode cL_types 31 = .ok (.aload_n 0, 1) := by decide +kernel
theorem dL_types_32 : decode cL_types 32 = .ok (.iload 5, 2) := by decide +kernel
theorem dL_types_34 : decode cL_types 34 = .ok (.i2c, 1) := by decide +kernel
theorem dL_types_35 : decode cL_types 35 = .ok (.invokevirtual 97, 3) := by decide +kernel
theorem dL_types_38 : decode cL_types 38 = .ok (.ifCond .le 7, 3) := by decide +kernel
theorem dL_types_41 : decode cL_types 41 = .ok (.iconst 1, 1) := by decide +kernel
theorem dL_types_42 : decode cL_types 42 = .ok (.goto 4, 3) := by decide +kernel
theorem dL_types_45 : decode cL_types 45 = .ok (.iconst 0, 1) := by decide +kernel
theorem dL_types_46 : decode cL_types 46 = .ok (.istore_n 3, 1) := by decide +kernel
theorem dL_types_47 : decode cL_types 47 = .ok (.iinc 4 (-8), 3) := by decide +kernel
theorem dL_types_50 : decode cL_types 50 = .ok (.goto (-44), 3) := by decide +kernel
theorem dL_types_53 : decode cL_types 53 = .ok (.iload_n 3, 1) := by decide +kernel
theorem dL_types_54 : decode cL_types 54 = .ok (.ireturn, 1) := by decide +kernel
set_option maxRecDepth 20000 in
theorem ggL_told_X3_init : GoodIn wsL_told wsX3_init := goodIn_r _ [6, 7, 8, 9, 10, 11, 12, 13, 14, 15, 16, 17, 18, 19, 20, 21, 22, 23, 24, 25, 26, 27, 28, 29, 30, 31, 32, 33, 34, 35, 36, 37, 38, 39, 40, 41, 42, 43, 44, 45, 46, 47, 48, 49, 50, 51, 52, 53, 54, 55, 273, 274, 275, 276, 277, 278, 279, 280, 281, 282, 283, 284, 267, 268, 269, 270, 271, 272, 285, 286, 287, 288, 289, 290, 291, 292, 293] (by decide +kernel) (by decide +kernel)
set_option maxRecDepth 20000 in
theorem gL_told_X3_init : GoodIn wsL_told (wsX3_init) := ggL_told_X3_init
set_option maxRecDepth 20000 in
theorem ggL_told_L_types : GoodIn wsL_told wsL_types := goodIn_r _ [59, 60, 61, 62, 63, 3, 64, 24, 65, 66, 67, 23, 68, 69, 52, 70, 71, 72, 73, 267, 268, 269, 270, 271, 272, 287, 288, 289, 290, 291, 292, 293] (by decide +kernel) (by decide +kernel)
set_option maxRecDepth 20000 in
theorem gL_told_L_types : GoodIn wsL_told (va_wsS RL 101 yL_types wsL_types) := goodIn_app (goodIn_of _ (by decide +kernel)) ggL_told_L_types
set_option maxRecDepth 20000 in
set_option maxRecDepth 20000 in
theorem ggL_told_X3_layAll_c : GoodIn wsL_told [.code yX3_layAll cX3_layAll 3 (some .int)] := goodIn_r _ [77] (by first | exact Eq.refl _ | decide +kernel) (by decide +kernel)
set_option maxRecDepth 20000 in
theorem ggL_told_X3_layAll_r1 : GoodIn wsL_told wsX3_layAll_r1 := goodIn_r _ [24, 14, 13, 20, 78, 79, 80, 23, 81, 82, 83, 69, 84, 85, 86, 87, 53, 54, 55, 88, 89, 90, 91, 92] (by first | exact Eq.refl _ | decide +kernel) (by decide +kernel)
set_option maxRecDepth 20000 in
theorem ggL_told_X3_layAll_r2 : GoodIn wsL_told wsX3_layAll_r2 := goodIn_r _ [93, 94, 95, 52, 96, 97, 98, 99, 100, 3, 101, 102, 103, 104, 105, 106, 107, 108, 109, 110, 111, 112, 113, 114] (by first | exact Eq.refl _ | decide +kernel) (by decide +kernel)
set_option maxRecDepth 20000 in
theorem ggL_told_X3_layAll_r3 : GoodIn wsL_told wsX3_layAll_r3 := goodIn_r _ [115, 116, 12, 117, 30, 118, 119, 120, 121, 31, 32, 33, 34, 122, 35, 123, 124, 125, 126, 127, 128, 129, 130, 131] (by first | exact Eq.refl _ | decide +kernel) (by decide +kernel)
set_option maxRecDepth 20000 in
theorem ggL_told_X3_layAll_r4 : GoodIn wsL_told wsX3_layAll_r4 := goodIn_r _ [132, 133, 134, 135, 136, 137, 138, 139, 140, 141, 142, 143, 144, 145, 146, 147, 148, 149, 150, 151, 152, 153, 154, 155] (by first | exact Eq.refl _ | decide +kernel) (by decide +kernel)
set_option maxRecDepth 20000 in
theorem ggL_told_X3_layAll_r5 : GoodIn wsL_told wsX3_layAll_r5 := goodIn_r _ [156, 157, 158, 159, 160, 161, 162, 163, 164, 165, 166, 167, 168, 169, 170, 171, 172, 173, 174, 175, 176, 177, 178, 179] (by first | exact Eq.refl _ | decide +kernel) (by decide +kernel)
set_option maxRecDepth 20000 in
theorem ggL_told_X3_layAll_r6 : GoodIn wsL_told wsX3_layAll_r6 := goodIn_r _ [180, 181, 182, 183, 184, 185, 186, 187, 188, 189, 190, 191, 192, 193, 194, 195, 196, 197, 19, 198, 46, 199, 200, 201] (by first | exact Eq.refl _ | decide +kernel) (by decide +kernel)
set_option maxRecDepth 20000 in
theorem ggL_told_X3_layAll_r7 : GoodIn wsL_told wsX3_layAll_r7 := goodIn_r _ [202, 45, 203, 204, 205, 206, 207, 208, 209, 210, 211] (by first | exact Eq.refl _ | decide +kernel) (by decide +kernel)
set_option maxRecDepth 20000 in
theorem ggL_told_X3_layAll_wsX30 : GoodIn wsL_told wsX30 := goodIn_r _ [267, 268, 269, 270, 271, 272] (by first | exact Eq.refl _ | decide +kernel) (by decide +kernel)
set_option maxRecDepth 20000 in
theorem ggL_told_X3_layAll_wsX20 : GoodIn wsL_told wsX20 := goodIn_r _ [287, 288, 289, 290, 291, 292, 293] (by first | exact Eq.refl _ | decide +kernel) (by decide +kernel)
set_option maxRecDepth 20000 in
theorem ggL_told_X3_layAll_wsX00 : GoodIn wsL_told wsX00 := goodIn_r _ [273, 274, 275, 276, 277, 278, 279, 280, 281, 282, 283, 284] (by first | exact Eq.refl _ | decide +kernel) (by decide +kernel)
set_option maxRecDepth 20000 in
theorem ggL_told_X3_layAll_wsX10 : GoodIn wsL_told wsX10 := goodIn_r _ [285, 286] (by first | exact Eq.refl _ | decide +kernel) (by decide +kernel)
theorem ggL_told_X3_layAll : GoodIn wsL_told wsX3_layAll := goodIn_app (b := ((wsX3_layAll_r1 ++ (wsX3_layAll_r2 ++ (wsX3_layAll_r3 ++ (wsX3_layAll_r4 ++ (wsX3_layAll_r5 ++ (wsX3_layAll_r6 ++ wsX3_layAll_r7)))))) ++ wsX30 ++ wsX20 ++ wsX00 ++ wsX10)) ggL_told_X3_layAll_c (goodIn_app (goodIn_app (goodIn_app (goodIn_app (goodIn_app ggL_told_X3_layAll_r1 (goodIn_app ggL_told_X3_layAll_r2 (goodIn_app ggL_told_X3_layAll_r3 (goodIn_app ggL_told_X3_layAll_r4 (goodIn_app ggL_told_X3_layAll_r5 (goodIn_app ggL_told_X3_layAll_r6 (ggL_told_X3_layAll_r7))))))) ggL_told_X3_layAll_wsX30) ggL_told_X3_layAll_wsX20) ggL_told_X3_layAll_wsX00) ggL_told_X3_layAll_wsX10)
set_option maxRecDepth 20000 in
theorem gL_told_X3_layAll : GoodIn wsL_told (wsV RL 105 RX3 yX3_layAll wsX3_layAll) := goodIn_app (goodIn_of _ (by decide +kernel)) ggL_told_X3_layAll
