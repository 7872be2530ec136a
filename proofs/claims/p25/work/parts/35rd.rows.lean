theorem dL_wires_151 : decode cL_wires 151 = .ok (.iconst 1, 1) := by decide +kernel
theorem dL_wires_152 : decode cL_wires 152 = .ok (.iconst 1, 1) := by decide +kernel
theorem dL_wires_153 : decode cL_wires 153 = .ok (.bipush 9, 2) := by decide +kernel
theorem dL_wires_155 : decode cL_wires 155 = .ok (.invokevirtual 29, 3) := by decide +kernel
theorem dL_wires_158 : decode cL_wires 158 = .ok (.bipush (-2), 2) := by decide +kernel
theorem dL_wires_160 : decode cL_wires 160 = .ok (.if_icmp .ne 187, 3) := by decide +kernel
theorem dL_wires_163 : decode cL_wires 163 = .ok (.aload_n 0, 1) := by decide +kernel
theorem dL_wires_164 : decode cL_wires 164 = .ok (.iconst 1, 1) := by decide +kernel
theorem dL_wires_165 : decode cL_wires 165 = .ok (.iconst 5, 1) := by decide +kernel
theorem dL_wires_166 : decode cL_wires 166 = .ok (.bipush 100, 2) := by decide +kernel
theorem dL_wires_168 : decode cL_wires 168 = .ok (.invokevirtual 29, 3) := by decide +kernel
theorem dL_wires_171 : decode cL_wires 171 = .ok (.bipush 96, 2) := by decide +kernel
theorem dL_wires_173 : decode cL_wires 173 = .ok (.if_icmp .ne 174, 3) := by decide +kernel
theorem dL_wires_176 : decode cL_wires 176 = .ok (.aload_n 0, 1) := by decide +kernel
theorem dL_wires_177 : decode cL_wires 177 = .ok (.iconst 4, 1) := by decide +kernel
theorem dL_wires_178 : decode cL_wires 178 = .ok (.invokevirtual 13, 3) := by decide +kernel
theorem dL_wires_181 : decode cL_wires 181 = .ok (.bipush 7, 2) := by decide +kernel
theorem dL_wires_183 : decode cL_wires 183 = .ok (.if_icmp .ne 164, 3) := by decide +kernel
theorem dL_wires_186 : decode cL_wires 186 = .ok (.aload_n 0, 1) := by decide +kernel
theorem dL_wires_187 : decode cL_wires 187 = .ok (.iconst 0, 1) := by decide +kernel
theorem dL_wires_188 : decode cL_wires 188 = .ok (.iconst 1, 1) := by decide +kernel
theorem dL_wires_189 : decode cL_wires 189 = .ok (.iconst 0, 1) := by decide +kernel
theorem dL_wires_190 : decode cL_wires 190 = .ok (.invokevirtual 56, 3) := by decide +kernel
theorem dL_wires_193 : decode cL_wires 193 = .ok (.bipush (-5), 2) := by decide +kernel
theorem dL_wires_195 : decode cL_wires 195 = .ok (.if_icmp .ne 152, 3) := by decide +kernel
theorem dL_wires_198 : decode cL_wires 198 = .ok (.aload_n 0, 1) := by decide +kernel
theorem dL_wires_199 : decode cL_wires 199 = .ok (.iconst 2, 1) := by decide +kernel
theorem dL_wires_200 : decode cL_wires 200 = .ok (.iconst 3, 1) := by decide +kernel
theorem dL_wires_201 : decode cL_wires 201 = .ok (.sipush 200, 3) := by decide +kernel
theorem dL_wires_204 : decode cL_wires 204 = .ok (.invokevirtual 29, 3) := by decide +kernel
theorem dL_wires_207 : decode cL_wires 207 = .ok (.bipush 98, 2) := by decide +kernel
theorem dL_wires_209 : decode cL_wires 209 = .ok (.if_icmp .ne 138, 3) := by decide +kernel
theorem dL_wires_212 : decode cL_wires 212 = .ok (.aload_n 0, 1) := by decide +kernel
theorem dL_wires_213 : decode cL_wires 213 = .ok (.iconst 4, 1) := by decide +kernel
theorem dL_wires_214 : decode cL_wires 214 = .ok (.invokevirtual 13, 3) := by decide +kernel
theorem dL_wires_217 : decode cL_wires 217 = .ok (.bipush 13, 2) := by decide +kernel
theorem dL_wires_219 : decode cL_wires 219 = .ok (.if_icmp .ne 128, 3) := by decide +kernel
theorem dL_wires_222 : decode cL_wires 222 = .ok (.aload_n 0, 1) := by decide +kernel
theorem dL_wires_223 : decode cL_wires 223 = .ok (.iconst 1, 1) := by decide +kernel
theorem dL_wires_224 : decode cL_wires 224 = .ok (.iconst 2, 1) := by decide +kernel
theorem dL_wires_225 : decode cL_wires 225 = .ok (.iconst 0, 1) := by decide +kernel
theorem dL_wires_226 : decode cL_wires 226 = .ok (.invokevirtual 56, 3) := by decide +kernel
theorem dL_wires_229 : decode cL_wires 229 = .ok (.bipush 40, 2) := by decide +kernel
theorem dL_wires_231 : decode cL_wires 231 = .ok (.if_icmp .ne 116, 3) := by decide +kernel
theorem dL_wires_234 : decode cL_wires 234 = .ok (.aload_n 0, 1) := by decide +kernel
theorem dL_wires_235 : decode cL_wires 235 = .ok (.iconst 2, 1) := by decide +kernel
theorem dL_wires_236 : decode cL_wires 236 = .ok (.iconst 1, 1) := by decide +kernel
theorem dL_wires_237 : decode cL_wires 237 = .ok (.iconst 1, 1) := by decide +kernel
theorem dL_wires_238 : decode cL_wires 238 = .ok (.invokevirtual 56, 3) := by decide +kernel
theorem dL_wires_241 : decode cL_wires 241 = .ok (.bipush 64, 2) := by decide +kernel
theorem dL_wires_243 : decode cL_wires 243 = .ok (.if_icmp .ne 104, 3) := by decide +kernel
theorem dL_wires_246 : decode cL_wires 246 = .ok (.aload_n 0, 1) := by decide +kernel
theorem dL_wires_247 : decode cL_wires 247 = .ok (.iconst 1, 1) := by decide +kernel
theorem dL_wires_248 : decode cL_wires 248 = .ok (.iconst 2, 1) := by decide +kernel
theorem dL_wires_249 : decode cL_wires 249 = .ok (.iconst 2, 1) := by decide +kernel
theorem dL_wires_250 : decode cL_wires 250 = .ok (.invokevirtual 56, 3) := by decide +kernel
theorem dL_wires_253 : decode cL_wires 253 = .ok (.ifCond .ne 94, 3) := by decide +kernel
theorem dL_wires_256 : decode cL_wires 256 = .ok (.aload_n 0, 1) := by decide +kernel
theorem dL_wires_257 : decode cL_wires 257 = .ok (.iconst 2, 1) := by decide +kernel
theorem dL_wires_258 : decode cL_wires 258 = .ok (.invokevirtual 13, 3) := by decide +kernel
theorem dL_wires_261 : decode cL_wires 261 = .ok (.iconst 1, 1) := by decide +kernel
theorem dL_wires_262 : decode cL_wires 262 = .ok (.if_icmp .ne 85, 3) := by decide +kernel
theorem dL_wires_265 : decode cL_wires 265 = .ok (.aload_n 0, 1) := by decide +kernel
theorem dL_wires_266 : decode cL_wires 266 = .ok (.iconst 3, 1) := by decide +kernel
theorem dL_wires_267 : decode cL_wires 267 = .ok (.invokevirtual 13, 3) := by decide +kernel
theorem dL_wires_270 : decode cL_wires 270 = .ok (.ifCond .ne 77, 3) := by decide +kernel
theorem dL_wires_273 : decode cL_wires 273 = .ok (.aload_n 0, 1) := by decide +kernel
theorem dL_wires_274 : decode cL_wires 274 = .ok (.iconst 1, 1) := by decide +kernel
theorem dL_wires_275 : decode cL_wires 275 = .ok (.bipush 40, 2) := by decide +kernel
theorem dL_wires_277 : decode cL_wires 277 = .ok (.invokevirtual 53, 3) := by decide +kernel
