theorem dL_cell_0 : decode cL_cell 0 = .ok (.iload_n 1, 1) := by decide +kernel
theorem dL_cell_1 : decode cL_cell 1 = .ok (.aload_n 0, 1) := by decide +kernel
theorem dL_cell_2 : decode cL_cell 2 = .ok (.arraylength, 1) := by decide +kernel
theorem dL_cell_3 : decode cL_cell 3 = .ok (.if_icmp .ge 9, 3) := by decide +kernel
theorem dL_cell_6 : decode cL_cell 6 = .ok (.aload_n 0, 1) := by decide +kernel
theorem dL_cell_7 : decode cL_cell 7 = .ok (.iload_n 1, 1) := by decide +kernel
theorem dL_cell_8 : decode cL_cell 8 = .ok (.iaload, 1) := by decide +kernel
theorem dL_cell_9 : decode cL_cell 9 = .ok (.goto 15, 3) := by decide +kernel
theorem dL_cell_12 : decode cL_cell 12 = .ok (.sipush 7919, 3) := by decide +kernel
theorem dL_cell_15 : decode cL_cell 15 = .ok (.iload_n 1, 1) := by decide +kernel
theorem dL_cell_16 : decode cL_cell 16 = .ok (.iconst 3, 1) := by decide +kernel
theorem dL_cell_17 : decode cL_cell 17 = .ok (.iadd, 1) := by decide +kernel
theorem dL_cell_18 : decode cL_cell 18 = .ok (.imul, 1) := by decide +kernel
theorem dL_cell_19 : decode cL_cell 19 = .ok (.iload_n 1, 1) := by decide +kernel
theorem dL_cell_20 : decode cL_cell 20 = .ok (.bipush 11, 2) := by decide +kernel
theorem dL_cell_22 : decode cL_cell 22 = .ok (.iadd, 1) := by decide +kernel
theorem dL_cell_23 : decode cL_cell 23 = .ok (.imul, 1) := by decide +kernel
theorem dL_cell_24 : decode cL_cell 24 = .ok (.ireturn, 1) := by decide +kernel
theorem dL_low_0 : decode cL_low 0 = .ok (.iload_n 0, 1) := by decide +kernel
theorem dL_low_1 : decode cL_low 1 = .ok (.ldc 7, 2) := by decide +kernel
theorem dL_low_3 : decode cL_low 3 = .ok (.iand, 1) := by decide +kernel
theorem dL_low_4 : decode cL_low 4 = .ok (.iload_n 1, 1) := by decide +kernel
theorem dL_low_5 : decode cL_low 5 = .ok (.irem, 1) := by decide +kernel
theorem dL_low_6 : decode cL_low 6 = .ok (.ireturn, 1) := by decide +kernel
theorem dL_does_0 : decode cL_does 0 = .ok (.iload_n 1, 1) := by decide +kernel
theorem dL_does_1 : decode cL_does 1 = .ok (.iconst 4, 1) := by decide +kernel
theorem dL_does_2 : decode cL_does 2 = .ok (.ishr, 1) := by decide +kernel
theorem dL_does_3 : decode cL_does 3 = .ok (.bipush 8, 2) := by decide +kernel
theorem dL_does_5 : decode cL_does 5 = .ok (.invokestatic 8, 3) := by decide +kernel
theorem dL_does_8 : decode cL_does 8 = .ok (.istore_n 2, 1) := by decide +kernel
theorem dL_does_9 : decode cL_does 9 = .ok (.iload_n 1, 1) := by decide +kernel
theorem dL_does_10 : decode cL_does 10 = .ok (.bipush 7, 2) := by decide +kernel
theorem dL_does_12 : decode cL_does 12 = .ok (.ishr, 1) := by decide +kernel
theorem dL_does_13 : decode cL_does 13 = .ok (.iconst 3, 1) := by decide +kernel
theorem dL_does_14 : decode cL_does 14 = .ok (.invokestatic 8, 3) := by decide +kernel
theorem dL_does_17 : decode cL_does 17 = .ok (.istore_n 3, 1) := by decide +kernel
theorem dL_does_18 : decode cL_does 18 = .ok (.iconst 1, 1) := by decide +kernel
theorem dL_does_19 : decode cL_does 19 = .ok (.iload_n 1, 1) := by decide +kernel
theorem dL_does_20 : decode cL_does 20 = .ok (.bipush 9, 2) := by decide +kernel
theorem dL_does_22 : decode cL_does 22 = .ok (.ishr, 1) := by decide +kernel
theorem dL_does_23 : decode cL_does 23 = .ok (.bipush 99, 2) := by decide +kernel
theorem dL_does_25 : decode cL_does 25 = .ok (.invokestatic 8, 3) := by decide +kernel
theorem dL_does_28 : decode cL_does 28 = .ok (.iadd, 1) := by decide +kernel
theorem dL_does_29 : decode cL_does 29 = .ok (.istore 4, 2) := by decide +kernel
theorem dL_does_31 : decode cL_does 31 = .ok (.iload_n 1, 1) := by decide +kernel
theorem dL_does_32 : decode cL_does 32 = .ok (.bipush 15, 2) := by decide +kernel
theorem dL_does_34 : decode cL_does 34 = .ok (.iand, 1) := by decide +kernel
theorem dL_does_35 : decode cL_does 35 = .ok (.tableswitch 273 0 13 #[69, 69, 115, 115, 115, 147, 147, 147, 147, 177, 205, 205, 238, 245], 69) := by decide +kernel
theorem dL_does_104 : decode cL_does 104 = .ok (.aload_n 0, 1) := by decide +kernel
theorem dL_does_105 : decode cL_does 105 = .ok (.iconst 0, 1) := by decide +kernel
theorem dL_does_106 : decode cL_does 106 = .ok (.invokevirtual 14, 3) := by decide +kernel
theorem dL_does_109 : decode cL_does 109 = .ok (.sipush 9000, 3) := by decide +kernel
theorem dL_does_112 : decode cL_does 112 = .ok (.if_icmp .ge 15, 3) := by decide +kernel
theorem dL_does_115 : decode cL_does 115 = .ok (.aload_n 0, 1) := by decide +kernel
theorem dL_does_116 : decode cL_does 116 = .ok (.sipush 900, 3) := by decide +kernel
theorem dL_does_119 : decode cL_does 119 = .ok (.invokevirtual 20, 3) := by decide +kernel
theorem dL_does_122 : decode cL_does 122 = .ok (.pop, 1) := by decide +kernel
theorem dL_does_123 : decode cL_does 123 = .ok (.sipush 900, 3) := by decide +kernel
theorem dL_does_126 : decode cL_does 126 = .ok (.ireturn, 1) := by decide +kernel
theorem dL_does_127 : decode cL_does 127 = .ok (.aload_n 0, 1) := by decide +kernel
theorem dL_does_128 : decode cL_does 128 = .ok (.iload_n 2, 1) := by decide +kernel
theorem dL_does_129 : decode cL_does 129 = .ok (.iload_n 1, 1) := by decide +kernel
theorem dL_does_130 : decode cL_does 130 = .ok (.bipush 12, 2) := by decide +kernel
theorem dL_does_132 : decode cL_does 132 = .ok (.ishr, 1) := by decide +kernel
theorem dL_does_133 : decode cL_does 133 = .ok (.iconst 1, 1) := by decide +kernel
theorem dL_does_134 : decode cL_does 134 = .ok (.iand, 1) := by decide +kernel
theorem dL_does_135 : decode cL_does 135 = .ok (.iconst 1, 1) := by decide +kernel
theorem dL_does_136 : decode cL_does 136 = .ok (.if_icmp .ne 7, 3) := by decide +kernel
theorem dL_does_139 : decode cL_does 139 = .ok (.iconst 1, 1) := by decide +kernel
theorem dL_does_140 : decode cL_does 140 = .ok (.goto 4, 3) := by decide +kernel
theorem dL_does_143 : decode cL_does 143 = .ok (.iconst 0, 1) := by decide +kernel
theorem dL_does_144 : decode cL_does 144 = .ok (.invokevirtual 23, 3) := by decide +kernel
theorem dL_does_147 : decode cL_does 147 = .ok (.iconst 0, 1) := by decide +kernel
theorem dL_does_148 : decode cL_does 148 = .ok (.imul, 1) := by decide +kernel
theorem dL_does_149 : decode cL_does 149 = .ok (.ireturn, 1) := by decide +kernel
theorem dL_does_150 : decode cL_does 150 = .ok (.aload_n 0, 1) := by decide +kernel
theorem dL_does_151 : decode cL_does 151 = .ok (.iconst 0, 1) := by decide +kernel
theorem dL_does_152 : decode cL_does 152 = .ok (.invokevirtual 14, 3) := by decide +kernel
theorem dL_does_155 : decode cL_does 155 = .ok (.sipush 300, 3) := by decide +kernel
theorem dL_does_158 : decode cL_does 158 = .ok (.if_icmp .lt 22, 3) := by decide +kernel
theorem dL_does_161 : decode cL_does 161 = .ok (.aload_n 0, 1) := by decide +kernel
theorem dL_does_162 : decode cL_does 162 = .ok (.iconst 1, 1) := by decide +kernel
theorem dL_does_163 : decode cL_does 163 = .ok (.iload_n 3, 1) := by decide +kernel
theorem dL_does_164 : decode cL_does 164 = .ok (.iadd, 1) := by decide +kernel
theorem dL_does_165 : decode cL_does 165 = .ok (.invokevirtual 14, 3) := by decide +kernel
theorem dL_does_168 : decode cL_does 168 = .ok (.bipush 47, 2) := by decide +kernel
theorem dL_does_170 : decode cL_does 170 = .ok (.if_icmp .gt 10, 3) := by decide +kernel
theorem dL_does_173 : decode cL_does 173 = .ok (.aload_n 0, 1) := by decide +kernel
theorem dL_does_174 : decode cL_does 174 = .ok (.iload_n 3, 1) := by decide +kernel
theorem dL_does_175 : decode cL_does 175 = .ok (.iconst 3, 1) := by decide +kernel
theorem dL_does_176 : decode cL_does 176 = .ok (.invokevirtual 27, 3) := by decide +kernel
theorem dL_does_179 : decode cL_does 179 = .ok (.pop, 1) := by decide +kernel
theorem dL_does_180 : decode cL_does 180 = .ok (.iconst 0, 1) := by decide +kernel
theorem dL_does_181 : decode cL_does 181 = .ok (.ireturn, 1) := by decide +kernel
theorem dL_does_182 : decode cL_does 182 = .ok (.aload_n 0, 1) := by decide +kernel
theorem dL_does_183 : decode cL_does 183 = .ok (.iconst 1, 1) := by decide +kernel
theorem dL_does_184 : decode cL_does 184 = .ok (.iload_n 3, 1) := by decide +kernel
theorem dL_does_185 : decode cL_does 185 = .ok (.iadd, 1) := by decide +kernel
theorem dL_does_186 : decode cL_does 186 = .ok (.invokevirtual 14, 3) := by decide +kernel
theorem dL_does_189 : decode cL_does 189 = .ok (.ifCond .le 21, 3) := by decide +kernel
theorem dL_does_192 : decode cL_does 192 = .ok (.aload_n 0, 1) := by decide +kernel
theorem dL_does_193 : decode cL_does 193 = .ok (.iload_n 2, 1) := by decide +kernel
theorem dL_does_194 : decode cL_does 194 = .ok (.iconst 0, 1) := by decide +kernel
theorem dL_does_195 : decode cL_does 195 = .ok (.invokevirtual 30, 3) := by decide +kernel
theorem dL_does_198 : decode cL_does 198 = .ok (.bipush 6, 2) := by decide +kernel
theorem dL_does_200 : decode cL_does 200 = .ok (.if_icmp .ge 10, 3) := by decide +kernel
theorem dL_does_203 : decode cL_does 203 = .ok (.aload_n 0, 1) := by decide +kernel
theorem dL_does_204 : decode cL_does 204 = .ok (.iload_n 2, 1) := by decide +kernel
theorem dL_does_205 : decode cL_does 205 = .ok (.iload_n 3, 1) := by decide +kernel
theorem dL_does_206 : decode cL_does 206 = .ok (.invokevirtual 33, 3) := by decide +kernel
theorem dL_does_209 : decode cL_does 209 = .ok (.pop, 1) := by decide +kernel
theorem dL_does_210 : decode cL_does 210 = .ok (.iconst 0, 1) := by decide +kernel
theorem dL_does_211 : decode cL_does 211 = .ok (.ireturn, 1) := by decide +kernel
theorem dL_does_212 : decode cL_does 212 = .ok (.aload_n 0, 1) := by decide +kernel
theorem dL_does_213 : decode cL_does 213 = .ok (.bipush 10, 2) := by decide +kernel
theorem dL_does_215 : decode cL_does 215 = .ok (.invokevirtual 14, 3) := by decide +kernel
theorem dL_does_218 : decode cL_does 218 = .ok (.iconst 5, 1) := by decide +kernel
theorem dL_does_219 : decode cL_does 219 = .ok (.if_icmp .ge 19, 3) := by decide +kernel
theorem dL_does_222 : decode cL_does 222 = .ok (.aload_n 0, 1) := by decide +kernel
theorem dL_does_223 : decode cL_does 223 = .ok (.iconst 1, 1) := by decide +kernel
theorem dL_does_224 : decode cL_does 224 = .ok (.iload_n 1, 1) := by decide +kernel
theorem dL_does_225 : decode cL_does 225 = .ok (.bipush 9, 2) := by decide +kernel
theorem dL_does_227 : decode cL_does 227 = .ok (.ishr, 1) := by decide +kernel
theorem dL_does_228 : decode cL_does 228 = .ok (.bipush 20, 2) := by decide +kernel
theorem dL_does_230 : decode cL_does 230 = .ok (.invokestatic 8, 3) := by decide +kernel
theorem dL_does_233 : decode cL_does 233 = .ok (.iadd, 1) := by decide +kernel
theorem dL_does_234 : decode cL_does 234 = .ok (.invokevirtual 36, 3) := by decide +kernel
theorem dL_does_237 : decode cL_does 237 = .ok (.pop, 1) := by decide +kernel
theorem dL_does_238 : decode cL_does 238 = .ok (.iconst 0, 1) := by decide +kernel
theorem dL_does_239 : decode cL_does 239 = .ok (.ireturn, 1) := by decide +kernel
theorem dL_does_240 : decode cL_does 240 = .ok (.aload_n 0, 1) := by decide +kernel
theorem dL_does_241 : decode cL_does 241 = .ok (.bipush 10, 2) := by decide +kernel
theorem dL_does_243 : decode cL_does 243 = .ok (.invokevirtual 14, 3) := by decide +kernel
theorem dL_does_246 : decode cL_does 246 = .ok (.ifCond .le 25, 3) := by decide +kernel
theorem dL_does_249 : decode cL_does 249 = .ok (.aload_n 0, 1) := by decide +kernel
theorem dL_does_250 : decode cL_does 250 = .ok (.iconst 0, 1) := by decide +kernel
theorem dL_does_251 : decode cL_does 251 = .ok (.iload_n 2, 1) := by decide +kernel
theorem dL_does_252 : decode cL_does 252 = .ok (.iload_n 3, 1) := by decide +kernel
theorem dL_does_253 : decode cL_does 253 = .ok (.iload 4, 2) := by decide +kernel
theorem dL_does_255 : decode cL_does 255 = .ok (.invokevirtual 39, 3) := by decide +kernel
theorem dL_does_258 : decode cL_does 258 = .ok (.ifCond .ne 13, 3) := by decide +kernel
theorem dL_does_261 : decode cL_does 261 = .ok (.aload_n 0, 1) := by decide +kernel
theorem dL_does_262 : decode cL_does 262 = .ok (.iconst 0, 1) := by decide +kernel
theorem dL_does_263 : decode cL_does 263 = .ok (.iload_n 2, 1) := by decide +kernel
theorem dL_does_264 : decode cL_does 264 = .ok (.iload_n 3, 1) := by decide +kernel
theorem dL_does_265 : decode cL_does 265 = .ok (.iload 4, 2) := by decide +kernel
theorem dL_does_267 : decode cL_does 267 = .ok (.invokevirtual 43, 3) := by decide +kernel
theorem dL_does_270 : decode cL_does 270 = .ok (.pop, 1) := by decide +kernel
theorem dL_does_271 : decode cL_does 271 = .ok (.iconst 0, 1) := by decide +kernel
theorem dL_does_272 : decode cL_does 272 = .ok (.ireturn, 1) := by decide +kernel
theorem dL_does_273 : decode cL_does 273 = .ok (.aload_n 0, 1) := by decide +kernel
theorem dL_does_274 : decode cL_does 274 = .ok (.invokevirtual 46, 3) := by decide +kernel
theorem dL_does_277 : decode cL_does 277 = .ok (.iconst 0, 1) := by decide +kernel
theorem dL_does_278 : decode cL_does 278 = .ok (.imul, 1) := by decide +kernel
theorem dL_does_279 : decode cL_does 279 = .ok (.ireturn, 1) := by decide +kernel
theorem dL_does_280 : decode cL_does 280 = .ok (.aload_n 0, 1) := by decide +kernel
theorem dL_does_281 : decode cL_does 281 = .ok (.bipush 14, 2) := by decide +kernel
theorem dL_does_283 : decode cL_does 283 = .ok (.invokevirtual 14, 3) := by decide +kernel
theorem dL_does_286 : decode cL_does 286 = .ok (.bipush 20, 2) := by decide +kernel
theorem dL_does_288 : decode cL_does 288 = .ok (.if_icmp .ge 18, 3) := by decide +kernel
theorem dL_does_291 : decode cL_does 291 = .ok (.aload_n 0, 1) := by decide +kernel
theorem dL_does_292 : decode cL_does 292 = .ok (.iload_n 2, 1) := by decide +kernel
theorem dL_does_293 : decode cL_does 293 = .ok (.iload_n 2, 1) := by decide +kernel
theorem dL_does_294 : decode cL_does 294 = .ok (.iconst 1, 1) := by decide +kernel
theorem dL_does_295 : decode cL_does 295 = .ok (.iadd, 1) := by decide +kernel
theorem dL_does_296 : decode cL_does 296 = .ok (.iload_n 3, 1) := by decide +kernel
theorem dL_does_297 : decode cL_does 297 = .ok (.iadd, 1) := by decide +kernel
theorem dL_does_298 : decode cL_does 298 = .ok (.bipush 8, 2) := by decide +kernel
theorem dL_does_300 : decode cL_does 300 = .ok (.irem, 1) := by decide +kernel
theorem dL_does_301 : decode cL_does 301 = .ok (.iconst (-1), 1) := by decide +kernel
theorem dL_does_302 : decode cL_does 302 = .ok (.invokevirtual 50, 3) := by decide +kernel
theorem dL_does_305 : decode cL_does 305 = .ok (.pop, 1) := by decide +kernel
theorem dL_does_306 : decode cL_does 306 = .ok (.iconst 0, 1) := by decide +kernel
theorem dL_does_307 : decode cL_does 307 = .ok (.ireturn, 1) := by decide +kernel
theorem dL_does_308 : decode cL_does 308 = .ok (.aload_n 0, 1) := by decide +kernel
theorem dL_does_309 : decode cL_does 309 = .ok (.iload_n 1, 1) := by decide +kernel
theorem dL_does_310 : decode cL_does 310 = .ok (.iconst 4, 1) := by decide +kernel
theorem dL_does_311 : decode cL_does 311 = .ok (.ishr, 1) := by decide +kernel
theorem dL_does_312 : decode cL_does 312 = .ok (.iconst 3, 1) := by decide +kernel
theorem dL_does_313 : decode cL_does 313 = .ok (.iand, 1) := by decide +kernel
theorem dL_does_314 : decode cL_does 314 = .ok (.ifCond .ne 7, 3) := by decide +kernel
theorem dL_does_317 : decode cL_does 317 = .ok (.iconst 1, 1) := by decide +kernel
theorem dL_does_318 : decode cL_does 318 = .ok (.goto 4, 3) := by decide +kernel
theorem dL_does_321 : decode cL_does 321 = .ok (.iconst 0, 1) := by decide +kernel
theorem dL_does_322 : decode cL_does 322 = .ok (.invokevirtual 54, 3) := by decide +kernel
theorem dL_does_325 : decode cL_does 325 = .ok (.iconst 0, 1) := by decide +kernel
theorem dL_does_326 : decode cL_does 326 = .ok (.imul, 1) := by decide +kernel
theorem dL_does_327 : decode cL_does 327 = .ok (.ireturn, 1) := by decide +kernel
theorem dL_rate_0 : decode cL_rate 0 = .ok (.bipush 6, 2) := by decide +kernel
theorem dL_rate_2 : decode cL_rate 2 = .ok (.iconst 2, 1) := by decide +kernel
theorem dL_rate_3 : decode cL_rate 3 = .ok (.iload_n 0, 1) := by decide +kernel
theorem dL_rate_4 : decode cL_rate 4 = .ok (.imul, 1) := by decide +kernel
theorem dL_rate_5 : decode cL_rate 5 = .ok (.isub, 1) := by decide +kernel
theorem dL_rate_6 : decode cL_rate 6 = .ok (.ireturn, 1) := by decide +kernel
theorem dL_melting_0 : decode cL_melting 0 = .ok (.iconst 0, 1) := by decide +kernel
theorem dL_melting_1 : decode cL_melting 1 = .ok (.istore_n 2, 1) := by decide +kernel
theorem dL_melting_2 : decode cL_melting 2 = .ok (.iconst 0, 1) := by decide +kernel
theorem dL_melting_3 : decode cL_melting 3 = .ok (.istore_n 3, 1) := by decide +kernel
theorem dL_melting_4 : decode cL_melting 4 = .ok (.iload_n 3, 1) := by decide +kernel
theorem dL_melting_5 : decode cL_melting 5 = .ok (.aload_n 0, 1) := by decide +kernel
theorem dL_melting_6 : decode cL_melting 6 = .ok (.iload_n 1, 1) := by decide +kernel
theorem dL_melting_7 : decode cL_melting 7 = .ok (.iconst 0, 1) := by decide +kernel
theorem dL_melting_8 : decode cL_melting 8 = .ok (.invokevirtual 30, 3) := by decide +kernel
theorem dL_melting_11 : decode cL_melting 11 = .ok (.if_icmp .ge 56, 3) := by decide +kernel
theorem dL_melting_14 : decode cL_melting 14 = .ok (.aload_n 0, 1) := by decide +kernel
theorem dL_melting_15 : decode cL_melting 15 = .ok (.iload_n 1, 1) := by decide +kernel
theorem dL_melting_16 : decode cL_melting 16 = .ok (.iload_n 3, 1) := by decide +kernel
theorem dL_melting_17 : decode cL_melting 17 = .ok (.iconst 0, 1) := by decide +kernel
theorem dL_melting_18 : decode cL_melting 18 = .ok (.invokevirtual 58, 3) := by decide +kernel
theorem dL_melting_21 : decode cL_melting 21 = .ok (.invokestatic 61, 3) := by decide +kernel
theorem dL_melting_24 : decode cL_melting 24 = .ok (.aload_n 0, 1) := by decide +kernel
theorem dL_melting_25 : decode cL_melting 25 = .ok (.iload_n 1, 1) := by decide +kernel
theorem dL_melting_26 : decode cL_melting 26 = .ok (.iload_n 3, 1) := by decide +kernel
theorem dL_melting_27 : decode cL_melting 27 = .ok (.iconst 2, 1) := by decide +kernel
theorem dL_melting_28 : decode cL_melting 28 = .ok (.invokevirtual 58, 3) := by decide +kernel
theorem dL_melting_31 : decode cL_melting 31 = .ok (.imul, 1) := by decide +kernel
theorem dL_melting_32 : decode cL_melting 32 = .ok (.istore 4, 2) := by decide +kernel
theorem dL_melting_34 : decode cL_melting 34 = .ok (.iload_n 2, 1) := by decide +kernel
theorem dL_melting_35 : decode cL_melting 35 = .ok (.iload 4, 2) := by decide +kernel
theorem dL_melting_37 : decode cL_melting 37 = .ok (.aload_n 0, 1) := by decide +kernel
theorem dL_melting_38 : decode cL_melting 38 = .ok (.iload_n 1, 1) := by decide +kernel
theorem dL_melting_39 : decode cL_melting 39 = .ok (.iload_n 3, 1) := by decide +kernel
theorem dL_melting_40 : decode cL_melting 40 = .ok (.iconst 1, 1) := by decide +kernel
theorem dL_melting_41 : decode cL_melting 41 = .ok (.invokevirtual 58, 3) := by decide +kernel
theorem dL_melting_44 : decode cL_melting 44 = .ok (.if_icmp .ge 8, 3) := by decide +kernel
theorem dL_melting_47 : decode cL_melting 47 = .ok (.iload 4, 2) := by decide +kernel
theorem dL_melting_49 : decode cL_melting 49 = .ok (.goto 10, 3) := by decide +kernel
theorem dL_melting_52 : decode cL_melting 52 = .ok (.aload_n 0, 1) := by decide +kernel
theorem dL_melting_53 : decode cL_melting 53 = .ok (.iload_n 1, 1) := by decide +kernel
theorem dL_melting_54 : decode cL_melting 54 = .ok (.iload_n 3, 1) := by decide +kernel
theorem dL_melting_55 : decode cL_melting 55 = .ok (.iconst 1, 1) := by decide +kernel
theorem dL_melting_56 : decode cL_melting 56 = .ok (.invokevirtual 58, 3) := by decide +kernel
theorem dL_melting_59 : decode cL_melting 59 = .ok (.iadd, 1) := by decide +kernel
theorem dL_melting_60 : decode cL_melting 60 = .ok (.istore_n 2, 1) := by decide +kernel
theorem dL_melting_61 : decode cL_melting 61 = .ok (.iinc 3 1, 3) := by decide +kernel
theorem dL_melting_64 : decode cL_melting 64 = .ok (.goto (-60), 3) := by decide +kernel
theorem dL_melting_67 : decode cL_melting 67 = .ok (.iload_n 2, 1) := by decide +kernel
theorem dL_melting_68 : decode cL_melting 68 = .ok (.ireturn, 1) := by decide +kernel
theorem dL_areSitesSo_0 : decode cL_areSitesSo 0 = .ok (.iconst 0, 1) := by decide +kernel
theorem dL_areSitesSo_1 : decode cL_areSitesSo 1 = .ok (.istore_n 2, 1) := by decide +kernel
theorem dL_areSitesSo_2 : decode cL_areSitesSo 2 = .ok (.iconst 0, 1) := by decide +kernel
theorem dL_areSitesSo_3 : decode cL_areSitesSo 3 = .ok (.istore_n 3, 1) := by decide +kernel
theorem dL_areSitesSo_4 : decode cL_areSitesSo 4 = .ok (.iconst 0, 1) := by decide +kernel
theorem dL_areSitesSo_5 : decode cL_areSitesSo 5 = .ok (.istore 4, 2) := by decide +kernel
theorem dL_areSitesSo_7 : decode cL_areSitesSo 7 = .ok (.iconst 1, 1) := by decide +kernel
theorem dL_areSitesSo_8 : decode cL_areSitesSo 8 = .ok (.istore 5, 2) := by decide +kernel
theorem dL_areSitesSo_10 : decode cL_areSitesSo 10 = .ok (.iconst 0, 1) := by decide +kernel
theorem dL_areSitesSo_11 : decode cL_areSitesSo 11 = .ok (.istore 6, 2) := by decide +kernel
theorem dL_areSitesSo_13 : decode cL_areSitesSo 13 = .ok (.iload 6, 2) := by decide +kernel
theorem dL_areSitesSo_15 : decode cL_areSitesSo 15 = .ok (.bipush 8, 2) := by decide +kernel
theorem dL_areSitesSo_17 : decode cL_areSitesSo 17 = .ok (.if_icmp .ge 121, 3) := by decide +kernel
theorem dL_areSitesSo_20 : decode cL_areSitesSo 20 = .ok (.iload_n 2, 1) := by decide +kernel
theorem dL_areSitesSo_21 : decode cL_areSitesSo 21 = .ok (.aload_n 0, 1) := by decide +kernel
theorem dL_areSitesSo_22 : decode cL_areSitesSo 22 = .ok (.iload 6, 2) := by decide +kernel
theorem dL_areSitesSo_24 : decode cL_areSitesSo 24 = .ok (.iconst 1, 1) := by decide +kernel
theorem dL_areSitesSo_25 : decode cL_areSitesSo 25 = .ok (.invokevirtual 30, 3) := by decide +kernel
theorem dL_areSitesSo_28 : decode cL_areSitesSo 28 = .ok (.iadd, 1) := by decide +kernel
theorem dL_areSitesSo_29 : decode cL_areSitesSo 29 = .ok (.istore_n 2, 1) := by decide +kernel
theorem dL_areSitesSo_30 : decode cL_areSitesSo 30 = .ok (.iload_n 3, 1) := by decide +kernel
theorem dL_areSitesSo_31 : decode cL_areSitesSo 31 = .ok (.aload_n 0, 1) := by decide +kernel
theorem dL_areSitesSo_32 : decode cL_areSitesSo 32 = .ok (.iload 6, 2) := by decide +kernel
theorem dL_areSitesSo_34 : decode cL_areSitesSo 34 = .ok (.iconst 3, 1) := by decide +kernel
theorem dL_areSitesSo_35 : decode cL_areSitesSo 35 = .ok (.invokevirtual 30, 3) := by decide +kernel
theorem dL_areSitesSo_38 : decode cL_areSitesSo 38 = .ok (.iadd, 1) := by decide +kernel
theorem dL_areSitesSo_39 : decode cL_areSitesSo 39 = .ok (.istore_n 3, 1) := by decide +kernel
theorem dL_areSitesSo_40 : decode cL_areSitesSo 40 = .ok (.iload 4, 2) := by decide +kernel
theorem dL_areSitesSo_42 : decode cL_areSitesSo 42 = .ok (.aload_n 0, 1) := by decide +kernel
theorem dL_areSitesSo_43 : decode cL_areSitesSo 43 = .ok (.iload 6, 2) := by decide +kernel
theorem dL_areSitesSo_45 : decode cL_areSitesSo 45 = .ok (.iconst 4, 1) := by decide +kernel
theorem dL_areSitesSo_46 : decode cL_areSitesSo 46 = .ok (.invokevirtual 30, 3) := by decide +kernel
theorem dL_areSitesSo_49 : decode cL_areSitesSo 49 = .ok (.iadd, 1) := by decide +kernel
theorem dL_areSitesSo_50 : decode cL_areSitesSo 50 = .ok (.istore 4, 2) := by decide +kernel
theorem dL_areSitesSo_52 : decode cL_areSitesSo 52 = .ok (.iload 5, 2) := by decide +kernel
theorem dL_areSitesSo_54 : decode cL_areSitesSo 54 = .ok (.ifCond .eq 43, 3) := by decide +kernel
theorem dL_areSitesSo_57 : decode cL_areSitesSo 57 = .ok (.aload_n 0, 1) := by decide +kernel
theorem dL_areSitesSo_58 : decode cL_areSitesSo 58 = .ok (.iload 6, 2) := by decide +kernel
theorem dL_areSitesSo_60 : decode cL_areSitesSo 60 = .ok (.iconst 0, 1) := by decide +kernel
theorem dL_areSitesSo_61 : decode cL_areSitesSo 61 = .ok (.invokevirtual 30, 3) := by decide +kernel
theorem dL_areSitesSo_64 : decode cL_areSitesSo 64 = .ok (.bipush 6, 2) := by decide +kernel
theorem dL_areSitesSo_66 : decode cL_areSitesSo 66 = .ok (.if_icmp .gt 31, 3) := by decide +kernel
theorem dL_areSitesSo_69 : decode cL_areSitesSo 69 = .ok (.aload_n 0, 1) := by decide +kernel
theorem dL_areSitesSo_70 : decode cL_areSitesSo 70 = .ok (.iload 6, 2) := by decide +kernel
theorem dL_areSitesSo_72 : decode cL_areSitesSo 72 = .ok (.iconst 1, 1) := by decide +kernel
theorem dL_areSitesSo_73 : decode cL_areSitesSo 73 = .ok (.invokevirtual 64, 3) := by decide +kernel
theorem dL_areSitesSo_76 : decode cL_areSitesSo 76 = .ok (.aload_n 0, 1) := by decide +kernel
theorem dL_areSitesSo_77 : decode cL_areSitesSo 77 = .ok (.iload 6, 2) := by decide +kernel
theorem dL_areSitesSo_79 : decode cL_areSitesSo 79 = .ok (.iconst 1, 1) := by decide +kernel
theorem dL_areSitesSo_80 : decode cL_areSitesSo 80 = .ok (.invokevirtual 30, 3) := by decide +kernel
theorem dL_areSitesSo_83 : decode cL_areSitesSo 83 = .ok (.aload_n 0, 1) := by decide +kernel
theorem dL_areSitesSo_84 : decode cL_areSitesSo 84 = .ok (.iload 6, 2) := by decide +kernel
theorem dL_areSitesSo_86 : decode cL_areSitesSo 86 = .ok (.invokestatic 67, 3) := by decide +kernel
theorem dL_areSitesSo_89 : decode cL_areSitesSo 89 = .ok (.isub, 1) := by decide +kernel
theorem dL_areSitesSo_90 : decode cL_areSitesSo 90 = .ok (.if_icmp .ne 7, 3) := by decide +kernel
theorem dL_areSitesSo_93 : decode cL_areSitesSo 93 = .ok (.iconst 1, 1) := by decide +kernel
theorem dL_areSitesSo_94 : decode cL_areSitesSo 94 = .ok (.goto 4, 3) := by decide +kernel
theorem dL_areSitesSo_97 : decode cL_areSitesSo 97 = .ok (.iconst 0, 1) := by decide +kernel
theorem dL_areSitesSo_98 : decode cL_areSitesSo 98 = .ok (.istore 5, 2) := by decide +kernel
theorem dL_areSitesSo_100 : decode cL_areSitesSo 100 = .ok (.iload 5, 2) := by decide +kernel
theorem dL_areSitesSo_102 : decode cL_areSitesSo 102 = .ok (.ifCond .eq 27, 3) := by decide +kernel
theorem dL_areSitesSo_105 : decode cL_areSitesSo 105 = .ok (.aload_n 0, 1) := by decide +kernel
theorem dL_areSitesSo_106 : decode cL_areSitesSo 106 = .ok (.iload 6, 2) := by decide +kernel
theorem dL_areSitesSo_108 : decode cL_areSitesSo 108 = .ok (.iconst 0, 1) := by decide +kernel
theorem dL_areSitesSo_109 : decode cL_areSitesSo 109 = .ok (.invokevirtual 30, 3) := by decide +kernel
theorem dL_areSitesSo_112 : decode cL_areSitesSo 112 = .ok (.ifCond .gt 13, 3) := by decide +kernel
theorem dL_areSitesSo_115 : decode cL_areSitesSo 115 = .ok (.aload_n 0, 1) := by decide +kernel
theorem dL_areSitesSo_116 : decode cL_areSitesSo 116 = .ok (.iload 6, 2) := by decide +kernel
theorem dL_areSitesSo_118 : decode cL_areSitesSo 118 = .ok (.invokevirtual 71, 3) := by decide +kernel
theorem dL_areSitesSo_121 : decode cL_areSitesSo 121 = .ok (.iconst (-1), 1) := by decide +kernel
theorem dL_areSitesSo_122 : decode cL_areSitesSo 122 = .ok (.if_icmp .ne 7, 3) := by decide +kernel
theorem dL_areSitesSo_125 : decode cL_areSitesSo 125 = .ok (.iconst 1, 1) := by decide +kernel
theorem dL_areSitesSo_126 : decode cL_areSitesSo 126 = .ok (.goto 4, 3) := by decide +kernel
theorem dL_areSitesSo_129 : decode cL_areSitesSo 129 = .ok (.iconst 0, 1) := by decide +kernel
theorem dL_areSitesSo_130 : decode cL_areSitesSo 130 = .ok (.istore 5, 2) := by decide +kernel
theorem dL_areSitesSo_132 : decode cL_areSitesSo 132 = .ok (.iinc 6 1, 3) := by decide +kernel
theorem dL_areSitesSo_135 : decode cL_areSitesSo 135 = .ok (.goto (-122), 3) := by decide +kernel
theorem dL_areSitesSo_138 : decode cL_areSitesSo 138 = .ok (.aload_n 0, 1) := by decide +kernel
theorem dL_areSitesSo_139 : decode cL_areSitesSo 139 = .ok (.iconst 1, 1) := by decide +kernel
theorem dL_areSitesSo_140 : decode cL_areSitesSo 140 = .ok (.invokevirtual 14, 3) := by decide +kernel
theorem dL_areSitesSo_143 : decode cL_areSitesSo 143 = .ok (.aload_n 0, 1) := by decide +kernel
theorem dL_areSitesSo_144 : decode cL_areSitesSo 144 = .ok (.iconst 2, 1) := by decide +kernel
theorem dL_areSitesSo_145 : decode cL_areSitesSo 145 = .ok (.invokevirtual 14, 3) := by decide +kernel
theorem dL_areSitesSo_148 : decode cL_areSitesSo 148 = .ok (.iadd, 1) := by decide +kernel
theorem dL_areSitesSo_149 : decode cL_areSitesSo 149 = .ok (.aload_n 0, 1) := by decide +kernel
theorem dL_areSitesSo_150 : decode cL_areSitesSo 150 = .ok (.iconst 3, 1) := by decide +kernel
theorem dL_areSitesSo_151 : decode cL_areSitesSo 151 = .ok (.invokevirtual 14, 3) := by decide +kernel
theorem dL_areSitesSo_154 : decode cL_areSitesSo 154 = .ok (.iadd, 1) := by decide +kernel
theorem dL_areSitesSo_155 : decode cL_areSitesSo 155 = .ok (.istore 6, 2) := by decide +kernel
theorem dL_areSitesSo_157 : decode cL_areSitesSo 157 = .ok (.iload 5, 2) := by decide +kernel
theorem dL_areSitesSo_159 : decode cL_areSitesSo 159 = .ok (.ifCond .eq 45, 3) := by decide +kernel
theorem dL_areSitesSo_162 : decode cL_areSitesSo 162 = .ok (.iload_n 2, 1) := by decide +kernel
theorem dL_areSitesSo_163 : decode cL_areSitesSo 163 = .ok (.aload_n 0, 1) := by decide +kernel
theorem dL_areSitesSo_164 : decode cL_areSitesSo 164 = .ok (.bipush 6, 2) := by decide +kernel
theorem dL_areSitesSo_166 : decode cL_areSitesSo 166 = .ok (.invokevirtual 14, 3) := by decide +kernel
theorem dL_areSitesSo_169 : decode cL_areSitesSo 169 = .ok (.if_icmp .ne 35, 3) := by decide +kernel
theorem dL_areSitesSo_172 : decode cL_areSitesSo 172 = .ok (.iload 4, 2) := by decide +kernel
theorem dL_areSitesSo_174 : decode cL_areSitesSo 174 = .ok (.aload_n 0, 1) := by decide +kernel
theorem dL_areSitesSo_175 : decode cL_areSitesSo 175 = .ok (.bipush 8, 2) := by decide +kernel
theorem dL_areSitesSo_177 : decode cL_areSitesSo 177 = .ok (.invokevirtual 14, 3) := by decide +kernel
theorem dL_areSitesSo_180 : decode cL_areSitesSo 180 = .ok (.if_icmp .ne 24, 3) := by decide +kernel
theorem dL_areSitesSo_183 : decode cL_areSitesSo 183 = .ok (.iload_n 3, 1) := by decide +kernel
theorem dL_areSitesSo_184 : decode cL_areSitesSo 184 = .ok (.aload_n 0, 1) := by decide +kernel
theorem dL_areSitesSo_185 : decode cL_areSitesSo 185 = .ok (.bipush 7, 2) := by decide +kernel
theorem dL_areSitesSo_187 : decode cL_areSitesSo 187 = .ok (.invokevirtual 14, 3) := by decide +kernel
theorem dL_areSitesSo_190 : decode cL_areSitesSo 190 = .ok (.aload_n 0, 1) := by decide +kernel
theorem dL_areSitesSo_191 : decode cL_areSitesSo 191 = .ok (.bipush 9, 2) := by decide +kernel
theorem dL_areSitesSo_193 : decode cL_areSitesSo 193 = .ok (.invokevirtual 14, 3) := by decide +kernel
theorem dL_areSitesSo_196 : decode cL_areSitesSo 196 = .ok (.iadd, 1) := by decide +kernel
theorem dL_areSitesSo_197 : decode cL_areSitesSo 197 = .ok (.if_icmp .ne 7, 3) := by decide +kernel
theorem dL_areSitesSo_200 : decode cL_areSitesSo 200 = .ok (.iconst 1, 1) := by decide +kernel
theorem dL_areSitesSo_201 : decode cL_areSitesSo 201 = .ok (.goto 4, 3) := by decide +kernel
theorem dL_areSitesSo_204 : decode cL_areSitesSo 204 = .ok (.iconst 0, 1) := by decide +kernel
theorem dL_areSitesSo_205 : decode cL_areSitesSo 205 = .ok (.istore 5, 2) := by decide +kernel
theorem dL_areSitesSo_207 : decode cL_areSitesSo 207 = .ok (.iload 5, 2) := by decide +kernel
theorem dL_areSitesSo_209 : decode cL_areSitesSo 209 = .ok (.ifCond .eq 34, 3) := by decide +kernel
theorem dL_areSitesSo_212 : decode cL_areSitesSo 212 = .ok (.iload_n 1, 1) := by decide +kernel
theorem dL_areSitesSo_213 : decode cL_areSitesSo 213 = .ok (.aload_n 0, 1) := by decide +kernel
theorem dL_areSitesSo_214 : decode cL_areSitesSo 214 = .ok (.iconst 0, 1) := by decide +kernel
theorem dL_areSitesSo_215 : decode cL_areSitesSo 215 = .ok (.invokevirtual 14, 3) := by decide +kernel
theorem dL_areSitesSo_218 : decode cL_areSitesSo 218 = .ok (.bipush 100, 2) := by decide +kernel
theorem dL_areSitesSo_220 : decode cL_areSitesSo 220 = .ok (.iload 6, 2) := by decide +kernel
theorem dL_areSitesSo_222 : decode cL_areSitesSo 222 = .ok (.imul, 1) := by decide +kernel
theorem dL_areSitesSo_223 : decode cL_areSitesSo 223 = .ok (.iadd, 1) := by decide +kernel
theorem dL_areSitesSo_224 : decode cL_areSitesSo 224 = .ok (.iload_n 2, 1) := by decide +kernel
theorem dL_areSitesSo_225 : decode cL_areSitesSo 225 = .ok (.iadd, 1) := by decide +kernel
theorem dL_areSitesSo_226 : decode cL_areSitesSo 226 = .ok (.aload_n 0, 1) := by decide +kernel
theorem dL_areSitesSo_227 : decode cL_areSitesSo 227 = .ok (.bipush 7, 2) := by decide +kernel
theorem dL_areSitesSo_229 : decode cL_areSitesSo 229 = .ok (.invokevirtual 14, 3) := by decide +kernel
theorem dL_areSitesSo_232 : decode cL_areSitesSo 232 = .ok (.iadd, 1) := by decide +kernel
theorem dL_areSitesSo_233 : decode cL_areSitesSo 233 = .ok (.iload 4, 2) := by decide +kernel
theorem dL_areSitesSo_235 : decode cL_areSitesSo 235 = .ok (.iadd, 1) := by decide +kernel
theorem dL_areSitesSo_236 : decode cL_areSitesSo 236 = .ok (.if_icmp .ne 7, 3) := by decide +kernel
theorem dL_areSitesSo_239 : decode cL_areSitesSo 239 = .ok (.iconst 1, 1) := by decide +kernel
theorem dL_areSitesSo_240 : decode cL_areSitesSo 240 = .ok (.goto 4, 3) := by decide +kernel
theorem dL_areSitesSo_243 : decode cL_areSitesSo 243 = .ok (.iconst 0, 1) := by decide +kernel
theorem dL_areSitesSo_244 : decode cL_areSitesSo 244 = .ok (.ireturn, 1) := by decide +kernel
theorem dL_isCountSo_0 : decode cL_isCountSo 0 = .ok (.aload_n 0, 1) := by decide +kernel
theorem dL_isCountSo_1 : decode cL_isCountSo 1 = .ok (.invokevirtual 74, 3) := by decide +kernel
theorem dL_isCountSo_4 : decode cL_isCountSo 4 = .ok (.istore_n 1, 1) := by decide +kernel
theorem dL_isCountSo_5 : decode cL_isCountSo 5 = .ok (.iload_n 1, 1) := by decide +kernel
theorem dL_isCountSo_6 : decode cL_isCountSo 6 = .ok (.aload_n 0, 1) := by decide +kernel
theorem dL_isCountSo_7 : decode cL_isCountSo 7 = .ok (.iconst 5, 1) := by decide +kernel
theorem dL_isCountSo_8 : decode cL_isCountSo 8 = .ok (.invokevirtual 14, 3) := by decide +kernel
theorem dL_isCountSo_11 : decode cL_isCountSo 11 = .ok (.if_icmp .gt 57, 3) := by decide +kernel
theorem dL_isCountSo_14 : decode cL_isCountSo 14 = .ok (.iload_n 1, 1) := by decide +kernel
theorem dL_isCountSo_15 : decode cL_isCountSo 15 = .ok (.ifCond .ne 7, 3) := by decide +kernel
theorem dL_isCountSo_18 : decode cL_isCountSo 18 = .ok (.iconst 1, 1) := by decide +kernel
theorem dL_isCountSo_19 : decode cL_isCountSo 19 = .ok (.goto 4, 3) := by decide +kernel
theorem dL_isCountSo_22 : decode cL_isCountSo 22 = .ok (.iconst 0, 1) := by decide +kernel
theorem dL_isCountSo_23 : decode cL_isCountSo 23 = .ok (.aload_n 0, 1) := by decide +kernel
theorem dL_isCountSo_24 : decode cL_isCountSo 24 = .ok (.iconst 5, 1) := by decide +kernel
theorem dL_isCountSo_25 : decode cL_isCountSo 25 = .ok (.invokevirtual 14, 3) := by decide +kernel
theorem dL_isCountSo_28 : decode cL_isCountSo 28 = .ok (.ifCond .ne 7, 3) := by decide +kernel
theorem dL_isCountSo_31 : decode cL_isCountSo 31 = .ok (.iconst 1, 1) := by decide +kernel
theorem dL_isCountSo_32 : decode cL_isCountSo 32 = .ok (.goto 4, 3) := by decide +kernel
theorem dL_isCountSo_35 : decode cL_isCountSo 35 = .ok (.iconst 0, 1) := by decide +kernel
theorem dL_isCountSo_36 : decode cL_isCountSo 36 = .ok (.if_icmp .ne 32, 3) := by decide +kernel
theorem dL_isCountSo_39 : decode cL_isCountSo 39 = .ok (.aload_n 0, 1) := by decide +kernel
theorem dL_isCountSo_40 : decode cL_isCountSo 40 = .ok (.invokevirtual 77, 3) := by decide +kernel
theorem dL_isCountSo_43 : decode cL_isCountSo 43 = .ok (.iconst (-1), 1) := by decide +kernel
theorem dL_isCountSo_44 : decode cL_isCountSo 44 = .ok (.if_icmp .ne 7, 3) := by decide +kernel
theorem dL_isCountSo_47 : decode cL_isCountSo 47 = .ok (.iconst 1, 1) := by decide +kernel
theorem dL_isCountSo_48 : decode cL_isCountSo 48 = .ok (.goto 4, 3) := by decide +kernel
theorem dL_isCountSo_51 : decode cL_isCountSo 51 = .ok (.iconst 0, 1) := by decide +kernel
theorem dL_isCountSo_52 : decode cL_isCountSo 52 = .ok (.iload_n 1, 1) := by decide +kernel
theorem dL_isCountSo_53 : decode cL_isCountSo 53 = .ok (.ifCond .ne 7, 3) := by decide +kernel
theorem dL_isCountSo_56 : decode cL_isCountSo 56 = .ok (.iconst 1, 1) := by decide +kernel
theorem dL_isCountSo_57 : decode cL_isCountSo 57 = .ok (.goto 4, 3) := by decide +kernel
theorem dL_isCountSo_60 : decode cL_isCountSo 60 = .ok (.iconst 0, 1) := by decide +kernel
theorem dL_isCountSo_61 : decode cL_isCountSo 61 = .ok (.if_icmp .ne 7, 3) := by decide +kernel
theorem dL_isCountSo_64 : decode cL_isCountSo 64 = .ok (.iconst 1, 1) := by decide +kernel
theorem dL_isCountSo_65 : decode cL_isCountSo 65 = .ok (.goto 4, 3) := by decide +kernel
theorem dL_isCountSo_68 : decode cL_isCountSo 68 = .ok (.iconst 0, 1) := by decide +kernel
theorem dL_isCountSo_69 : decode cL_isCountSo 69 = .ok (.istore_n 2, 1) := by decide +kernel
theorem dL_isCountSo_70 : decode cL_isCountSo 70 = .ok (.iconst 0, 1) := by decide +kernel
theorem dL_isCountSo_71 : decode cL_isCountSo 71 = .ok (.istore_n 3, 1) := by decide +kernel
theorem dL_isCountSo_72 : decode cL_isCountSo 72 = .ok (.iload_n 3, 1) := by decide +kernel
theorem dL_isCountSo_73 : decode cL_isCountSo 73 = .ok (.iload_n 1, 1) := by decide +kernel
theorem dL_isCountSo_74 : decode cL_isCountSo 74 = .ok (.if_icmp .ge 111, 3) := by decide +kernel
theorem dL_isCountSo_77 : decode cL_isCountSo 77 = .ok (.iconst 0, 1) := by decide +kernel
theorem dL_isCountSo_78 : decode cL_isCountSo 78 = .ok (.istore 4, 2) := by decide +kernel
theorem dL_isCountSo_80 : decode cL_isCountSo 80 = .ok (.iconst 0, 1) := by decide +kernel
theorem dL_isCountSo_81 : decode cL_isCountSo 81 = .ok (.istore 5, 2) := by decide +kernel
theorem dL_isCountSo_83 : decode cL_isCountSo 83 = .ok (.iconst 0, 1) := by decide +kernel
theorem dL_isCountSo_84 : decode cL_isCountSo 84 = .ok (.istore 6, 2) := by decide +kernel
theorem dL_isCountSo_86 : decode cL_isCountSo 86 = .ok (.iload 6, 2) := by decide +kernel
theorem dL_isCountSo_88 : decode cL_isCountSo 88 = .ok (.bipush 8, 2) := by decide +kernel
theorem dL_isCountSo_90 : decode cL_isCountSo 90 = .ok (.if_icmp .ge 56, 3) := by decide +kernel
theorem dL_isCountSo_93 : decode cL_isCountSo 93 = .ok (.iload 4, 2) := by decide +kernel
theorem dL_isCountSo_95 : decode cL_isCountSo 95 = .ok (.aload_n 0, 1) := by decide +kernel
theorem dL_isCountSo_96 : decode cL_isCountSo 96 = .ok (.iload_n 3, 1) := by decide +kernel
theorem dL_isCountSo_97 : decode cL_isCountSo 97 = .ok (.iload 6, 2) := by decide +kernel
theorem dL_isCountSo_99 : decode cL_isCountSo 99 = .ok (.invokevirtual 80, 3) := by decide +kernel
theorem dL_isCountSo_102 : decode cL_isCountSo 102 = .ok (.ifCond .le 13, 3) := by decide +kernel
theorem dL_isCountSo_105 : decode cL_isCountSo 105 = .ok (.aload_n 0, 1) := by decide +kernel
theorem dL_isCountSo_106 : decode cL_isCountSo 106 = .ok (.iload_n 3, 1) := by decide +kernel
theorem dL_isCountSo_107 : decode cL_isCountSo 107 = .ok (.iload 6, 2) := by decide +kernel
theorem dL_isCountSo_109 : decode cL_isCountSo 109 = .ok (.invokevirtual 80, 3) := by decide +kernel
theorem dL_isCountSo_112 : decode cL_isCountSo 112 = .ok (.goto 4, 3) := by decide +kernel
theorem dL_isCountSo_115 : decode cL_isCountSo 115 = .ok (.iconst 0, 1) := by decide +kernel
theorem dL_isCountSo_116 : decode cL_isCountSo 116 = .ok (.iadd, 1) := by decide +kernel
theorem dL_isCountSo_117 : decode cL_isCountSo 117 = .ok (.istore 4, 2) := by decide +kernel
theorem dL_isCountSo_119 : decode cL_isCountSo 119 = .ok (.iload 5, 2) := by decide +kernel
theorem dL_isCountSo_121 : decode cL_isCountSo 121 = .ok (.aload_n 0, 1) := by decide +kernel
theorem dL_isCountSo_122 : decode cL_isCountSo 122 = .ok (.iload_n 3, 1) := by decide +kernel
theorem dL_isCountSo_123 : decode cL_isCountSo 123 = .ok (.iload 6, 2) := by decide +kernel
theorem dL_isCountSo_125 : decode cL_isCountSo 125 = .ok (.invokevirtual 80, 3) := by decide +kernel
theorem dL_isCountSo_128 : decode cL_isCountSo 128 = .ok (.iconst (-1), 1) := by decide +kernel
theorem dL_isCountSo_129 : decode cL_isCountSo 129 = .ok (.if_icmp .ne 7, 3) := by decide +kernel
theorem dL_isCountSo_132 : decode cL_isCountSo 132 = .ok (.iconst 0, 1) := by decide +kernel
theorem dL_isCountSo_133 : decode cL_isCountSo 133 = .ok (.goto 4, 3) := by decide +kernel
theorem dL_isCountSo_136 : decode cL_isCountSo 136 = .ok (.iconst 1, 1) := by decide +kernel
theorem dL_isCountSo_137 : decode cL_isCountSo 137 = .ok (.iadd, 1) := by decide +kernel
theorem dL_isCountSo_138 : decode cL_isCountSo 138 = .ok (.istore 5, 2) := by decide +kernel
theorem dL_isCountSo_140 : decode cL_isCountSo 140 = .ok (.iinc 6 1, 3) := by decide +kernel
theorem dL_isCountSo_143 : decode cL_isCountSo 143 = .ok (.goto (-57), 3) := by decide +kernel
theorem dL_isCountSo_146 : decode cL_isCountSo 146 = .ok (.iload_n 2, 1) := by decide +kernel
theorem dL_isCountSo_147 : decode cL_isCountSo 147 = .ok (.ifCond .eq 30, 3) := by decide +kernel
theorem dL_isCountSo_150 : decode cL_isCountSo 150 = .ok (.iload 4, 2) := by decide +kernel
theorem dL_isCountSo_152 : decode cL_isCountSo 152 = .ok (.aload_n 0, 1) := by decide +kernel
theorem dL_isCountSo_153 : decode cL_isCountSo 153 = .ok (.bipush 14, 2) := by decide +kernel
theorem dL_isCountSo_155 : decode cL_isCountSo 155 = .ok (.invokevirtual 14, 3) := by decide +kernel
theorem dL_isCountSo_158 : decode cL_isCountSo 158 = .ok (.if_icmp .gt 19, 3) := by decide +kernel
theorem dL_isCountSo_161 : decode cL_isCountSo 161 = .ok (.iload 5, 2) := by decide +kernel
theorem dL_isCountSo_163 : decode cL_isCountSo 163 = .ok (.aload_n 0, 1) := by decide +kernel
theorem dL_isCountSo_164 : decode cL_isCountSo 164 = .ok (.iconst 5, 1) := by decide +kernel
theorem dL_isCountSo_165 : decode cL_isCountSo 165 = .ok (.invokevirtual 14, 3) := by decide +kernel
theorem dL_isCountSo_168 : decode cL_isCountSo 168 = .ok (.iload_n 3, 1) := by decide +kernel
theorem dL_isCountSo_169 : decode cL_isCountSo 169 = .ok (.isub, 1) := by decide +kernel
theorem dL_isCountSo_170 : decode cL_isCountSo 170 = .ok (.if_icmp .ne 7, 3) := by decide +kernel
theorem dL_isCountSo_173 : decode cL_isCountSo 173 = .ok (.iconst 1, 1) := by decide +kernel
theorem dL_isCountSo_174 : decode cL_isCountSo 174 = .ok (.goto 4, 3) := by decide +kernel
theorem dL_isCountSo_177 : decode cL_isCountSo 177 = .ok (.iconst 0, 1) := by decide +kernel
theorem dL_isCountSo_178 : decode cL_isCountSo 178 = .ok (.istore_n 2, 1) := by decide +kernel
theorem dL_isCountSo_179 : decode cL_isCountSo 179 = .ok (.iinc 3 1, 3) := by decide +kernel
theorem dL_isCountSo_182 : decode cL_isCountSo 182 = .ok (.goto (-110), 3) := by decide +kernel
theorem dL_isCountSo_185 : decode cL_isCountSo 185 = .ok (.iload_n 2, 1) := by decide +kernel
theorem dL_isCountSo_186 : decode cL_isCountSo 186 = .ok (.ifCond .eq 26, 3) := by decide +kernel
theorem dL_isCountSo_189 : decode cL_isCountSo 189 = .ok (.iload_n 1, 1) := by decide +kernel
theorem dL_isCountSo_190 : decode cL_isCountSo 190 = .ok (.ifCond .eq 18, 3) := by decide +kernel
theorem dL_isCountSo_193 : decode cL_isCountSo 193 = .ok (.aload_n 0, 1) := by decide +kernel
theorem dL_isCountSo_194 : decode cL_isCountSo 194 = .ok (.iload_n 1, 1) := by decide +kernel
theorem dL_isCountSo_195 : decode cL_isCountSo 195 = .ok (.iconst 1, 1) := by decide +kernel
theorem dL_isCountSo_196 : decode cL_isCountSo 196 = .ok (.isub, 1) := by decide +kernel
theorem dL_isCountSo_197 : decode cL_isCountSo 197 = .ok (.aload_n 0, 1) := by decide +kernel
theorem dL_isCountSo_198 : decode cL_isCountSo 198 = .ok (.invokevirtual 77, 3) := by decide +kernel
theorem dL_isCountSo_201 : decode cL_isCountSo 201 = .ok (.invokevirtual 80, 3) := by decide +kernel
theorem dL_isCountSo_204 : decode cL_isCountSo 204 = .ok (.iconst (-1), 1) := by decide +kernel
theorem dL_isCountSo_205 : decode cL_isCountSo 205 = .ok (.if_icmp .eq 7, 3) := by decide +kernel
theorem dL_isCountSo_208 : decode cL_isCountSo 208 = .ok (.iconst 1, 1) := by decide +kernel
theorem dL_isCountSo_209 : decode cL_isCountSo 209 = .ok (.goto 4, 3) := by decide +kernel
theorem dL_isCountSo_212 : decode cL_isCountSo 212 = .ok (.iconst 0, 1) := by decide +kernel
theorem dL_isCountSo_213 : decode cL_isCountSo 213 = .ok (.ireturn, 1) := by decide +kernel
theorem dL_law_0 : decode cL_law 0 = .ok (.new 15, 3) := by decide +kernel
theorem dL_law_3 : decode cL_law 3 = .ok (.dup, 1) := by decide +kernel
theorem dL_law_4 : decode cL_law 4 = .ok (.invokespecial 83, 3) := by decide +kernel
theorem dL_law_7 : decode cL_law 7 = .ok (.astore_n 1, 1) := by decide +kernel
theorem dL_law_8 : decode cL_law 8 = .ok (.aload_n 1, 1) := by decide +kernel
theorem dL_law_9 : decode cL_law 9 = .ok (.sipush 5000, 3) := by decide +kernel
theorem dL_law_12 : decode cL_law 12 = .ok (.invokevirtual 20, 3) := by decide +kernel
theorem dL_law_15 : decode cL_law 15 = .ok (.pop, 1) := by decide +kernel
theorem dL_law_16 : decode cL_law 16 = .ok (.aload_n 1, 1) := by decide +kernel
theorem dL_law_17 : decode cL_law 17 = .ok (.iconst 1, 1) := by decide +kernel
theorem dL_law_18 : decode cL_law 18 = .ok (.bipush 12, 2) := by decide +kernel
theorem dL_law_20 : decode cL_law 20 = .ok (.invokevirtual 27, 3) := by decide +kernel
theorem dL_law_23 : decode cL_law 23 = .ok (.pop, 1) := by decide +kernel
theorem dL_law_24 : decode cL_law 24 = .ok (.aload_n 1, 1) := by decide +kernel
theorem dL_law_25 : decode cL_law 25 = .ok (.iconst 2, 1) := by decide +kernel
theorem dL_law_26 : decode cL_law 26 = .ok (.bipush 9, 2) := by decide +kernel
theorem dL_law_28 : decode cL_law 28 = .ok (.invokevirtual 27, 3) := by decide +kernel
theorem dL_law_31 : decode cL_law 31 = .ok (.pop, 1) := by decide +kernel
theorem dL_law_32 : decode cL_law 32 = .ok (.sipush 5000, 3) := by decide +kernel
theorem dL_law_35 : decode cL_law 35 = .ok (.istore_n 2, 1) := by decide +kernel
theorem dL_law_36 : decode cL_law 36 = .ok (.iconst 0, 1) := by decide +kernel
theorem dL_law_37 : decode cL_law 37 = .ok (.istore_n 3, 1) := by decide +kernel
theorem dL_law_38 : decode cL_law 38 = .ok (.iload_n 3, 1) := by decide +kernel
theorem dL_law_39 : decode cL_law 39 = .ok (.bipush 40, 2) := by decide +kernel
theorem dL_law_41 : decode cL_law 41 = .ok (.if_icmp .ge 146, 3) := by decide +kernel
theorem dL_law_44 : decode cL_law 44 = .ok (.iload_n 2, 1) := by decide +kernel
theorem dL_law_45 : decode cL_law 45 = .ok (.aload_n 1, 1) := by decide +kernel
theorem dL_law_46 : decode cL_law 46 = .ok (.aload_n 0, 1) := by decide +kernel
theorem dL_law_47 : decode cL_law 47 = .ok (.iload_n 3, 1) := by decide +kernel
theorem dL_law_48 : decode cL_law 48 = .ok (.invokestatic 84, 3) := by decide +kernel
theorem dL_law_51 : decode cL_law 51 = .ok (.invokestatic 88, 3) := by decide +kernel
theorem dL_law_54 : decode cL_law 54 = .ok (.iadd, 1) := by decide +kernel
theorem dL_law_55 : decode cL_law 55 = .ok (.istore_n 2, 1) := by decide +kernel
theorem dL_law_56 : decode cL_law 56 = .ok (.aload_n 1, 1) := by decide +kernel
theorem dL_law_57 : decode cL_law 57 = .ok (.iload_n 2, 1) := by decide +kernel
theorem dL_law_58 : decode cL_law 58 = .ok (.invokestatic 91, 3) := by decide +kernel
theorem dL_law_61 : decode cL_law 61 = .ok (.ifCond .eq 10, 3) := by decide +kernel
theorem dL_law_64 : decode cL_law 64 = .ok (.aload_n 1, 1) := by decide +kernel
theorem dL_law_65 : decode cL_law 65 = .ok (.invokestatic 95, 3) := by decide +kernel
theorem dL_law_68 : decode cL_law 68 = .ok (.ifCond .ne 5, 3) := by decide +kernel
theorem dL_law_71 : decode cL_law 71 = .ok (.iconst 0, 1) := by decide +kernel
theorem dL_law_72 : decode cL_law 72 = .ok (.ireturn, 1) := by decide +kernel
theorem dL_law_73 : decode cL_law 73 = .ok (.aload_n 0, 1) := by decide +kernel
theorem dL_law_74 : decode cL_law 74 = .ok (.iload_n 3, 1) := by decide +kernel
theorem dL_law_75 : decode cL_law 75 = .ok (.invokestatic 84, 3) := by decide +kernel
theorem dL_law_78 : decode cL_law 78 = .ok (.bipush 20, 2) := by decide +kernel
theorem dL_law_80 : decode cL_law 80 = .ok (.ishr, 1) := by decide +kernel
theorem dL_law_81 : decode cL_law 81 = .ok (.bipush 8, 2) := by decide +kernel
theorem dL_law_83 : decode cL_law 83 = .ok (.invokestatic 8, 3) := by decide +kernel
theorem dL_law_86 : decode cL_law 86 = .ok (.istore 4, 2) := by decide +kernel
theorem dL_law_88 : decode cL_law 88 = .ok (.iconst 0, 1) := by decide +kernel
theorem dL_law_89 : decode cL_law 89 = .ok (.istore 5, 2) := by decide +kernel
theorem dL_law_91 : decode cL_law 91 = .ok (.iconst 0, 1) := by decide +kernel
theorem dL_law_92 : decode cL_law 92 = .ok (.istore 6, 2) := by decide +kernel
theorem dL_law_94 : decode cL_law 94 = .ok (.iload 6, 2) := by decide +kernel
theorem dL_law_96 : decode cL_law 96 = .ok (.bipush 8, 2) := by decide +kernel
theorem dL_law_98 : decode cL_law 98 = .ok (.if_icmp .ge 20, 3) := by decide +kernel
theorem dL_law_101 : decode cL_law 101 = .ok (.iload 5, 2) := by decide +kernel
theorem dL_law_103 : decode cL_law 103 = .ok (.aload_n 1, 1) := by decide +kernel
theorem dL_law_104 : decode cL_law 104 = .ok (.iload 6, 2) := by decide +kernel
theorem dL_law_106 : decode cL_law 106 = .ok (.invokestatic 67, 3) := by decide +kernel
theorem dL_law_109 : decode cL_law 109 = .ok (.iadd, 1) := by decide +kernel
theorem dL_law_110 : decode cL_law 110 = .ok (.istore 5, 2) := by decide +kernel
theorem dL_law_112 : decode cL_law 112 = .ok (.iinc 6 1, 3) := by decide +kernel
theorem dL_law_115 : decode cL_law 115 = .ok (.goto (-21), 3) := by decide +kernel
theorem dL_law_118 : decode cL_law 118 = .ok (.aload_n 1, 1) := by decide +kernel
theorem dL_law_119 : decode cL_law 119 = .ok (.iload 4, 2) := by decide +kernel
theorem dL_law_121 : decode cL_law 121 = .ok (.iconst 1, 1) := by decide +kernel
theorem dL_law_122 : decode cL_law 122 = .ok (.invokevirtual 64, 3) := by decide +kernel
theorem dL_law_125 : decode cL_law 125 = .ok (.istore 6, 2) := by decide +kernel
theorem dL_law_127 : decode cL_law 127 = .ok (.aload_n 1, 1) := by decide +kernel
theorem dL_law_128 : decode cL_law 128 = .ok (.invokevirtual 99, 3) := by decide +kernel
theorem dL_law_131 : decode cL_law 131 = .ok (.lstore 7, 2) := by decide +kernel
theorem dL_law_133 : decode cL_law 133 = .ok (.aload_n 1, 1) := by decide +kernel
theorem dL_law_134 : decode cL_law 134 = .ok (.iconst 0, 1) := by decide +kernel
theorem dL_law_135 : decode cL_law 135 = .ok (.invokevirtual 54, 3) := by decide +kernel
theorem dL_law_138 : decode cL_law 138 = .ok (.iload 5, 2) := by decide +kernel
theorem dL_law_140 : decode cL_law 140 = .ok (.if_icmp .ne 15, 3) := by decide +kernel
theorem dL_law_143 : decode cL_law 143 = .ok (.aload_n 1, 1) := by decide +kernel
theorem dL_law_144 : decode cL_law 144 = .ok (.iload 4, 2) := by decide +kernel
theorem dL_law_146 : decode cL_law 146 = .ok (.iconst 1, 1) := by decide +kernel
theorem dL_law_147 : decode cL_law 147 = .ok (.invokevirtual 30, 3) := by decide +kernel
theorem dL_law_150 : decode cL_law 150 = .ok (.iload 6, 2) := by decide +kernel
theorem dL_law_152 : decode cL_law 152 = .ok (.if_icmp .eq 5, 3) := by decide +kernel
theorem dL_law_155 : decode cL_law 155 = .ok (.iconst 0, 1) := by decide +kernel
theorem dL_law_156 : decode cL_law 156 = .ok (.ireturn, 1) := by decide +kernel
theorem dL_law_157 : decode cL_law 157 = .ok (.aload_n 1, 1) := by decide +kernel
theorem dL_law_158 : decode cL_law 158 = .ok (.invokevirtual 103, 3) := by decide +kernel
theorem dL_law_161 : decode cL_law 161 = .ok (.istore 9, 2) := by decide +kernel
theorem dL_law_163 : decode cL_law 163 = .ok (.iload 9, 2) := by decide +kernel
theorem dL_law_165 : decode cL_law 165 = .ok (.iconst 3, 1) := by decide +kernel
theorem dL_law_166 : decode cL_law 166 = .ok (.if_icmp .ge 15, 3) := by decide +kernel
theorem dL_law_169 : decode cL_law 169 = .ok (.aload_n 1, 1) := by decide +kernel
theorem dL_law_170 : decode cL_law 170 = .ok (.invokevirtual 99, 3) := by decide +kernel
theorem dL_law_173 : decode cL_law 173 = .ok (.lload 7, 2) := by decide +kernel
theorem dL_law_175 : decode cL_law 175 = .ok (.lcmp, 1) := by decide +kernel
theorem dL_law_176 : decode cL_law 176 = .ok (.ifCond .eq 5, 3) := by decide +kernel
theorem dL_law_179 : decode cL_law 179 = .ok (.iconst 0, 1) := by decide +kernel
theorem dL_law_180 : decode cL_law 180 = .ok (.ireturn, 1) := by decide +kernel
theorem dL_law_181 : decode cL_law 181 = .ok (.iinc 3 1, 3) := by decide +kernel
theorem dL_law_184 : decode cL_law 184 = .ok (.goto (-146), 3) := by decide +kernel
theorem dL_law_187 : decode cL_law 187 = .ok (.iconst 1, 1) := by decide +kernel
theorem dL_law_188 : decode cL_law 188 = .ok (.ireturn, 1) := by decide +kernel
