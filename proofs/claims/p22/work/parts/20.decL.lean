theorem dL_cell_0 : decode cL_cell 0 = .ok (.iload_n 1, 1) := by decide +kernel
theorem dL_cell_1 : decode cL_cell 1 = .ok (.aload_n 0, 1) := by decide +kernel
theorem dL_cell_2 : decode cL_cell 2 = .ok (.arraylength, 1) := by decide +kernel
theorem dL_cell_3 : decode cL_cell 3 = .ok (.if_icmp .ge 9, 3) := by decide +kernel
theorem dL_cell_6 : decode cL_cell 6 = .ok (.aload_n 0, 1) := by decide +kernel
theorem dL_cell_7 : decode cL_cell 7 = .ok (.iload_n 1, 1) := by decide +kernel
theorem dL_cell_8 : decode cL_cell 8 = .ok (.iaload, 1) := by decide +kernel
theorem dL_cell_9 : decode cL_cell 9 = .ok (.goto 11, 3) := by decide +kernel
theorem dL_cell_12 : decode cL_cell 12 = .ok (.ldc 7, 2) := by decide +kernel
theorem dL_cell_14 : decode cL_cell 14 = .ok (.iload_n 1, 1) := by decide +kernel
theorem dL_cell_15 : decode cL_cell 15 = .ok (.sipush 971, 3) := by decide +kernel
theorem dL_cell_18 : decode cL_cell 18 = .ok (.iadd, 1) := by decide +kernel
theorem dL_cell_19 : decode cL_cell 19 = .ok (.imul, 1) := by decide +kernel
theorem dL_cell_20 : decode cL_cell 20 = .ok (.ireturn, 1) := by decide +kernel
theorem dL_up_0 : decode cL_up 0 = .ok (.iload_n 0, 1) := by decide +kernel
theorem dL_up_1 : decode cL_up 1 = .ok (.ldc 8, 2) := by decide +kernel
theorem dL_up_3 : decode cL_up 3 = .ok (.iand, 1) := by decide +kernel
theorem dL_up_4 : decode cL_up 4 = .ok (.iload_n 1, 1) := by decide +kernel
theorem dL_up_5 : decode cL_up 5 = .ok (.irem, 1) := by decide +kernel
theorem dL_up_6 : decode cL_up 6 = .ok (.ireturn, 1) := by decide +kernel
theorem dL_isStep_0 : decode cL_isStep 0 = .ok (.iload_n 2, 1) := by decide +kernel
theorem dL_isStep_1 : decode cL_isStep 1 = .ok (.iconst 4, 1) := by decide +kernel
theorem dL_isStep_2 : decode cL_isStep 2 = .ok (.ishr, 1) := by decide +kernel
theorem dL_isStep_3 : decode cL_isStep 3 = .ok (.istore_n 3, 1) := by decide +kernel
theorem dL_isStep_4 : decode cL_isStep 4 = .ok (.aload_n 0, 1) := by decide +kernel
theorem dL_isStep_5 : decode cL_isStep 5 = .ok (.iconst 1, 1) := by decide +kernel
theorem dL_isStep_6 : decode cL_isStep 6 = .ok (.invokevirtual 9, 3) := by decide +kernel
theorem dL_isStep_9 : decode cL_isStep 9 = .ok (.istore 4, 2) := by decide +kernel
theorem dL_isStep_11 : decode cL_isStep 11 = .ok (.aload_n 0, 1) := by decide +kernel
theorem dL_isStep_12 : decode cL_isStep 12 = .ok (.iconst 0, 1) := by decide +kernel
theorem dL_isStep_13 : decode cL_isStep 13 = .ok (.invokevirtual 9, 3) := by decide +kernel
theorem dL_isStep_16 : decode cL_isStep 16 = .ok (.istore 5, 2) := by decide +kernel
theorem dL_isStep_18 : decode cL_isStep 18 = .ok (.aload_n 0, 1) := by decide +kernel
theorem dL_isStep_19 : decode cL_isStep 19 = .ok (.bipush 7, 2) := by decide +kernel
theorem dL_isStep_21 : decode cL_isStep 21 = .ok (.invokevirtual 9, 3) := by decide +kernel
theorem dL_isStep_24 : decode cL_isStep 24 = .ok (.istore 6, 2) := by decide +kernel
theorem dL_isStep_26 : decode cL_isStep 26 = .ok (.iload_n 2, 1) := by decide +kernel
theorem dL_isStep_27 : decode cL_isStep 27 = .ok (.bipush 18, 2) := by decide +kernel
theorem dL_isStep_29 : decode cL_isStep 29 = .ok (.invokestatic 15, 3) := by decide +kernel
theorem dL_isStep_32 : decode cL_isStep 32 = .ok (.istore 7, 2) := by decide +kernel
theorem dL_isStep_34 : decode cL_isStep 34 = .ok (.iload 7, 2) := by decide +kernel
theorem dL_isStep_36 : decode cL_isStep 36 = .ok (.bipush 11, 2) := by decide +kernel
theorem dL_isStep_38 : decode cL_isStep 38 = .ok (.if_icmp .ge 170, 3) := by decide +kernel
theorem dL_isStep_41 : decode cL_isStep 41 = .ok (.iload_n 3, 1) := by decide +kernel
theorem dL_isStep_42 : decode cL_isStep 42 = .ok (.iconst 3, 1) := by decide +kernel
theorem dL_isStep_43 : decode cL_isStep 43 = .ok (.invokestatic 15, 3) := by decide +kernel
theorem dL_isStep_46 : decode cL_isStep 46 = .ok (.ifCond .ne 18, 3) := by decide +kernel
theorem dL_isStep_49 : decode cL_isStep 49 = .ok (.iload_n 3, 1) := by decide +kernel
theorem dL_isStep_50 : decode cL_isStep 50 = .ok (.iconst 2, 1) := by decide +kernel
theorem dL_isStep_51 : decode cL_isStep 51 = .ok (.ishr, 1) := by decide +kernel
theorem dL_isStep_52 : decode cL_isStep 52 = .ok (.sipush 201, 3) := by decide +kernel
theorem dL_isStep_55 : decode cL_isStep 55 = .ok (.invokestatic 15, 3) := by decide +kernel
theorem dL_isStep_58 : decode cL_isStep 58 = .ok (.bipush 100, 2) := by decide +kernel
theorem dL_isStep_60 : decode cL_isStep 60 = .ok (.isub, 1) := by decide +kernel
theorem dL_isStep_61 : decode cL_isStep 61 = .ok (.goto 14, 3) := by decide +kernel
theorem dL_isStep_64 : decode cL_isStep 64 = .ok (.iload_n 3, 1) := by decide +kernel
theorem dL_isStep_65 : decode cL_isStep 65 = .ok (.iconst 2, 1) := by decide +kernel
theorem dL_isStep_66 : decode cL_isStep 66 = .ok (.ishr, 1) := by decide +kernel
theorem dL_isStep_67 : decode cL_isStep 67 = .ok (.bipush 61, 2) := by decide +kernel
theorem dL_isStep_69 : decode cL_isStep 69 = .ok (.invokestatic 15, 3) := by decide +kernel
theorem dL_isStep_72 : decode cL_isStep 72 = .ok (.bipush 30, 2) := by decide +kernel
theorem dL_isStep_74 : decode cL_isStep 74 = .ok (.isub, 1) := by decide +kernel
theorem dL_isStep_75 : decode cL_isStep 75 = .ok (.istore 8, 2) := by decide +kernel
theorem dL_isStep_77 : decode cL_isStep 77 = .ok (.iconst 1, 1) := by decide +kernel
theorem dL_isStep_78 : decode cL_isStep 78 = .ok (.iload_n 3, 1) := by decide +kernel
theorem dL_isStep_79 : decode cL_isStep 79 = .ok (.bipush 9, 2) := by decide +kernel
theorem dL_isStep_81 : decode cL_isStep 81 = .ok (.ishr, 1) := by decide +kernel
theorem dL_isStep_82 : decode cL_isStep 82 = .ok (.iload_n 3, 1) := by decide +kernel
theorem dL_isStep_83 : decode cL_isStep 83 = .ok (.bipush 8, 2) := by decide +kernel
theorem dL_isStep_85 : decode cL_isStep 85 = .ok (.ishr, 1) := by decide +kernel
theorem dL_isStep_86 : decode cL_isStep 86 = .ok (.iconst 2, 1) := by decide +kernel
theorem dL_isStep_87 : decode cL_isStep 87 = .ok (.invokestatic 15, 3) := by decide +kernel
theorem dL_isStep_90 : decode cL_isStep 90 = .ok (.ifCond .ne 7, 3) := by decide +kernel
theorem dL_isStep_93 : decode cL_isStep 93 = .ok (.iconst 1, 1) := by decide +kernel
theorem dL_isStep_94 : decode cL_isStep 94 = .ok (.goto 5, 3) := by decide +kernel
theorem dL_isStep_97 : decode cL_isStep 97 = .ok (.bipush 6, 2) := by decide +kernel
theorem dL_isStep_99 : decode cL_isStep 99 = .ok (.invokestatic 15, 3) := by decide +kernel
theorem dL_isStep_102 : decode cL_isStep 102 = .ok (.iadd, 1) := by decide +kernel
theorem dL_isStep_103 : decode cL_isStep 103 = .ok (.istore 9, 2) := by decide +kernel
theorem dL_isStep_105 : decode cL_isStep 105 = .ok (.aload_n 0, 1) := by decide +kernel
theorem dL_isStep_106 : decode cL_isStep 106 = .ok (.iload 8, 2) := by decide +kernel
theorem dL_isStep_108 : decode cL_isStep 108 = .ok (.iload 9, 2) := by decide +kernel
theorem dL_isStep_110 : decode cL_isStep 110 = .ok (.invokevirtual 21, 3) := by decide +kernel
theorem dL_isStep_113 : decode cL_isStep 113 = .ok (.istore 10, 2) := by decide +kernel
theorem dL_isStep_115 : decode cL_isStep 115 = .ok (.iload 10, 2) := by decide +kernel
theorem dL_isStep_117 : decode cL_isStep 117 = .ok (.aload_n 1, 1) := by decide +kernel
theorem dL_isStep_118 : decode cL_isStep 118 = .ok (.iload 8, 2) := by decide +kernel
theorem dL_isStep_120 : decode cL_isStep 120 = .ok (.ineg, 1) := by decide +kernel
theorem dL_isStep_121 : decode cL_isStep 121 = .ok (.iload 9, 2) := by decide +kernel
theorem dL_isStep_123 : decode cL_isStep 123 = .ok (.invokevirtual 21, 3) := by decide +kernel
theorem dL_isStep_126 : decode cL_isStep 126 = .ok (.if_icmp .ne 80, 3) := by decide +kernel
theorem dL_isStep_129 : decode cL_isStep 129 = .ok (.iload 5, 2) := by decide +kernel
theorem dL_isStep_131 : decode cL_isStep 131 = .ok (.iload 9, 2) := by decide +kernel
theorem dL_isStep_133 : decode cL_isStep 133 = .ok (.iadd, 1) := by decide +kernel
theorem dL_isStep_134 : decode cL_isStep 134 = .ok (.sipush 400, 3) := by decide +kernel
theorem dL_isStep_137 : decode cL_isStep 137 = .ok (.if_icmp .le 13, 3) := by decide +kernel
theorem dL_isStep_140 : decode cL_isStep 140 = .ok (.iload 10, 2) := by decide +kernel
theorem dL_isStep_142 : decode cL_isStep 142 = .ok (.bipush (-4), 2) := by decide +kernel
theorem dL_isStep_144 : decode cL_isStep 144 = .ok (.if_icmp .ne 62, 3) := by decide +kernel
theorem dL_isStep_147 : decode cL_isStep 147 = .ok (.goto 55, 3) := by decide +kernel
theorem dL_isStep_150 : decode cL_isStep 150 = .ok (.iload 10, 2) := by decide +kernel
theorem dL_isStep_152 : decode cL_isStep 152 = .ok (.ifCond .lt 54, 3) := by decide +kernel
theorem dL_isStep_155 : decode cL_isStep 155 = .ok (.aload_n 0, 1) := by decide +kernel
theorem dL_isStep_156 : decode cL_isStep 156 = .ok (.iconst 0, 1) := by decide +kernel
theorem dL_isStep_157 : decode cL_isStep 157 = .ok (.invokevirtual 9, 3) := by decide +kernel
theorem dL_isStep_160 : decode cL_isStep 160 = .ok (.iload 5, 2) := by decide +kernel
theorem dL_isStep_162 : decode cL_isStep 162 = .ok (.iload 9, 2) := by decide +kernel
theorem dL_isStep_164 : decode cL_isStep 164 = .ok (.iadd, 1) := by decide +kernel
theorem dL_isStep_165 : decode cL_isStep 165 = .ok (.if_icmp .ne 41, 3) := by decide +kernel
theorem dL_isStep_168 : decode cL_isStep 168 = .ok (.aload_n 0, 1) := by decide +kernel
theorem dL_isStep_169 : decode cL_isStep 169 = .ok (.bipush 7, 2) := by decide +kernel
theorem dL_isStep_171 : decode cL_isStep 171 = .ok (.invokevirtual 9, 3) := by decide +kernel
theorem dL_isStep_174 : decode cL_isStep 174 = .ok (.iload 6, 2) := by decide +kernel
theorem dL_isStep_176 : decode cL_isStep 176 = .ok (.iload 10, 2) := by decide +kernel
theorem dL_isStep_178 : decode cL_isStep 178 = .ok (.iadd, 1) := by decide +kernel
theorem dL_isStep_179 : decode cL_isStep 179 = .ok (.if_icmp .ne 27, 3) := by decide +kernel
theorem dL_isStep_182 : decode cL_isStep 182 = .ok (.aload_n 0, 1) := by decide +kernel
theorem dL_isStep_183 : decode cL_isStep 183 = .ok (.iload 5, 2) := by decide +kernel
theorem dL_isStep_185 : decode cL_isStep 185 = .ok (.iload 9, 2) := by decide +kernel
theorem dL_isStep_187 : decode cL_isStep 187 = .ok (.iadd, 1) := by decide +kernel
theorem dL_isStep_188 : decode cL_isStep 188 = .ok (.iconst 1, 1) := by decide +kernel
theorem dL_isStep_189 : decode cL_isStep 189 = .ok (.isub, 1) := by decide +kernel
theorem dL_isStep_190 : decode cL_isStep 190 = .ok (.invokevirtual 24, 3) := by decide +kernel
theorem dL_isStep_193 : decode cL_isStep 193 = .ok (.iload 8, 2) := by decide +kernel
theorem dL_isStep_195 : decode cL_isStep 195 = .ok (.sipush 1000, 3) := by decide +kernel
theorem dL_isStep_198 : decode cL_isStep 198 = .ok (.iadd, 1) := by decide +kernel
theorem dL_isStep_199 : decode cL_isStep 199 = .ok (.if_icmp .ne 7, 3) := by decide +kernel
theorem dL_isStep_202 : decode cL_isStep 202 = .ok (.iconst 1, 1) := by decide +kernel
theorem dL_isStep_203 : decode cL_isStep 203 = .ok (.goto 4, 3) := by decide +kernel
theorem dL_isStep_206 : decode cL_isStep 206 = .ok (.iconst 0, 1) := by decide +kernel
theorem dL_isStep_207 : decode cL_isStep 207 = .ok (.ireturn, 1) := by decide +kernel
theorem dL_isStep_208 : decode cL_isStep 208 = .ok (.iload 7, 2) := by decide +kernel
theorem dL_isStep_210 : decode cL_isStep 210 = .ok (.bipush 12, 2) := by decide +kernel
theorem dL_isStep_212 : decode cL_isStep 212 = .ok (.if_icmp .ge 58, 3) := by decide +kernel
theorem dL_isStep_215 : decode cL_isStep 215 = .ok (.iload_n 3, 1) := by decide +kernel
theorem dL_isStep_216 : decode cL_isStep 216 = .ok (.iload 4, 2) := by decide +kernel
theorem dL_isStep_218 : decode cL_isStep 218 = .ok (.iconst 1, 1) := by decide +kernel
theorem dL_isStep_219 : decode cL_isStep 219 = .ok (.iadd, 1) := by decide +kernel
theorem dL_isStep_220 : decode cL_isStep 220 = .ok (.invokestatic 15, 3) := by decide +kernel
theorem dL_isStep_223 : decode cL_isStep 223 = .ok (.istore 8, 2) := by decide +kernel
theorem dL_isStep_225 : decode cL_isStep 225 = .ok (.aload_n 0, 1) := by decide +kernel
theorem dL_isStep_226 : decode cL_isStep 226 = .ok (.iload 8, 2) := by decide +kernel
theorem dL_isStep_228 : decode cL_isStep 228 = .ok (.invokevirtual 27, 3) := by decide +kernel
theorem dL_isStep_231 : decode cL_isStep 231 = .ok (.istore 9, 2) := by decide +kernel
theorem dL_isStep_233 : decode cL_isStep 233 = .ok (.iload 9, 2) := by decide +kernel
theorem dL_isStep_235 : decode cL_isStep 235 = .ok (.aload_n 1, 1) := by decide +kernel
theorem dL_isStep_236 : decode cL_isStep 236 = .ok (.iload 8, 2) := by decide +kernel
theorem dL_isStep_238 : decode cL_isStep 238 = .ok (.invokevirtual 27, 3) := by decide +kernel
theorem dL_isStep_241 : decode cL_isStep 241 = .ok (.if_icmp .ne 27, 3) := by decide +kernel
theorem dL_isStep_244 : decode cL_isStep 244 = .ok (.iload 9, 2) := by decide +kernel
theorem dL_isStep_246 : decode cL_isStep 246 = .ok (.iload 8, 2) := by decide +kernel
theorem dL_isStep_248 : decode cL_isStep 248 = .ok (.iload 4, 2) := by decide +kernel
theorem dL_isStep_250 : decode cL_isStep 250 = .ok (.if_icmp .ne 7, 3) := by decide +kernel
theorem dL_isStep_253 : decode cL_isStep 253 = .ok (.iconst (-1), 1) := by decide +kernel
theorem dL_isStep_254 : decode cL_isStep 254 = .ok (.goto 7, 3) := by decide +kernel
theorem dL_isStep_257 : decode cL_isStep 257 = .ok (.iload 4, 2) := by decide +kernel
theorem dL_isStep_259 : decode cL_isStep 259 = .ok (.iconst 1, 1) := by decide +kernel
theorem dL_isStep_260 : decode cL_isStep 260 = .ok (.isub, 1) := by decide +kernel
theorem dL_isStep_261 : decode cL_isStep 261 = .ok (.if_icmp .ne 7, 3) := by decide +kernel
theorem dL_isStep_264 : decode cL_isStep 264 = .ok (.iconst 1, 1) := by decide +kernel
theorem dL_isStep_265 : decode cL_isStep 265 = .ok (.goto 4, 3) := by decide +kernel
theorem dL_isStep_268 : decode cL_isStep 268 = .ok (.iconst 0, 1) := by decide +kernel
theorem dL_isStep_269 : decode cL_isStep 269 = .ok (.ireturn, 1) := by decide +kernel
theorem dL_isStep_270 : decode cL_isStep 270 = .ok (.iload 7, 2) := by decide +kernel
theorem dL_isStep_272 : decode cL_isStep 272 = .ok (.bipush 13, 2) := by decide +kernel
theorem dL_isStep_274 : decode cL_isStep 274 = .ok (.if_icmp .ge 55, 3) := by decide +kernel
theorem dL_isStep_277 : decode cL_isStep 277 = .ok (.iload_n 3, 1) := by decide +kernel
theorem dL_isStep_278 : decode cL_isStep 278 = .ok (.iconst 4, 1) := by decide +kernel
theorem dL_isStep_279 : decode cL_isStep 279 = .ok (.invokestatic 15, 3) := by decide +kernel
theorem dL_isStep_282 : decode cL_isStep 282 = .ok (.ifCond .gt 41, 3) := by decide +kernel
theorem dL_isStep_285 : decode cL_isStep 285 = .ok (.aload_n 0, 1) := by decide +kernel
theorem dL_isStep_286 : decode cL_isStep 286 = .ok (.invokevirtual 30, 3) := by decide +kernel
theorem dL_isStep_289 : decode cL_isStep 289 = .ok (.aload_n 1, 1) := by decide +kernel
theorem dL_isStep_290 : decode cL_isStep 290 = .ok (.invokevirtual 30, 3) := by decide +kernel
theorem dL_isStep_293 : decode cL_isStep 293 = .ok (.if_icmp .ne 34, 3) := by decide +kernel
theorem dL_isStep_296 : decode cL_isStep 296 = .ok (.aload_n 0, 1) := by decide +kernel
theorem dL_isStep_297 : decode cL_isStep 297 = .ok (.iconst 0, 1) := by decide +kernel
theorem dL_isStep_298 : decode cL_isStep 298 = .ok (.invokevirtual 9, 3) := by decide +kernel
theorem dL_isStep_301 : decode cL_isStep 301 = .ok (.ifCond .ne 26, 3) := by decide +kernel
theorem dL_isStep_304 : decode cL_isStep 304 = .ok (.aload_n 0, 1) := by decide +kernel
theorem dL_isStep_305 : decode cL_isStep 305 = .ok (.iconst 1, 1) := by decide +kernel
theorem dL_isStep_306 : decode cL_isStep 306 = .ok (.invokevirtual 9, 3) := by decide +kernel
theorem dL_isStep_309 : decode cL_isStep 309 = .ok (.ifCond .ne 18, 3) := by decide +kernel
theorem dL_isStep_312 : decode cL_isStep 312 = .ok (.aload_n 0, 1) := by decide +kernel
theorem dL_isStep_313 : decode cL_isStep 313 = .ok (.bipush 7, 2) := by decide +kernel
theorem dL_isStep_315 : decode cL_isStep 315 = .ok (.invokevirtual 9, 3) := by decide +kernel
theorem dL_isStep_318 : decode cL_isStep 318 = .ok (.iload 6, 2) := by decide +kernel
theorem dL_isStep_320 : decode cL_isStep 320 = .ok (.if_icmp .ne 7, 3) := by decide +kernel
theorem dL_isStep_323 : decode cL_isStep 323 = .ok (.iconst 1, 1) := by decide +kernel
theorem dL_isStep_324 : decode cL_isStep 324 = .ok (.goto 4, 3) := by decide +kernel
theorem dL_isStep_327 : decode cL_isStep 327 = .ok (.iconst 0, 1) := by decide +kernel
theorem dL_isStep_328 : decode cL_isStep 328 = .ok (.ireturn, 1) := by decide +kernel
theorem dL_isStep_329 : decode cL_isStep 329 = .ok (.iload 7, 2) := by decide +kernel
theorem dL_isStep_331 : decode cL_isStep 331 = .ok (.bipush 14, 2) := by decide +kernel
theorem dL_isStep_333 : decode cL_isStep 333 = .ok (.if_icmp .ge 30, 3) := by decide +kernel
theorem dL_isStep_336 : decode cL_isStep 336 = .ok (.aload_n 0, 1) := by decide +kernel
theorem dL_isStep_337 : decode cL_isStep 337 = .ok (.bipush 21, 2) := by decide +kernel
theorem dL_isStep_339 : decode cL_isStep 339 = .ok (.invokevirtual 9, 3) := by decide +kernel
theorem dL_isStep_342 : decode cL_isStep 342 = .ok (.iconst 3, 1) := by decide +kernel
theorem dL_isStep_343 : decode cL_isStep 343 = .ok (.if_icmp .lt 14, 3) := by decide +kernel
theorem dL_isStep_346 : decode cL_isStep 346 = .ok (.aload_n 0, 1) := by decide +kernel
theorem dL_isStep_347 : decode cL_isStep 347 = .ok (.invokevirtual 34, 3) := by decide +kernel
theorem dL_isStep_350 : decode cL_isStep 350 = .ok (.aload_n 1, 1) := by decide +kernel
theorem dL_isStep_351 : decode cL_isStep 351 = .ok (.invokevirtual 34, 3) := by decide +kernel
theorem dL_isStep_354 : decode cL_isStep 354 = .ok (.if_icmp .ne 7, 3) := by decide +kernel
theorem dL_isStep_357 : decode cL_isStep 357 = .ok (.iconst 1, 1) := by decide +kernel
theorem dL_isStep_358 : decode cL_isStep 358 = .ok (.goto 4, 3) := by decide +kernel
theorem dL_isStep_361 : decode cL_isStep 361 = .ok (.iconst 0, 1) := by decide +kernel
theorem dL_isStep_362 : decode cL_isStep 362 = .ok (.ireturn, 1) := by decide +kernel
theorem dL_isStep_363 : decode cL_isStep 363 = .ok (.iload_n 3, 1) := by decide +kernel
theorem dL_isStep_364 : decode cL_isStep 364 = .ok (.bipush 8, 2) := by decide +kernel
theorem dL_isStep_366 : decode cL_isStep 366 = .ok (.invokestatic 15, 3) := by decide +kernel
theorem dL_isStep_369 : decode cL_isStep 369 = .ok (.istore 8, 2) := by decide +kernel
theorem dL_isStep_371 : decode cL_isStep 371 = .ok (.iload 8, 2) := by decide +kernel
theorem dL_isStep_373 : decode cL_isStep 373 = .ok (.iconst 2, 1) := by decide +kernel
theorem dL_isStep_374 : decode cL_isStep 374 = .ok (.if_icmp .ge 86, 3) := by decide +kernel
theorem dL_isStep_377 : decode cL_isStep 377 = .ok (.iload 8, 2) := by decide +kernel
theorem dL_isStep_379 : decode cL_isStep 379 = .ok (.ifCond .ne 13, 3) := by decide +kernel
theorem dL_isStep_382 : decode cL_isStep 382 = .ok (.iload_n 3, 1) := by decide +kernel
theorem dL_isStep_383 : decode cL_isStep 383 = .ok (.iconst 3, 1) := by decide +kernel
theorem dL_isStep_384 : decode cL_isStep 384 = .ok (.ishr, 1) := by decide +kernel
theorem dL_isStep_385 : decode cL_isStep 385 = .ok (.iconst 2, 1) := by decide +kernel
theorem dL_isStep_386 : decode cL_isStep 386 = .ok (.invokestatic 15, 3) := by decide +kernel
theorem dL_isStep_389 : decode cL_isStep 389 = .ok (.goto 14, 3) := by decide +kernel
theorem dL_isStep_392 : decode cL_isStep 392 = .ok (.iload_n 3, 1) := by decide +kernel
theorem dL_isStep_393 : decode cL_isStep 393 = .ok (.iconst 3, 1) := by decide +kernel
theorem dL_isStep_394 : decode cL_isStep 394 = .ok (.ishr, 1) := by decide +kernel
theorem dL_isStep_395 : decode cL_isStep 395 = .ok (.bipush 31, 2) := by decide +kernel
theorem dL_isStep_397 : decode cL_isStep 397 = .ok (.invokestatic 15, 3) := by decide +kernel
theorem dL_isStep_400 : decode cL_isStep 400 = .ok (.bipush 15, 2) := by decide +kernel
theorem dL_isStep_402 : decode cL_isStep 402 = .ok (.isub, 1) := by decide +kernel
theorem dL_isStep_403 : decode cL_isStep 403 = .ok (.istore 9, 2) := by decide +kernel
theorem dL_isStep_405 : decode cL_isStep 405 = .ok (.aload_n 0, 1) := by decide +kernel
theorem dL_isStep_406 : decode cL_isStep 406 = .ok (.iload 8, 2) := by decide +kernel
theorem dL_isStep_408 : decode cL_isStep 408 = .ok (.iload 9, 2) := by decide +kernel
theorem dL_isStep_410 : decode cL_isStep 410 = .ok (.invokevirtual 37, 3) := by decide +kernel
theorem dL_isStep_413 : decode cL_isStep 413 = .ok (.sipush 900, 3) := by decide +kernel
theorem dL_isStep_416 : decode cL_isStep 416 = .ok (.if_icmp .lt 42, 3) := by decide +kernel
theorem dL_isStep_419 : decode cL_isStep 419 = .ok (.aload_n 1, 1) := by decide +kernel
theorem dL_isStep_420 : decode cL_isStep 420 = .ok (.iload 8, 2) := by decide +kernel
theorem dL_isStep_422 : decode cL_isStep 422 = .ok (.iload 8, 2) := by decide +kernel
theorem dL_isStep_424 : decode cL_isStep 424 = .ok (.ifCond .ne 10, 3) := by decide +kernel
theorem dL_isStep_427 : decode cL_isStep 427 = .ok (.iconst 1, 1) := by decide +kernel
theorem dL_isStep_428 : decode cL_isStep 428 = .ok (.iload 9, 2) := by decide +kernel
theorem dL_isStep_430 : decode cL_isStep 430 = .ok (.isub, 1) := by decide +kernel
theorem dL_isStep_431 : decode cL_isStep 431 = .ok (.goto 6, 3) := by decide +kernel
theorem dL_isStep_434 : decode cL_isStep 434 = .ok (.iload 9, 2) := by decide +kernel
theorem dL_isStep_436 : decode cL_isStep 436 = .ok (.ineg, 1) := by decide +kernel
theorem dL_isStep_437 : decode cL_isStep 437 = .ok (.invokevirtual 37, 3) := by decide +kernel
theorem dL_isStep_440 : decode cL_isStep 440 = .ok (.sipush 900, 3) := by decide +kernel
theorem dL_isStep_443 : decode cL_isStep 443 = .ok (.if_icmp .lt 15, 3) := by decide +kernel
theorem dL_isStep_446 : decode cL_isStep 446 = .ok (.aload_n 0, 1) := by decide +kernel
theorem dL_isStep_447 : decode cL_isStep 447 = .ok (.iconst 3, 1) := by decide +kernel
theorem dL_isStep_448 : decode cL_isStep 448 = .ok (.invokevirtual 9, 3) := by decide +kernel
theorem dL_isStep_451 : decode cL_isStep 451 = .ok (.ifCond .ne 7, 3) := by decide +kernel
theorem dL_isStep_454 : decode cL_isStep 454 = .ok (.iconst 1, 1) := by decide +kernel
theorem dL_isStep_455 : decode cL_isStep 455 = .ok (.goto 4, 3) := by decide +kernel
theorem dL_isStep_458 : decode cL_isStep 458 = .ok (.iconst 0, 1) := by decide +kernel
theorem dL_isStep_459 : decode cL_isStep 459 = .ok (.ireturn, 1) := by decide +kernel
theorem dL_isStep_460 : decode cL_isStep 460 = .ok (.iload 8, 2) := by decide +kernel
theorem dL_isStep_462 : decode cL_isStep 462 = .ok (.iconst 2, 1) := by decide +kernel
theorem dL_isStep_463 : decode cL_isStep 463 = .ok (.if_icmp .ne 7, 3) := by decide +kernel
theorem dL_isStep_466 : decode cL_isStep 466 = .ok (.iconst 2, 1) := by decide +kernel
theorem dL_isStep_467 : decode cL_isStep 467 = .ok (.goto 7, 3) := by decide +kernel
theorem dL_isStep_470 : decode cL_isStep 470 = .ok (.iload 8, 2) := by decide +kernel
theorem dL_isStep_472 : decode cL_isStep 472 = .ok (.iconst 2, 1) := by decide +kernel
theorem dL_isStep_473 : decode cL_isStep 473 = .ok (.iadd, 1) := by decide +kernel
theorem dL_isStep_474 : decode cL_isStep 474 = .ok (.istore 9, 2) := by decide +kernel
theorem dL_isStep_476 : decode cL_isStep 476 = .ok (.iload 9, 2) := by decide +kernel
theorem dL_isStep_478 : decode cL_isStep 478 = .ok (.iconst 2, 1) := by decide +kernel
theorem dL_isStep_479 : decode cL_isStep 479 = .ok (.if_icmp .ne 14, 3) := by decide +kernel
theorem dL_isStep_482 : decode cL_isStep 482 = .ok (.iload_n 3, 1) := by decide +kernel
theorem dL_isStep_483 : decode cL_isStep 483 = .ok (.iconst 3, 1) := by decide +kernel
theorem dL_isStep_484 : decode cL_isStep 484 = .ok (.ishr, 1) := by decide +kernel
theorem dL_isStep_485 : decode cL_isStep 485 = .ok (.bipush 20, 2) := by decide +kernel
theorem dL_isStep_487 : decode cL_isStep 487 = .ok (.invokestatic 15, 3) := by decide +kernel
theorem dL_isStep_490 : decode cL_isStep 490 = .ok (.goto 85, 3) := by decide +kernel
theorem dL_isStep_493 : decode cL_isStep 493 = .ok (.iload 9, 2) := by decide +kernel
theorem dL_isStep_495 : decode cL_isStep 495 = .ok (.iconst 5, 1) := by decide +kernel
theorem dL_isStep_496 : decode cL_isStep 496 = .ok (.if_icmp .ne 16, 3) := by decide +kernel
theorem dL_isStep_499 : decode cL_isStep 499 = .ok (.iconst 1, 1) := by decide +kernel
theorem dL_isStep_500 : decode cL_isStep 500 = .ok (.iload_n 3, 1) := by decide +kernel
theorem dL_isStep_501 : decode cL_isStep 501 = .ok (.iconst 3, 1) := by decide +kernel
theorem dL_isStep_502 : decode cL_isStep 502 = .ok (.ishr, 1) := by decide +kernel
theorem dL_isStep_503 : decode cL_isStep 503 = .ok (.bipush 12, 2) := by decide +kernel
theorem dL_isStep_505 : decode cL_isStep 505 = .ok (.invokestatic 15, 3) := by decide +kernel
theorem dL_isStep_508 : decode cL_isStep 508 = .ok (.iadd, 1) := by decide +kernel
theorem dL_isStep_509 : decode cL_isStep 509 = .ok (.goto 66, 3) := by decide +kernel
theorem dL_isStep_512 : decode cL_isStep 512 = .ok (.iload 9, 2) := by decide +kernel
theorem dL_isStep_514 : decode cL_isStep 514 = .ok (.bipush 6, 2) := by decide +kernel
theorem dL_isStep_516 : decode cL_isStep 516 = .ok (.if_icmp .ne 14, 3) := by decide +kernel
theorem dL_isStep_519 : decode cL_isStep 519 = .ok (.iload_n 3, 1) := by decide +kernel
theorem dL_isStep_520 : decode cL_isStep 520 = .ok (.iconst 3, 1) := by decide +kernel
theorem dL_isStep_521 : decode cL_isStep 521 = .ok (.ishr, 1) := by decide +kernel
theorem dL_isStep_522 : decode cL_isStep 522 = .ok (.bipush 6, 2) := by decide +kernel
theorem dL_isStep_524 : decode cL_isStep 524 = .ok (.invokestatic 15, 3) := by decide +kernel
theorem dL_isStep_527 : decode cL_isStep 527 = .ok (.goto 48, 3) := by decide +kernel
theorem dL_isStep_530 : decode cL_isStep 530 = .ok (.iload 9, 2) := by decide +kernel
theorem dL_isStep_532 : decode cL_isStep 532 = .ok (.bipush 7, 2) := by decide +kernel
theorem dL_isStep_534 : decode cL_isStep 534 = .ok (.if_icmp .ne 14, 3) := by decide +kernel
theorem dL_isStep_537 : decode cL_isStep 537 = .ok (.iload_n 3, 1) := by decide +kernel
theorem dL_isStep_538 : decode cL_isStep 538 = .ok (.iconst 3, 1) := by decide +kernel
theorem dL_isStep_539 : decode cL_isStep 539 = .ok (.ishr, 1) := by decide +kernel
theorem dL_isStep_540 : decode cL_isStep 540 = .ok (.bipush 10, 2) := by decide +kernel
theorem dL_isStep_542 : decode cL_isStep 542 = .ok (.invokestatic 15, 3) := by decide +kernel
theorem dL_isStep_545 : decode cL_isStep 545 = .ok (.goto 30, 3) := by decide +kernel
theorem dL_isStep_548 : decode cL_isStep 548 = .ok (.iload 9, 2) := by decide +kernel
theorem dL_isStep_550 : decode cL_isStep 550 = .ok (.bipush 8, 2) := by decide +kernel
theorem dL_isStep_552 : decode cL_isStep 552 = .ok (.if_icmp .ne 16, 3) := by decide +kernel
theorem dL_isStep_555 : decode cL_isStep 555 = .ok (.iconst 1, 1) := by decide +kernel
theorem dL_isStep_556 : decode cL_isStep 556 = .ok (.iload_n 3, 1) := by decide +kernel
theorem dL_isStep_557 : decode cL_isStep 557 = .ok (.iconst 3, 1) := by decide +kernel
theorem dL_isStep_558 : decode cL_isStep 558 = .ok (.ishr, 1) := by decide +kernel
theorem dL_isStep_559 : decode cL_isStep 559 = .ok (.bipush 6, 2) := by decide +kernel
theorem dL_isStep_561 : decode cL_isStep 561 = .ok (.invokestatic 15, 3) := by decide +kernel
theorem dL_isStep_564 : decode cL_isStep 564 = .ok (.iadd, 1) := by decide +kernel
theorem dL_isStep_565 : decode cL_isStep 565 = .ok (.goto 10, 3) := by decide +kernel
theorem dL_isStep_568 : decode cL_isStep 568 = .ok (.iload_n 3, 1) := by decide +kernel
theorem dL_isStep_569 : decode cL_isStep 569 = .ok (.iconst 3, 1) := by decide +kernel
theorem dL_isStep_570 : decode cL_isStep 570 = .ok (.ishr, 1) := by decide +kernel
theorem dL_isStep_571 : decode cL_isStep 571 = .ok (.iconst 2, 1) := by decide +kernel
theorem dL_isStep_572 : decode cL_isStep 572 = .ok (.invokestatic 15, 3) := by decide +kernel
theorem dL_isStep_575 : decode cL_isStep 575 = .ok (.istore 10, 2) := by decide +kernel
theorem dL_isStep_577 : decode cL_isStep 577 = .ok (.aload_n 0, 1) := by decide +kernel
theorem dL_isStep_578 : decode cL_isStep 578 = .ok (.iload 9, 2) := by decide +kernel
theorem dL_isStep_580 : decode cL_isStep 580 = .ok (.iload 10, 2) := by decide +kernel
theorem dL_isStep_582 : decode cL_isStep 582 = .ok (.invokevirtual 37, 3) := by decide +kernel
theorem dL_isStep_585 : decode cL_isStep 585 = .ok (.istore 11, 2) := by decide +kernel
theorem dL_isStep_587 : decode cL_isStep 587 = .ok (.iload 11, 2) := by decide +kernel
theorem dL_isStep_589 : decode cL_isStep 589 = .ok (.aload_n 1, 1) := by decide +kernel
theorem dL_isStep_590 : decode cL_isStep 590 = .ok (.iload 9, 2) := by decide +kernel
theorem dL_isStep_592 : decode cL_isStep 592 = .ok (.iload 10, 2) := by decide +kernel
theorem dL_isStep_594 : decode cL_isStep 594 = .ok (.invokevirtual 37, 3) := by decide +kernel
theorem dL_isStep_597 : decode cL_isStep 597 = .ok (.if_icmp .ne 53, 3) := by decide +kernel
theorem dL_isStep_600 : decode cL_isStep 600 = .ok (.iload 11, 2) := by decide +kernel
theorem dL_isStep_602 : decode cL_isStep 602 = .ok (.ifCond .lt 24, 3) := by decide +kernel
theorem dL_isStep_605 : decode cL_isStep 605 = .ok (.aload_n 0, 1) := by decide +kernel
theorem dL_isStep_606 : decode cL_isStep 606 = .ok (.bipush 10, 2) := by decide +kernel
theorem dL_isStep_608 : decode cL_isStep 608 = .ok (.iload 9, 2) := by decide +kernel
theorem dL_isStep_610 : decode cL_isStep 610 = .ok (.iadd, 1) := by decide +kernel
theorem dL_isStep_611 : decode cL_isStep 611 = .ok (.invokevirtual 9, 3) := by decide +kernel
theorem dL_isStep_614 : decode cL_isStep 614 = .ok (.iload 10, 2) := by decide +kernel
theorem dL_isStep_616 : decode cL_isStep 616 = .ok (.sipush 1000, 3) := by decide +kernel
theorem dL_isStep_619 : decode cL_isStep 619 = .ok (.iadd, 1) := by decide +kernel
theorem dL_isStep_620 : decode cL_isStep 620 = .ok (.if_icmp .ne 30, 3) := by decide +kernel
theorem dL_isStep_623 : decode cL_isStep 623 = .ok (.goto 23, 3) := by decide +kernel
theorem dL_isStep_626 : decode cL_isStep 626 = .ok (.iload 11, 2) := by decide +kernel
theorem dL_isStep_628 : decode cL_isStep 628 = .ok (.bipush (-5), 2) := by decide +kernel
theorem dL_isStep_630 : decode cL_isStep 630 = .ok (.if_icmp .ne 20, 3) := by decide +kernel
theorem dL_isStep_633 : decode cL_isStep 633 = .ok (.iload 9, 2) := by decide +kernel
theorem dL_isStep_635 : decode cL_isStep 635 = .ok (.iconst 5, 1) := by decide +kernel
theorem dL_isStep_636 : decode cL_isStep 636 = .ok (.if_icmp .eq 10, 3) := by decide +kernel
theorem dL_isStep_639 : decode cL_isStep 639 = .ok (.iload 9, 2) := by decide +kernel
theorem dL_isStep_641 : decode cL_isStep 641 = .ok (.bipush 6, 2) := by decide +kernel
theorem dL_isStep_643 : decode cL_isStep 643 = .ok (.if_icmp .ne 7, 3) := by decide +kernel
theorem dL_isStep_646 : decode cL_isStep 646 = .ok (.iconst 1, 1) := by decide +kernel
theorem dL_isStep_647 : decode cL_isStep 647 = .ok (.goto 4, 3) := by decide +kernel
theorem dL_isStep_650 : decode cL_isStep 650 = .ok (.iconst 0, 1) := by decide +kernel
theorem dL_isStep_651 : decode cL_isStep 651 = .ok (.ireturn, 1) := by decide +kernel
theorem dL_areAlike_0 : decode cL_areAlike 0 = .ok (.aload_n 0, 1) := by decide +kernel
theorem dL_areAlike_1 : decode cL_areAlike 1 = .ok (.iconst 1, 1) := by decide +kernel
theorem dL_areAlike_2 : decode cL_areAlike 2 = .ok (.invokevirtual 9, 3) := by decide +kernel
theorem dL_areAlike_5 : decode cL_areAlike 5 = .ok (.istore_n 3, 1) := by decide +kernel
theorem dL_areAlike_6 : decode cL_areAlike 6 = .ok (.aload_n 0, 1) := by decide +kernel
theorem dL_areAlike_7 : decode cL_areAlike 7 = .ok (.iload_n 2, 1) := by decide +kernel
theorem dL_areAlike_8 : decode cL_areAlike 8 = .ok (.invokevirtual 40, 3) := by decide +kernel
theorem dL_areAlike_11 : decode cL_areAlike 11 = .ok (.aload_n 1, 1) := by decide +kernel
theorem dL_areAlike_12 : decode cL_areAlike 12 = .ok (.iload_n 2, 1) := by decide +kernel
theorem dL_areAlike_13 : decode cL_areAlike 13 = .ok (.ineg, 1) := by decide +kernel
theorem dL_areAlike_14 : decode cL_areAlike 14 = .ok (.invokevirtual 40, 3) := by decide +kernel
theorem dL_areAlike_17 : decode cL_areAlike 17 = .ok (.if_icmp .ne 20, 3) := by decide +kernel
theorem dL_areAlike_20 : decode cL_areAlike 20 = .ok (.aload_n 0, 1) := by decide +kernel
theorem dL_areAlike_21 : decode cL_areAlike 21 = .ok (.iconst 1, 1) := by decide +kernel
theorem dL_areAlike_22 : decode cL_areAlike 22 = .ok (.invokevirtual 43, 3) := by decide +kernel
theorem dL_areAlike_25 : decode cL_areAlike 25 = .ok (.aload_n 1, 1) := by decide +kernel
theorem dL_areAlike_26 : decode cL_areAlike 26 = .ok (.iconst 1, 1) := by decide +kernel
theorem dL_areAlike_27 : decode cL_areAlike 27 = .ok (.invokevirtual 43, 3) := by decide +kernel
theorem dL_areAlike_30 : decode cL_areAlike 30 = .ok (.if_icmp .ne 7, 3) := by decide +kernel
theorem dL_areAlike_33 : decode cL_areAlike 33 = .ok (.iconst 1, 1) := by decide +kernel
theorem dL_areAlike_34 : decode cL_areAlike 34 = .ok (.goto 4, 3) := by decide +kernel
theorem dL_areAlike_37 : decode cL_areAlike 37 = .ok (.iconst 0, 1) := by decide +kernel
theorem dL_areAlike_38 : decode cL_areAlike 38 = .ok (.istore 4, 2) := by decide +kernel
theorem dL_areAlike_40 : decode cL_areAlike 40 = .ok (.iconst 0, 1) := by decide +kernel
theorem dL_areAlike_41 : decode cL_areAlike 41 = .ok (.istore 5, 2) := by decide +kernel
theorem dL_areAlike_43 : decode cL_areAlike 43 = .ok (.iload 5, 2) := by decide +kernel
theorem dL_areAlike_45 : decode cL_areAlike 45 = .ok (.bipush 10, 2) := by decide +kernel
theorem dL_areAlike_47 : decode cL_areAlike 47 = .ok (.if_icmp .ge 36, 3) := by decide +kernel
theorem dL_areAlike_50 : decode cL_areAlike 50 = .ok (.iload 4, 2) := by decide +kernel
theorem dL_areAlike_52 : decode cL_areAlike 52 = .ok (.ifCond .eq 22, 3) := by decide +kernel
theorem dL_areAlike_55 : decode cL_areAlike 55 = .ok (.aload_n 0, 1) := by decide +kernel
theorem dL_areAlike_56 : decode cL_areAlike 56 = .ok (.iload 5, 2) := by decide +kernel
theorem dL_areAlike_58 : decode cL_areAlike 58 = .ok (.invokevirtual 9, 3) := by decide +kernel
theorem dL_areAlike_61 : decode cL_areAlike 61 = .ok (.aload_n 1, 1) := by decide +kernel
theorem dL_areAlike_62 : decode cL_areAlike 62 = .ok (.iload 5, 2) := by decide +kernel
theorem dL_areAlike_64 : decode cL_areAlike 64 = .ok (.invokevirtual 9, 3) := by decide +kernel
theorem dL_areAlike_67 : decode cL_areAlike 67 = .ok (.if_icmp .ne 7, 3) := by decide +kernel
theorem dL_areAlike_70 : decode cL_areAlike 70 = .ok (.iconst 1, 1) := by decide +kernel
theorem dL_areAlike_71 : decode cL_areAlike 71 = .ok (.goto 4, 3) := by decide +kernel
theorem dL_areAlike_74 : decode cL_areAlike 74 = .ok (.iconst 0, 1) := by decide +kernel
theorem dL_areAlike_75 : decode cL_areAlike 75 = .ok (.istore 4, 2) := by decide +kernel
theorem dL_areAlike_77 : decode cL_areAlike 77 = .ok (.iinc 5 1, 3) := by decide +kernel
theorem dL_areAlike_80 : decode cL_areAlike 80 = .ok (.goto (-37), 3) := by decide +kernel
theorem dL_areAlike_83 : decode cL_areAlike 83 = .ok (.iconst 0, 1) := by decide +kernel
theorem dL_areAlike_84 : decode cL_areAlike 84 = .ok (.istore 5, 2) := by decide +kernel
theorem dL_areAlike_86 : decode cL_areAlike 86 = .ok (.iload 5, 2) := by decide +kernel
theorem dL_areAlike_88 : decode cL_areAlike 88 = .ok (.iload_n 3, 1) := by decide +kernel
theorem dL_areAlike_89 : decode cL_areAlike 89 = .ok (.if_icmp .ge 229, 3) := by decide +kernel
theorem dL_areAlike_92 : decode cL_areAlike 92 = .ok (.iload 4, 2) := by decide +kernel
theorem dL_areAlike_94 : decode cL_areAlike 94 = .ok (.ifCond .eq 224, 3) := by decide +kernel
theorem dL_areAlike_97 : decode cL_areAlike 97 = .ok (.aload_n 0, 1) := by decide +kernel
theorem dL_areAlike_98 : decode cL_areAlike 98 = .ok (.iload 5, 2) := by decide +kernel
theorem dL_areAlike_100 : decode cL_areAlike 100 = .ok (.iconst 0, 1) := by decide +kernel
theorem dL_areAlike_101 : decode cL_areAlike 101 = .ok (.invokevirtual 46, 3) := by decide +kernel
theorem dL_areAlike_104 : decode cL_areAlike 104 = .ok (.aload_n 1, 1) := by decide +kernel
theorem dL_areAlike_105 : decode cL_areAlike 105 = .ok (.iload 5, 2) := by decide +kernel
theorem dL_areAlike_107 : decode cL_areAlike 107 = .ok (.iconst 0, 1) := by decide +kernel
theorem dL_areAlike_108 : decode cL_areAlike 108 = .ok (.invokevirtual 46, 3) := by decide +kernel
theorem dL_areAlike_111 : decode cL_areAlike 111 = .ok (.if_icmp .ne 152, 3) := by decide +kernel
theorem dL_areAlike_114 : decode cL_areAlike 114 = .ok (.aload_n 0, 1) := by decide +kernel
theorem dL_areAlike_115 : decode cL_areAlike 115 = .ok (.iload 5, 2) := by decide +kernel
theorem dL_areAlike_117 : decode cL_areAlike 117 = .ok (.iconst 1, 1) := by decide +kernel
theorem dL_areAlike_118 : decode cL_areAlike 118 = .ok (.invokevirtual 46, 3) := by decide +kernel
theorem dL_areAlike_121 : decode cL_areAlike 121 = .ok (.aload_n 1, 1) := by decide +kernel
theorem dL_areAlike_122 : decode cL_areAlike 122 = .ok (.iload 5, 2) := by decide +kernel
theorem dL_areAlike_124 : decode cL_areAlike 124 = .ok (.iconst 1, 1) := by decide +kernel
theorem dL_areAlike_125 : decode cL_areAlike 125 = .ok (.invokevirtual 46, 3) := by decide +kernel
theorem dL_areAlike_128 : decode cL_areAlike 128 = .ok (.if_icmp .ne 135, 3) := by decide +kernel
theorem dL_areAlike_131 : decode cL_areAlike 131 = .ok (.aload_n 0, 1) := by decide +kernel
theorem dL_areAlike_132 : decode cL_areAlike 132 = .ok (.iload 5, 2) := by decide +kernel
theorem dL_areAlike_134 : decode cL_areAlike 134 = .ok (.iconst 2, 1) := by decide +kernel
theorem dL_areAlike_135 : decode cL_areAlike 135 = .ok (.invokevirtual 46, 3) := by decide +kernel
theorem dL_areAlike_138 : decode cL_areAlike 138 = .ok (.aload_n 1, 1) := by decide +kernel
theorem dL_areAlike_139 : decode cL_areAlike 139 = .ok (.iload 5, 2) := by decide +kernel
theorem dL_areAlike_141 : decode cL_areAlike 141 = .ok (.iconst 2, 1) := by decide +kernel
theorem dL_areAlike_142 : decode cL_areAlike 142 = .ok (.invokevirtual 46, 3) := by decide +kernel
theorem dL_areAlike_145 : decode cL_areAlike 145 = .ok (.if_icmp .ne 118, 3) := by decide +kernel
theorem dL_areAlike_148 : decode cL_areAlike 148 = .ok (.aload_n 0, 1) := by decide +kernel
theorem dL_areAlike_149 : decode cL_areAlike 149 = .ok (.iload 5, 2) := by decide +kernel
theorem dL_areAlike_151 : decode cL_areAlike 151 = .ok (.iconst 3, 1) := by decide +kernel
theorem dL_areAlike_152 : decode cL_areAlike 152 = .ok (.invokevirtual 46, 3) := by decide +kernel
theorem dL_areAlike_155 : decode cL_areAlike 155 = .ok (.iconst 1, 1) := by decide +kernel
theorem dL_areAlike_156 : decode cL_areAlike 156 = .ok (.aload_n 1, 1) := by decide +kernel
theorem dL_areAlike_157 : decode cL_areAlike 157 = .ok (.iload 5, 2) := by decide +kernel
theorem dL_areAlike_159 : decode cL_areAlike 159 = .ok (.iconst 3, 1) := by decide +kernel
theorem dL_areAlike_160 : decode cL_areAlike 160 = .ok (.invokevirtual 46, 3) := by decide +kernel
theorem dL_areAlike_163 : decode cL_areAlike 163 = .ok (.isub, 1) := by decide +kernel
theorem dL_areAlike_164 : decode cL_areAlike 164 = .ok (.if_icmp .ne 99, 3) := by decide +kernel
theorem dL_areAlike_167 : decode cL_areAlike 167 = .ok (.aload_n 0, 1) := by decide +kernel
theorem dL_areAlike_168 : decode cL_areAlike 168 = .ok (.iload 5, 2) := by decide +kernel
theorem dL_areAlike_170 : decode cL_areAlike 170 = .ok (.iconst 4, 1) := by decide +kernel
theorem dL_areAlike_171 : decode cL_areAlike 171 = .ok (.invokevirtual 46, 3) := by decide +kernel
theorem dL_areAlike_174 : decode cL_areAlike 174 = .ok (.sipush 1000, 3) := by decide +kernel
theorem dL_areAlike_177 : decode cL_areAlike 177 = .ok (.isub, 1) := by decide +kernel
theorem dL_areAlike_178 : decode cL_areAlike 178 = .ok (.sipush 1000, 3) := by decide +kernel
theorem dL_areAlike_181 : decode cL_areAlike 181 = .ok (.aload_n 1, 1) := by decide +kernel
theorem dL_areAlike_182 : decode cL_areAlike 182 = .ok (.iload 5, 2) := by decide +kernel
theorem dL_areAlike_184 : decode cL_areAlike 184 = .ok (.iconst 5, 1) := by decide +kernel
theorem dL_areAlike_185 : decode cL_areAlike 185 = .ok (.invokevirtual 46, 3) := by decide +kernel
theorem dL_areAlike_188 : decode cL_areAlike 188 = .ok (.isub, 1) := by decide +kernel
theorem dL_areAlike_189 : decode cL_areAlike 189 = .ok (.if_icmp .ne 74, 3) := by decide +kernel
theorem dL_areAlike_192 : decode cL_areAlike 192 = .ok (.aload_n 0, 1) := by decide +kernel
theorem dL_areAlike_193 : decode cL_areAlike 193 = .ok (.iload 5, 2) := by decide +kernel
theorem dL_areAlike_195 : decode cL_areAlike 195 = .ok (.iconst 5, 1) := by decide +kernel
theorem dL_areAlike_196 : decode cL_areAlike 196 = .ok (.invokevirtual 46, 3) := by decide +kernel
theorem dL_areAlike_199 : decode cL_areAlike 199 = .ok (.sipush 1000, 3) := by decide +kernel
theorem dL_areAlike_202 : decode cL_areAlike 202 = .ok (.isub, 1) := by decide +kernel
theorem dL_areAlike_203 : decode cL_areAlike 203 = .ok (.sipush 1000, 3) := by decide +kernel
theorem dL_areAlike_206 : decode cL_areAlike 206 = .ok (.aload_n 1, 1) := by decide +kernel
theorem dL_areAlike_207 : decode cL_areAlike 207 = .ok (.iload 5, 2) := by decide +kernel
theorem dL_areAlike_209 : decode cL_areAlike 209 = .ok (.iconst 4, 1) := by decide +kernel
theorem dL_areAlike_210 : decode cL_areAlike 210 = .ok (.invokevirtual 46, 3) := by decide +kernel
theorem dL_areAlike_213 : decode cL_areAlike 213 = .ok (.isub, 1) := by decide +kernel
theorem dL_areAlike_214 : decode cL_areAlike 214 = .ok (.if_icmp .ne 49, 3) := by decide +kernel
theorem dL_areAlike_217 : decode cL_areAlike 217 = .ok (.aload_n 0, 1) := by decide +kernel
theorem dL_areAlike_218 : decode cL_areAlike 218 = .ok (.iload 5, 2) := by decide +kernel
theorem dL_areAlike_220 : decode cL_areAlike 220 = .ok (.bipush 6, 2) := by decide +kernel
theorem dL_areAlike_222 : decode cL_areAlike 222 = .ok (.invokevirtual 46, 3) := by decide +kernel
theorem dL_areAlike_225 : decode cL_areAlike 225 = .ok (.sipush 10000, 3) := by decide +kernel
theorem dL_areAlike_228 : decode cL_areAlike 228 = .ok (.isub, 1) := by decide +kernel
theorem dL_areAlike_229 : decode cL_areAlike 229 = .ok (.sipush 10000, 3) := by decide +kernel
theorem dL_areAlike_232 : decode cL_areAlike 232 = .ok (.aload_n 1, 1) := by decide +kernel
theorem dL_areAlike_233 : decode cL_areAlike 233 = .ok (.iload 5, 2) := by decide +kernel
theorem dL_areAlike_235 : decode cL_areAlike 235 = .ok (.bipush 6, 2) := by decide +kernel
theorem dL_areAlike_237 : decode cL_areAlike 237 = .ok (.invokevirtual 46, 3) := by decide +kernel
theorem dL_areAlike_240 : decode cL_areAlike 240 = .ok (.isub, 1) := by decide +kernel
theorem dL_areAlike_241 : decode cL_areAlike 241 = .ok (.if_icmp .ne 22, 3) := by decide +kernel
theorem dL_areAlike_244 : decode cL_areAlike 244 = .ok (.aload_n 0, 1) := by decide +kernel
theorem dL_areAlike_245 : decode cL_areAlike 245 = .ok (.iload 5, 2) := by decide +kernel
theorem dL_areAlike_247 : decode cL_areAlike 247 = .ok (.invokevirtual 49, 3) := by decide +kernel
theorem dL_areAlike_250 : decode cL_areAlike 250 = .ok (.aload_n 1, 1) := by decide +kernel
theorem dL_areAlike_251 : decode cL_areAlike 251 = .ok (.iload 5, 2) := by decide +kernel
theorem dL_areAlike_253 : decode cL_areAlike 253 = .ok (.invokevirtual 49, 3) := by decide +kernel
theorem dL_areAlike_256 : decode cL_areAlike 256 = .ok (.if_icmp .ne 7, 3) := by decide +kernel
theorem dL_areAlike_259 : decode cL_areAlike 259 = .ok (.iconst 1, 1) := by decide +kernel
theorem dL_areAlike_260 : decode cL_areAlike 260 = .ok (.goto 4, 3) := by decide +kernel
theorem dL_areAlike_263 : decode cL_areAlike 263 = .ok (.iconst 0, 1) := by decide +kernel
theorem dL_areAlike_264 : decode cL_areAlike 264 = .ok (.istore 4, 2) := by decide +kernel
theorem dL_areAlike_266 : decode cL_areAlike 266 = .ok (.iconst 0, 1) := by decide +kernel
theorem dL_areAlike_267 : decode cL_areAlike 267 = .ok (.istore 6, 2) := by decide +kernel
theorem dL_areAlike_269 : decode cL_areAlike 269 = .ok (.iload 6, 2) := by decide +kernel
theorem dL_areAlike_271 : decode cL_areAlike 271 = .ok (.iload_n 3, 1) := by decide +kernel
theorem dL_areAlike_272 : decode cL_areAlike 272 = .ok (.if_icmp .ge 40, 3) := by decide +kernel
theorem dL_areAlike_275 : decode cL_areAlike 275 = .ok (.iload 4, 2) := by decide +kernel
theorem dL_areAlike_277 : decode cL_areAlike 277 = .ok (.ifCond .eq 26, 3) := by decide +kernel
theorem dL_areAlike_280 : decode cL_areAlike 280 = .ok (.aload_n 0, 1) := by decide +kernel
theorem dL_areAlike_281 : decode cL_areAlike 281 = .ok (.iload 5, 2) := by decide +kernel
theorem dL_areAlike_283 : decode cL_areAlike 283 = .ok (.iload 6, 2) := by decide +kernel
theorem dL_areAlike_285 : decode cL_areAlike 285 = .ok (.invokevirtual 52, 3) := by decide +kernel
theorem dL_areAlike_288 : decode cL_areAlike 288 = .ok (.aload_n 1, 1) := by decide +kernel
theorem dL_areAlike_289 : decode cL_areAlike 289 = .ok (.iload 5, 2) := by decide +kernel
theorem dL_areAlike_291 : decode cL_areAlike 291 = .ok (.iload 6, 2) := by decide +kernel
theorem dL_areAlike_293 : decode cL_areAlike 293 = .ok (.invokevirtual 52, 3) := by decide +kernel
theorem dL_areAlike_296 : decode cL_areAlike 296 = .ok (.if_icmp .ne 7, 3) := by decide +kernel
theorem dL_areAlike_299 : decode cL_areAlike 299 = .ok (.iconst 1, 1) := by decide +kernel
theorem dL_areAlike_300 : decode cL_areAlike 300 = .ok (.goto 4, 3) := by decide +kernel
theorem dL_areAlike_303 : decode cL_areAlike 303 = .ok (.iconst 0, 1) := by decide +kernel
theorem dL_areAlike_304 : decode cL_areAlike 304 = .ok (.istore 4, 2) := by decide +kernel
theorem dL_areAlike_306 : decode cL_areAlike 306 = .ok (.iinc 6 1, 3) := by decide +kernel
theorem dL_areAlike_309 : decode cL_areAlike 309 = .ok (.goto (-40), 3) := by decide +kernel
theorem dL_areAlike_312 : decode cL_areAlike 312 = .ok (.iinc 5 1, 3) := by decide +kernel
theorem dL_areAlike_315 : decode cL_areAlike 315 = .ok (.goto (-229), 3) := by decide +kernel
theorem dL_areAlike_318 : decode cL_areAlike 318 = .ok (.iload 4, 2) := by decide +kernel
theorem dL_areAlike_320 : decode cL_areAlike 320 = .ok (.ireturn, 1) := by decide +kernel
theorem dL_isWell_0 : decode cL_isWell 0 = .ok (.aload_n 0, 1) := by decide +kernel
theorem dL_isWell_1 : decode cL_isWell 1 = .ok (.iconst 1, 1) := by decide +kernel
theorem dL_isWell_2 : decode cL_isWell 2 = .ok (.invokevirtual 9, 3) := by decide +kernel
theorem dL_isWell_5 : decode cL_isWell 5 = .ok (.istore_n 1, 1) := by decide +kernel
theorem dL_isWell_6 : decode cL_isWell 6 = .ok (.aload_n 0, 1) := by decide +kernel
theorem dL_isWell_7 : decode cL_isWell 7 = .ok (.iconst 0, 1) := by decide +kernel
theorem dL_isWell_8 : decode cL_isWell 8 = .ok (.invokevirtual 9, 3) := by decide +kernel
theorem dL_isWell_11 : decode cL_isWell 11 = .ok (.istore_n 2, 1) := by decide +kernel
theorem dL_isWell_12 : decode cL_isWell 12 = .ok (.aload_n 0, 1) := by decide +kernel
theorem dL_isWell_13 : decode cL_isWell 13 = .ok (.iconst 2, 1) := by decide +kernel
theorem dL_isWell_14 : decode cL_isWell 14 = .ok (.invokevirtual 9, 3) := by decide +kernel
theorem dL_isWell_17 : decode cL_isWell 17 = .ok (.istore_n 3, 1) := by decide +kernel
theorem dL_isWell_18 : decode cL_isWell 18 = .ok (.iload_n 3, 1) := by decide +kernel
theorem dL_isWell_19 : decode cL_isWell 19 = .ok (.iconst 3, 1) := by decide +kernel
theorem dL_isWell_20 : decode cL_isWell 20 = .ok (.if_icmp .ne 7, 3) := by decide +kernel
theorem dL_isWell_23 : decode cL_isWell 23 = .ok (.iconst 1, 1) := by decide +kernel
theorem dL_isWell_24 : decode cL_isWell 24 = .ok (.goto 4, 3) := by decide +kernel
theorem dL_isWell_27 : decode cL_isWell 27 = .ok (.iconst 0, 1) := by decide +kernel
theorem dL_isWell_28 : decode cL_isWell 28 = .ok (.istore 4, 2) := by decide +kernel
theorem dL_isWell_30 : decode cL_isWell 30 = .ok (.iconst (-1), 1) := by decide +kernel
theorem dL_isWell_31 : decode cL_isWell 31 = .ok (.istore 5, 2) := by decide +kernel
theorem dL_isWell_33 : decode cL_isWell 33 = .ok (.aload_n 0, 1) := by decide +kernel
theorem dL_isWell_34 : decode cL_isWell 34 = .ok (.iconst 4, 1) := by decide +kernel
theorem dL_isWell_35 : decode cL_isWell 35 = .ok (.invokevirtual 9, 3) := by decide +kernel
theorem dL_isWell_38 : decode cL_isWell 38 = .ok (.aload_n 0, 1) := by decide +kernel
theorem dL_isWell_39 : decode cL_isWell 39 = .ok (.iconst 5, 1) := by decide +kernel
theorem dL_isWell_40 : decode cL_isWell 40 = .ok (.invokevirtual 9, 3) := by decide +kernel
theorem dL_isWell_43 : decode cL_isWell 43 = .ok (.aload_n 0, 1) := by decide +kernel
theorem dL_isWell_44 : decode cL_isWell 44 = .ok (.bipush 6, 2) := by decide +kernel
theorem dL_isWell_46 : decode cL_isWell 46 = .ok (.invokevirtual 9, 3) := by decide +kernel
theorem dL_isWell_49 : decode cL_isWell 49 = .ok (.iadd, 1) := by decide +kernel
theorem dL_isWell_50 : decode cL_isWell 50 = .ok (.if_icmp .ne 148, 3) := by decide +kernel
theorem dL_isWell_53 : decode cL_isWell 53 = .ok (.aload_n 0, 1) := by decide +kernel
theorem dL_isWell_54 : decode cL_isWell 54 = .ok (.iconst 5, 1) := by decide +kernel
theorem dL_isWell_55 : decode cL_isWell 55 = .ok (.invokevirtual 9, 3) := by decide +kernel
theorem dL_isWell_58 : decode cL_isWell 58 = .ok (.aload_n 0, 1) := by decide +kernel
theorem dL_isWell_59 : decode cL_isWell 59 = .ok (.bipush 7, 2) := by decide +kernel
theorem dL_isWell_61 : decode cL_isWell 61 = .ok (.invokevirtual 9, 3) := by decide +kernel
theorem dL_isWell_64 : decode cL_isWell 64 = .ok (.if_icmp .lt 134, 3) := by decide +kernel
theorem dL_isWell_67 : decode cL_isWell 67 = .ok (.iload_n 1, 1) := by decide +kernel
theorem dL_isWell_68 : decode cL_isWell 68 = .ok (.aload_n 0, 1) := by decide +kernel
theorem dL_isWell_69 : decode cL_isWell 69 = .ok (.bipush 18, 2) := by decide +kernel
theorem dL_isWell_71 : decode cL_isWell 71 = .ok (.invokevirtual 9, 3) := by decide +kernel
theorem dL_isWell_74 : decode cL_isWell 74 = .ok (.sipush 1000, 3) := by decide +kernel
theorem dL_isWell_77 : decode cL_isWell 77 = .ok (.isub, 1) := by decide +kernel
theorem dL_isWell_78 : decode cL_isWell 78 = .ok (.if_icmp .gt 120, 3) := by decide +kernel
theorem dL_isWell_81 : decode cL_isWell 81 = .ok (.iload_n 1, 1) := by decide +kernel
theorem dL_isWell_82 : decode cL_isWell 82 = .ok (.aload_n 0, 1) := by decide +kernel
theorem dL_isWell_83 : decode cL_isWell 83 = .ok (.bipush 7, 2) := by decide +kernel
theorem dL_isWell_85 : decode cL_isWell 85 = .ok (.invokevirtual 9, 3) := by decide +kernel
theorem dL_isWell_88 : decode cL_isWell 88 = .ok (.if_icmp .gt 110, 3) := by decide +kernel
theorem dL_isWell_91 : decode cL_isWell 91 = .ok (.aload_n 0, 1) := by decide +kernel
theorem dL_isWell_92 : decode cL_isWell 92 = .ok (.bipush 8, 2) := by decide +kernel
theorem dL_isWell_94 : decode cL_isWell 94 = .ok (.invokevirtual 9, 3) := by decide +kernel
theorem dL_isWell_97 : decode cL_isWell 97 = .ok (.iload_n 2, 1) := by decide +kernel
theorem dL_isWell_98 : decode cL_isWell 98 = .ok (.if_icmp .gt 100, 3) := by decide +kernel
theorem dL_isWell_101 : decode cL_isWell 101 = .ok (.iload 4, 2) := by decide +kernel
theorem dL_isWell_103 : decode cL_isWell 103 = .ok (.aload_n 0, 1) := by decide +kernel
theorem dL_isWell_104 : decode cL_isWell 104 = .ok (.bipush 9, 2) := by decide +kernel
theorem dL_isWell_106 : decode cL_isWell 106 = .ok (.invokevirtual 9, 3) := by decide +kernel
theorem dL_isWell_109 : decode cL_isWell 109 = .ok (.ifCond .le 7, 3) := by decide +kernel
theorem dL_isWell_112 : decode cL_isWell 112 = .ok (.iconst 1, 1) := by decide +kernel
theorem dL_isWell_113 : decode cL_isWell 113 = .ok (.goto 4, 3) := by decide +kernel
theorem dL_isWell_116 : decode cL_isWell 116 = .ok (.iconst 0, 1) := by decide +kernel
theorem dL_isWell_117 : decode cL_isWell 117 = .ok (.if_icmp .ne 81, 3) := by decide +kernel
theorem dL_isWell_120 : decode cL_isWell 120 = .ok (.iload_n 3, 1) := by decide +kernel
theorem dL_isWell_121 : decode cL_isWell 121 = .ok (.iconst 2, 1) := by decide +kernel
theorem dL_isWell_122 : decode cL_isWell 122 = .ok (.if_icmp .ne 29, 3) := by decide +kernel
theorem dL_isWell_125 : decode cL_isWell 125 = .ok (.iload_n 1, 1) := by decide +kernel
theorem dL_isWell_126 : decode cL_isWell 126 = .ok (.aload_n 0, 1) := by decide +kernel
theorem dL_isWell_127 : decode cL_isWell 127 = .ok (.bipush 18, 2) := by decide +kernel
theorem dL_isWell_129 : decode cL_isWell 129 = .ok (.invokevirtual 9, 3) := by decide +kernel
theorem dL_isWell_132 : decode cL_isWell 132 = .ok (.sipush 1000, 3) := by decide +kernel
theorem dL_isWell_135 : decode cL_isWell 135 = .ok (.isub, 1) := by decide +kernel
theorem dL_isWell_136 : decode cL_isWell 136 = .ok (.if_icmp .ne 62, 3) := by decide +kernel
theorem dL_isWell_139 : decode cL_isWell 139 = .ok (.aload_n 0, 1) := by decide +kernel
theorem dL_isWell_140 : decode cL_isWell 140 = .ok (.bipush 19, 2) := by decide +kernel
theorem dL_isWell_142 : decode cL_isWell 142 = .ok (.invokevirtual 9, 3) := by decide +kernel
theorem dL_isWell_145 : decode cL_isWell 145 = .ok (.sipush 1000, 3) := by decide +kernel
theorem dL_isWell_148 : decode cL_isWell 148 = .ok (.if_icmp .ne 50, 3) := by decide +kernel
theorem dL_isWell_151 : decode cL_isWell 151 = .ok (.iload_n 3, 1) := by decide +kernel
theorem dL_isWell_152 : decode cL_isWell 152 = .ok (.iconst 1, 1) := by decide +kernel
theorem dL_isWell_153 : decode cL_isWell 153 = .ok (.if_icmp .ne 41, 3) := by decide +kernel
theorem dL_isWell_156 : decode cL_isWell 156 = .ok (.aload_n 0, 1) := by decide +kernel
theorem dL_isWell_157 : decode cL_isWell 157 = .ok (.bipush 8, 2) := by decide +kernel
theorem dL_isWell_159 : decode cL_isWell 159 = .ok (.invokevirtual 9, 3) := by decide +kernel
theorem dL_isWell_162 : decode cL_isWell 162 = .ok (.aload_n 0, 1) := by decide +kernel
theorem dL_isWell_163 : decode cL_isWell 163 = .ok (.bipush 16, 2) := by decide +kernel
theorem dL_isWell_165 : decode cL_isWell 165 = .ok (.invokevirtual 9, 3) := by decide +kernel
theorem dL_isWell_168 : decode cL_isWell 168 = .ok (.sipush 1000, 3) := by decide +kernel
theorem dL_isWell_171 : decode cL_isWell 171 = .ok (.isub, 1) := by decide +kernel
theorem dL_isWell_172 : decode cL_isWell 172 = .ok (.if_icmp .lt 26, 3) := by decide +kernel
theorem dL_isWell_175 : decode cL_isWell 175 = .ok (.aload_n 0, 1) := by decide +kernel
theorem dL_isWell_176 : decode cL_isWell 176 = .ok (.bipush 8, 2) := by decide +kernel
theorem dL_isWell_178 : decode cL_isWell 178 = .ok (.invokevirtual 9, 3) := by decide +kernel
theorem dL_isWell_181 : decode cL_isWell 181 = .ok (.aload_n 0, 1) := by decide +kernel
theorem dL_isWell_182 : decode cL_isWell 182 = .ok (.bipush 17, 2) := by decide +kernel
theorem dL_isWell_184 : decode cL_isWell 184 = .ok (.invokevirtual 9, 3) := by decide +kernel
theorem dL_isWell_187 : decode cL_isWell 187 = .ok (.sipush 1000, 3) := by decide +kernel
theorem dL_isWell_190 : decode cL_isWell 190 = .ok (.isub, 1) := by decide +kernel
theorem dL_isWell_191 : decode cL_isWell 191 = .ok (.if_icmp .lt 7, 3) := by decide +kernel
theorem dL_isWell_194 : decode cL_isWell 194 = .ok (.iconst 1, 1) := by decide +kernel
theorem dL_isWell_195 : decode cL_isWell 195 = .ok (.goto 4, 3) := by decide +kernel
theorem dL_isWell_198 : decode cL_isWell 198 = .ok (.iconst 0, 1) := by decide +kernel
theorem dL_isWell_199 : decode cL_isWell 199 = .ok (.istore 6, 2) := by decide +kernel
theorem dL_isWell_201 : decode cL_isWell 201 = .ok (.iconst 0, 1) := by decide +kernel
theorem dL_isWell_202 : decode cL_isWell 202 = .ok (.istore 7, 2) := by decide +kernel
theorem dL_isWell_204 : decode cL_isWell 204 = .ok (.iload 7, 2) := by decide +kernel
theorem dL_isWell_206 : decode cL_isWell 206 = .ok (.iload_n 1, 1) := by decide +kernel
theorem dL_isWell_207 : decode cL_isWell 207 = .ok (.if_icmp .ge 328, 3) := by decide +kernel
theorem dL_isWell_210 : decode cL_isWell 210 = .ok (.iload 6, 2) := by decide +kernel
theorem dL_isWell_212 : decode cL_isWell 212 = .ok (.ifCond .eq 323, 3) := by decide +kernel
theorem dL_isWell_215 : decode cL_isWell 215 = .ok (.aload_n 0, 1) := by decide +kernel
theorem dL_isWell_216 : decode cL_isWell 216 = .ok (.iload 7, 2) := by decide +kernel
theorem dL_isWell_218 : decode cL_isWell 218 = .ok (.iconst 0, 1) := by decide +kernel
theorem dL_isWell_219 : decode cL_isWell 219 = .ok (.invokevirtual 46, 3) := by decide +kernel
theorem dL_isWell_222 : decode cL_isWell 222 = .ok (.istore 8, 2) := by decide +kernel
theorem dL_isWell_224 : decode cL_isWell 224 = .ok (.aload_n 0, 1) := by decide +kernel
theorem dL_isWell_225 : decode cL_isWell 225 = .ok (.iload 7, 2) := by decide +kernel
theorem dL_isWell_227 : decode cL_isWell 227 = .ok (.iconst 1, 1) := by decide +kernel
theorem dL_isWell_228 : decode cL_isWell 228 = .ok (.invokevirtual 46, 3) := by decide +kernel
theorem dL_isWell_231 : decode cL_isWell 231 = .ok (.istore 9, 2) := by decide +kernel
theorem dL_isWell_233 : decode cL_isWell 233 = .ok (.aload_n 0, 1) := by decide +kernel
theorem dL_isWell_234 : decode cL_isWell 234 = .ok (.iload 7, 2) := by decide +kernel
theorem dL_isWell_236 : decode cL_isWell 236 = .ok (.iconst 2, 1) := by decide +kernel
theorem dL_isWell_237 : decode cL_isWell 237 = .ok (.invokevirtual 46, 3) := by decide +kernel
theorem dL_isWell_240 : decode cL_isWell 240 = .ok (.istore 10, 2) := by decide +kernel
theorem dL_isWell_242 : decode cL_isWell 242 = .ok (.iload 8, 2) := by decide +kernel
theorem dL_isWell_244 : decode cL_isWell 244 = .ok (.iload 10, 2) := by decide +kernel
theorem dL_isWell_246 : decode cL_isWell 246 = .ok (.isub, 1) := by decide +kernel
theorem dL_isWell_247 : decode cL_isWell 247 = .ok (.istore 11, 2) := by decide +kernel
theorem dL_isWell_249 : decode cL_isWell 249 = .ok (.iconst 0, 1) := by decide +kernel
theorem dL_isWell_250 : decode cL_isWell 250 = .ok (.istore 12, 2) := by decide +kernel
theorem dL_isWell_252 : decode cL_isWell 252 = .ok (.iconst 0, 1) := by decide +kernel
theorem dL_isWell_253 : decode cL_isWell 253 = .ok (.istore 13, 2) := by decide +kernel
theorem dL_isWell_255 : decode cL_isWell 255 = .ok (.iload 10, 2) := by decide +kernel
theorem dL_isWell_257 : decode cL_isWell 257 = .ok (.iload 9, 2) := by decide +kernel
theorem dL_isWell_259 : decode cL_isWell 259 = .ok (.if_icmp .ge 23, 3) := by decide +kernel
theorem dL_isWell_262 : decode cL_isWell 262 = .ok (.iload 11, 2) := by decide +kernel
theorem dL_isWell_264 : decode cL_isWell 264 = .ok (.iload 5, 2) := by decide +kernel
theorem dL_isWell_266 : decode cL_isWell 266 = .ok (.if_icmp .le 16, 3) := by decide +kernel
theorem dL_isWell_269 : decode cL_isWell 269 = .ok (.iload 11, 2) := by decide +kernel
theorem dL_isWell_271 : decode cL_isWell 271 = .ok (.iload 9, 2) := by decide +kernel
theorem dL_isWell_273 : decode cL_isWell 273 = .ok (.iadd, 1) := by decide +kernel
theorem dL_isWell_274 : decode cL_isWell 274 = .ok (.iload_n 2, 1) := by decide +kernel
theorem dL_isWell_275 : decode cL_isWell 275 = .ok (.if_icmp .gt 7, 3) := by decide +kernel
theorem dL_isWell_278 : decode cL_isWell 278 = .ok (.iconst 1, 1) := by decide +kernel
theorem dL_isWell_279 : decode cL_isWell 279 = .ok (.goto 4, 3) := by decide +kernel
theorem dL_isWell_282 : decode cL_isWell 282 = .ok (.iconst 0, 1) := by decide +kernel
theorem dL_isWell_283 : decode cL_isWell 283 = .ok (.istore 6, 2) := by decide +kernel
theorem dL_isWell_285 : decode cL_isWell 285 = .ok (.iconst 0, 1) := by decide +kernel
theorem dL_isWell_286 : decode cL_isWell 286 = .ok (.istore 14, 2) := by decide +kernel
theorem dL_isWell_288 : decode cL_isWell 288 = .ok (.iload 14, 2) := by decide +kernel
theorem dL_isWell_290 : decode cL_isWell 290 = .ok (.iload 9, 2) := by decide +kernel
theorem dL_isWell_292 : decode cL_isWell 292 = .ok (.if_icmp .ge 110, 3) := by decide +kernel
theorem dL_isWell_295 : decode cL_isWell 295 = .ok (.iload 6, 2) := by decide +kernel
theorem dL_isWell_297 : decode cL_isWell 297 = .ok (.ifCond .eq 105, 3) := by decide +kernel
theorem dL_isWell_300 : decode cL_isWell 300 = .ok (.aload_n 0, 1) := by decide +kernel
theorem dL_isWell_301 : decode cL_isWell 301 = .ok (.iload 7, 2) := by decide +kernel
theorem dL_isWell_303 : decode cL_isWell 303 = .ok (.iload 14, 2) := by decide +kernel
theorem dL_isWell_305 : decode cL_isWell 305 = .ok (.invokevirtual 55, 3) := by decide +kernel
theorem dL_isWell_308 : decode cL_isWell 308 = .ok (.istore 15, 2) := by decide +kernel
theorem dL_isWell_310 : decode cL_isWell 310 = .ok (.iload 15, 2) := by decide +kernel
theorem dL_isWell_312 : decode cL_isWell 312 = .ok (.aload_n 0, 1) := by decide +kernel
theorem dL_isWell_313 : decode cL_isWell 313 = .ok (.iload 11, 2) := by decide +kernel
theorem dL_isWell_315 : decode cL_isWell 315 = .ok (.iload 14, 2) := by decide +kernel
theorem dL_isWell_317 : decode cL_isWell 317 = .ok (.iadd, 1) := by decide +kernel
theorem dL_isWell_318 : decode cL_isWell 318 = .ok (.invokevirtual 24, 3) := by decide +kernel
theorem dL_isWell_321 : decode cL_isWell 321 = .ok (.if_icmp .ne 31, 3) := by decide +kernel
theorem dL_isWell_324 : decode cL_isWell 324 = .ok (.iload 15, 2) := by decide +kernel
theorem dL_isWell_326 : decode cL_isWell 326 = .ok (.aload_n 0, 1) := by decide +kernel
theorem dL_isWell_327 : decode cL_isWell 327 = .ok (.iload 7, 2) := by decide +kernel
theorem dL_isWell_329 : decode cL_isWell 329 = .ok (.iconst 4, 1) := by decide +kernel
theorem dL_isWell_330 : decode cL_isWell 330 = .ok (.invokevirtual 46, 3) := by decide +kernel
theorem dL_isWell_333 : decode cL_isWell 333 = .ok (.if_icmp .lt 19, 3) := by decide +kernel
theorem dL_isWell_336 : decode cL_isWell 336 = .ok (.iload 15, 2) := by decide +kernel
theorem dL_isWell_338 : decode cL_isWell 338 = .ok (.aload_n 0, 1) := by decide +kernel
theorem dL_isWell_339 : decode cL_isWell 339 = .ok (.iload 7, 2) := by decide +kernel
theorem dL_isWell_341 : decode cL_isWell 341 = .ok (.iconst 5, 1) := by decide +kernel
theorem dL_isWell_342 : decode cL_isWell 342 = .ok (.invokevirtual 46, 3) := by decide +kernel
theorem dL_isWell_345 : decode cL_isWell 345 = .ok (.if_icmp .gt 7, 3) := by decide +kernel
theorem dL_isWell_348 : decode cL_isWell 348 = .ok (.iconst 1, 1) := by decide +kernel
theorem dL_isWell_349 : decode cL_isWell 349 = .ok (.goto 4, 3) := by decide +kernel
theorem dL_isWell_352 : decode cL_isWell 352 = .ok (.iconst 0, 1) := by decide +kernel
theorem dL_isWell_353 : decode cL_isWell 353 = .ok (.istore 6, 2) := by decide +kernel
theorem dL_isWell_355 : decode cL_isWell 355 = .ok (.iload 12, 2) := by decide +kernel
theorem dL_isWell_357 : decode cL_isWell 357 = .ok (.iload 15, 2) := by decide +kernel
theorem dL_isWell_359 : decode cL_isWell 359 = .ok (.sipush 1000, 3) := by decide +kernel
theorem dL_isWell_362 : decode cL_isWell 362 = .ok (.isub, 1) := by decide +kernel
theorem dL_isWell_363 : decode cL_isWell 363 = .ok (.iadd, 1) := by decide +kernel
theorem dL_isWell_364 : decode cL_isWell 364 = .ok (.istore 12, 2) := by decide +kernel
theorem dL_isWell_366 : decode cL_isWell 366 = .ok (.iload 13, 2) := by decide +kernel
theorem dL_isWell_368 : decode cL_isWell 368 = .ok (.iload 14, 2) := by decide +kernel
theorem dL_isWell_370 : decode cL_isWell 370 = .ok (.ifCond .le 22, 3) := by decide +kernel
theorem dL_isWell_373 : decode cL_isWell 373 = .ok (.iload 15, 2) := by decide +kernel
theorem dL_isWell_375 : decode cL_isWell 375 = .ok (.aload_n 0, 1) := by decide +kernel
theorem dL_isWell_376 : decode cL_isWell 376 = .ok (.iload 7, 2) := by decide +kernel
theorem dL_isWell_378 : decode cL_isWell 378 = .ok (.iload 14, 2) := by decide +kernel
theorem dL_isWell_380 : decode cL_isWell 380 = .ok (.iconst 1, 1) := by decide +kernel
theorem dL_isWell_381 : decode cL_isWell 381 = .ok (.isub, 1) := by decide +kernel
theorem dL_isWell_382 : decode cL_isWell 382 = .ok (.invokevirtual 55, 3) := by decide +kernel
theorem dL_isWell_385 : decode cL_isWell 385 = .ok (.if_icmp .le 7, 3) := by decide +kernel
theorem dL_isWell_388 : decode cL_isWell 388 = .ok (.iconst 1, 1) := by decide +kernel
theorem dL_isWell_389 : decode cL_isWell 389 = .ok (.goto 4, 3) := by decide +kernel
theorem dL_isWell_392 : decode cL_isWell 392 = .ok (.iconst 0, 1) := by decide +kernel
theorem dL_isWell_393 : decode cL_isWell 393 = .ok (.iadd, 1) := by decide +kernel
theorem dL_isWell_394 : decode cL_isWell 394 = .ok (.istore 13, 2) := by decide +kernel
theorem dL_isWell_396 : decode cL_isWell 396 = .ok (.iinc 14 1, 3) := by decide +kernel
theorem dL_isWell_399 : decode cL_isWell 399 = .ok (.goto (-111), 3) := by decide +kernel
theorem dL_isWell_402 : decode cL_isWell 402 = .ok (.iload 6, 2) := by decide +kernel
theorem dL_isWell_404 : decode cL_isWell 404 = .ok (.ifCond .eq 49, 3) := by decide +kernel
theorem dL_isWell_407 : decode cL_isWell 407 = .ok (.iload 12, 2) := by decide +kernel
theorem dL_isWell_409 : decode cL_isWell 409 = .ok (.aload_n 0, 1) := by decide +kernel
theorem dL_isWell_410 : decode cL_isWell 410 = .ok (.iload 7, 2) := by decide +kernel
theorem dL_isWell_412 : decode cL_isWell 412 = .ok (.bipush 6, 2) := by decide +kernel
theorem dL_isWell_414 : decode cL_isWell 414 = .ok (.invokevirtual 46, 3) := by decide +kernel
theorem dL_isWell_417 : decode cL_isWell 417 = .ok (.sipush 10000, 3) := by decide +kernel
theorem dL_isWell_420 : decode cL_isWell 420 = .ok (.isub, 1) := by decide +kernel
theorem dL_isWell_421 : decode cL_isWell 421 = .ok (.if_icmp .ne 32, 3) := by decide +kernel
theorem dL_isWell_424 : decode cL_isWell 424 = .ok (.iload 13, 2) := by decide +kernel
theorem dL_isWell_426 : decode cL_isWell 426 = .ok (.aload_n 0, 1) := by decide +kernel
theorem dL_isWell_427 : decode cL_isWell 427 = .ok (.iload 7, 2) := by decide +kernel
theorem dL_isWell_429 : decode cL_isWell 429 = .ok (.bipush 7, 2) := by decide +kernel
theorem dL_isWell_431 : decode cL_isWell 431 = .ok (.invokevirtual 46, 3) := by decide +kernel
theorem dL_isWell_434 : decode cL_isWell 434 = .ok (.if_icmp .ne 19, 3) := by decide +kernel
theorem dL_isWell_437 : decode cL_isWell 437 = .ok (.aload_n 0, 1) := by decide +kernel
theorem dL_isWell_438 : decode cL_isWell 438 = .ok (.iload 7, 2) := by decide +kernel
theorem dL_isWell_440 : decode cL_isWell 440 = .ok (.iload 9, 2) := by decide +kernel
theorem dL_isWell_442 : decode cL_isWell 442 = .ok (.invokevirtual 55, 3) := by decide +kernel
theorem dL_isWell_445 : decode cL_isWell 445 = .ok (.iconst (-1), 1) := by decide +kernel
theorem dL_isWell_446 : decode cL_isWell 446 = .ok (.if_icmp .ne 7, 3) := by decide +kernel
theorem dL_isWell_449 : decode cL_isWell 449 = .ok (.iconst 1, 1) := by decide +kernel
theorem dL_isWell_450 : decode cL_isWell 450 = .ok (.goto 4, 3) := by decide +kernel
theorem dL_isWell_453 : decode cL_isWell 453 = .ok (.iconst 0, 1) := by decide +kernel
theorem dL_isWell_454 : decode cL_isWell 454 = .ok (.istore 6, 2) := by decide +kernel
theorem dL_isWell_456 : decode cL_isWell 456 = .ok (.iload 6, 2) := by decide +kernel
theorem dL_isWell_458 : decode cL_isWell 458 = .ok (.ifCond .eq 59, 3) := by decide +kernel
theorem dL_isWell_461 : decode cL_isWell 461 = .ok (.iload 8, 2) := by decide +kernel
theorem dL_isWell_463 : decode cL_isWell 463 = .ok (.ifCond .le 54, 3) := by decide +kernel
theorem dL_isWell_466 : decode cL_isWell 466 = .ok (.aload_n 0, 1) := by decide +kernel
theorem dL_isWell_467 : decode cL_isWell 467 = .ok (.iload 7, 2) := by decide +kernel
theorem dL_isWell_469 : decode cL_isWell 469 = .ok (.iconst 3, 1) := by decide +kernel
theorem dL_isWell_470 : decode cL_isWell 470 = .ok (.invokevirtual 46, 3) := by decide +kernel
theorem dL_isWell_473 : decode cL_isWell 473 = .ok (.ifCond .ne 23, 3) := by decide +kernel
theorem dL_isWell_476 : decode cL_isWell 476 = .ok (.aload_n 0, 1) := by decide +kernel
theorem dL_isWell_477 : decode cL_isWell 477 = .ok (.iload 8, 2) := by decide +kernel
theorem dL_isWell_479 : decode cL_isWell 479 = .ok (.invokevirtual 24, 3) := by decide +kernel
theorem dL_isWell_482 : decode cL_isWell 482 = .ok (.aload_n 0, 1) := by decide +kernel
theorem dL_isWell_483 : decode cL_isWell 483 = .ok (.iload 8, 2) := by decide +kernel
theorem dL_isWell_485 : decode cL_isWell 485 = .ok (.iconst 1, 1) := by decide +kernel
theorem dL_isWell_486 : decode cL_isWell 486 = .ok (.isub, 1) := by decide +kernel
theorem dL_isWell_487 : decode cL_isWell 487 = .ok (.invokevirtual 24, 3) := by decide +kernel
theorem dL_isWell_490 : decode cL_isWell 490 = .ok (.if_icmp .le 27, 3) := by decide +kernel
theorem dL_isWell_493 : decode cL_isWell 493 = .ok (.goto 20, 3) := by decide +kernel
theorem dL_isWell_496 : decode cL_isWell 496 = .ok (.aload_n 0, 1) := by decide +kernel
theorem dL_isWell_497 : decode cL_isWell 497 = .ok (.iload 8, 2) := by decide +kernel
theorem dL_isWell_499 : decode cL_isWell 499 = .ok (.invokevirtual 24, 3) := by decide +kernel
theorem dL_isWell_502 : decode cL_isWell 502 = .ok (.aload_n 0, 1) := by decide +kernel
theorem dL_isWell_503 : decode cL_isWell 503 = .ok (.iload 8, 2) := by decide +kernel
theorem dL_isWell_505 : decode cL_isWell 505 = .ok (.iconst 1, 1) := by decide +kernel
theorem dL_isWell_506 : decode cL_isWell 506 = .ok (.isub, 1) := by decide +kernel
theorem dL_isWell_507 : decode cL_isWell 507 = .ok (.invokevirtual 24, 3) := by decide +kernel
theorem dL_isWell_510 : decode cL_isWell 510 = .ok (.if_icmp .ge 7, 3) := by decide +kernel
theorem dL_isWell_513 : decode cL_isWell 513 = .ok (.iconst 1, 1) := by decide +kernel
theorem dL_isWell_514 : decode cL_isWell 514 = .ok (.goto 4, 3) := by decide +kernel
theorem dL_isWell_517 : decode cL_isWell 517 = .ok (.iconst 0, 1) := by decide +kernel
theorem dL_isWell_518 : decode cL_isWell 518 = .ok (.istore 6, 2) := by decide +kernel
theorem dL_isWell_520 : decode cL_isWell 520 = .ok (.iload 11, 2) := by decide +kernel
theorem dL_isWell_522 : decode cL_isWell 522 = .ok (.iload 9, 2) := by decide +kernel
theorem dL_isWell_524 : decode cL_isWell 524 = .ok (.iadd, 1) := by decide +kernel
theorem dL_isWell_525 : decode cL_isWell 525 = .ok (.iconst 1, 1) := by decide +kernel
theorem dL_isWell_526 : decode cL_isWell 526 = .ok (.isub, 1) := by decide +kernel
theorem dL_isWell_527 : decode cL_isWell 527 = .ok (.istore 5, 2) := by decide +kernel
theorem dL_isWell_529 : decode cL_isWell 529 = .ok (.iinc 7 1, 3) := by decide +kernel
theorem dL_isWell_532 : decode cL_isWell 532 = .ok (.goto (-328), 3) := by decide +kernel
theorem dL_isWell_535 : decode cL_isWell 535 = .ok (.iload 6, 2) := by decide +kernel
theorem dL_isWell_537 : decode cL_isWell 537 = .ok (.ifCond .eq 36, 3) := by decide +kernel
theorem dL_isWell_540 : decode cL_isWell 540 = .ok (.iload_n 1, 1) := by decide +kernel
theorem dL_isWell_541 : decode cL_isWell 541 = .ok (.ifCond .eq 18, 3) := by decide +kernel
theorem dL_isWell_544 : decode cL_isWell 544 = .ok (.iload_n 2, 1) := by decide +kernel
theorem dL_isWell_545 : decode cL_isWell 545 = .ok (.iload 5, 2) := by decide +kernel
theorem dL_isWell_547 : decode cL_isWell 547 = .ok (.isub, 1) := by decide +kernel
theorem dL_isWell_548 : decode cL_isWell 548 = .ok (.iconst 1, 1) := by decide +kernel
theorem dL_isWell_549 : decode cL_isWell 549 = .ok (.isub, 1) := by decide +kernel
theorem dL_isWell_550 : decode cL_isWell 550 = .ok (.aload_n 0, 1) := by decide +kernel
theorem dL_isWell_551 : decode cL_isWell 551 = .ok (.bipush 8, 2) := by decide +kernel
theorem dL_isWell_553 : decode cL_isWell 553 = .ok (.invokevirtual 9, 3) := by decide +kernel
theorem dL_isWell_556 : decode cL_isWell 556 = .ok (.if_icmp .lt 17, 3) := by decide +kernel
theorem dL_isWell_559 : decode cL_isWell 559 = .ok (.aload_n 0, 1) := by decide +kernel
theorem dL_isWell_560 : decode cL_isWell 560 = .ok (.iload_n 1, 1) := by decide +kernel
theorem dL_isWell_561 : decode cL_isWell 561 = .ok (.iconst 0, 1) := by decide +kernel
theorem dL_isWell_562 : decode cL_isWell 562 = .ok (.invokevirtual 46, 3) := by decide +kernel
theorem dL_isWell_565 : decode cL_isWell 565 = .ok (.iconst (-1), 1) := by decide +kernel
theorem dL_isWell_566 : decode cL_isWell 566 = .ok (.if_icmp .ne 7, 3) := by decide +kernel
theorem dL_isWell_569 : decode cL_isWell 569 = .ok (.iconst 1, 1) := by decide +kernel
theorem dL_isWell_570 : decode cL_isWell 570 = .ok (.goto 4, 3) := by decide +kernel
theorem dL_isWell_573 : decode cL_isWell 573 = .ok (.iconst 0, 1) := by decide +kernel
theorem dL_isWell_574 : decode cL_isWell 574 = .ok (.ireturn, 1) := by decide +kernel
theorem dL_law_0 : decode cL_law 0 = .ok (.new 10, 3) := by decide +kernel
theorem dL_law_3 : decode cL_law 3 = .ok (.dup, 1) := by decide +kernel
theorem dL_law_4 : decode cL_law 4 = .ok (.invokespecial 58, 3) := by decide +kernel
theorem dL_law_7 : decode cL_law 7 = .ok (.astore_n 1, 1) := by decide +kernel
theorem dL_law_8 : decode cL_law 8 = .ok (.new 10, 3) := by decide +kernel
theorem dL_law_11 : decode cL_law 11 = .ok (.dup, 1) := by decide +kernel
theorem dL_law_12 : decode cL_law 12 = .ok (.invokespecial 58, 3) := by decide +kernel
theorem dL_law_15 : decode cL_law 15 = .ok (.astore_n 2, 1) := by decide +kernel
theorem dL_law_16 : decode cL_law 16 = .ok (.aload_n 2, 1) := by decide +kernel
theorem dL_law_17 : decode cL_law 17 = .ok (.iconst 0, 1) := by decide +kernel
theorem dL_law_18 : decode cL_law 18 = .ok (.iconst 1, 1) := by decide +kernel
theorem dL_law_19 : decode cL_law 19 = .ok (.invokevirtual 37, 3) := by decide +kernel
theorem dL_law_22 : decode cL_law 22 = .ok (.sipush 1000, 3) := by decide +kernel
theorem dL_law_25 : decode cL_law 25 = .ok (.if_icmp .ne 20, 3) := by decide +kernel
theorem dL_law_28 : decode cL_law 28 = .ok (.aload_n 1, 1) := by decide +kernel
theorem dL_law_29 : decode cL_law 29 = .ok (.bipush 9, 2) := by decide +kernel
theorem dL_law_31 : decode cL_law 31 = .ok (.iconst 0, 1) := by decide +kernel
theorem dL_law_32 : decode cL_law 32 = .ok (.invokevirtual 37, 3) := by decide +kernel
theorem dL_law_35 : decode cL_law 35 = .ok (.sipush 1000, 3) := by decide +kernel
theorem dL_law_38 : decode cL_law 38 = .ok (.if_icmp .ne 7, 3) := by decide +kernel
theorem dL_law_41 : decode cL_law 41 = .ok (.iconst 1, 1) := by decide +kernel
theorem dL_law_42 : decode cL_law 42 = .ok (.goto 4, 3) := by decide +kernel
theorem dL_law_45 : decode cL_law 45 = .ok (.iconst 0, 1) := by decide +kernel
theorem dL_law_46 : decode cL_law 46 = .ok (.istore_n 3, 1) := by decide +kernel
theorem dL_law_47 : decode cL_law 47 = .ok (.iconst 0, 1) := by decide +kernel
theorem dL_law_48 : decode cL_law 48 = .ok (.istore 4, 2) := by decide +kernel
theorem dL_law_50 : decode cL_law 50 = .ok (.iload 4, 2) := by decide +kernel
theorem dL_law_52 : decode cL_law 52 = .ok (.bipush 60, 2) := by decide +kernel
theorem dL_law_54 : decode cL_law 54 = .ok (.if_icmp .ge 47, 3) := by decide +kernel
theorem dL_law_57 : decode cL_law 57 = .ok (.iload_n 3, 1) := by decide +kernel
theorem dL_law_58 : decode cL_law 58 = .ok (.ifCond .eq 43, 3) := by decide +kernel
theorem dL_law_61 : decode cL_law 61 = .ok (.aload_n 1, 1) := by decide +kernel
theorem dL_law_62 : decode cL_law 62 = .ok (.aload_n 2, 1) := by decide +kernel
theorem dL_law_63 : decode cL_law 63 = .ok (.aload_n 0, 1) := by decide +kernel
theorem dL_law_64 : decode cL_law 64 = .ok (.iload 4, 2) := by decide +kernel
theorem dL_law_66 : decode cL_law 66 = .ok (.invokestatic 59, 3) := by decide +kernel
theorem dL_law_69 : decode cL_law 69 = .ok (.invokestatic 63, 3) := by decide +kernel
theorem dL_law_72 : decode cL_law 72 = .ok (.ifCond .eq 21, 3) := by decide +kernel
theorem dL_law_75 : decode cL_law 75 = .ok (.iload 4, 2) := by decide +kernel
theorem dL_law_77 : decode cL_law 77 = .ok (.iconst 4, 1) := by decide +kernel
theorem dL_law_78 : decode cL_law 78 = .ok (.irem, 1) := by decide +kernel
theorem dL_law_79 : decode cL_law 79 = .ok (.ifCond .gt 10, 3) := by decide +kernel
theorem dL_law_82 : decode cL_law 82 = .ok (.aload_n 1, 1) := by decide +kernel
theorem dL_law_83 : decode cL_law 83 = .ok (.invokestatic 67, 3) := by decide +kernel
theorem dL_law_86 : decode cL_law 86 = .ok (.ifCond .eq 7, 3) := by decide +kernel
theorem dL_law_89 : decode cL_law 89 = .ok (.iconst 1, 1) := by decide +kernel
theorem dL_law_90 : decode cL_law 90 = .ok (.goto 4, 3) := by decide +kernel
theorem dL_law_93 : decode cL_law 93 = .ok (.iconst 0, 1) := by decide +kernel
theorem dL_law_94 : decode cL_law 94 = .ok (.istore_n 3, 1) := by decide +kernel
theorem dL_law_95 : decode cL_law 95 = .ok (.iinc 4 1, 3) := by decide +kernel
theorem dL_law_98 : decode cL_law 98 = .ok (.goto (-48), 3) := by decide +kernel
theorem dL_law_101 : decode cL_law 101 = .ok (.iload_n 3, 1) := by decide +kernel
theorem dL_law_102 : decode cL_law 102 = .ok (.ifCond .eq 36, 3) := by decide +kernel
theorem dL_law_105 : decode cL_law 105 = .ok (.aload_n 1, 1) := by decide +kernel
theorem dL_law_106 : decode cL_law 106 = .ok (.invokestatic 67, 3) := by decide +kernel
theorem dL_law_109 : decode cL_law 109 = .ok (.ifCond .eq 29, 3) := by decide +kernel
theorem dL_law_112 : decode cL_law 112 = .ok (.aload_n 1, 1) := by decide +kernel
theorem dL_law_113 : decode cL_law 113 = .ok (.aload_n 2, 1) := by decide +kernel
theorem dL_law_114 : decode cL_law 114 = .ok (.aload_n 0, 1) := by decide +kernel
theorem dL_law_115 : decode cL_law 115 = .ok (.bipush 60, 2) := by decide +kernel
theorem dL_law_117 : decode cL_law 117 = .ok (.invokestatic 59, 3) := by decide +kernel
theorem dL_law_120 : decode cL_law 120 = .ok (.bipush 61, 2) := by decide +kernel
theorem dL_law_122 : decode cL_law 122 = .ok (.invokestatic 15, 3) := by decide +kernel
theorem dL_law_125 : decode cL_law 125 = .ok (.bipush 30, 2) := by decide +kernel
theorem dL_law_127 : decode cL_law 127 = .ok (.isub, 1) := by decide +kernel
theorem dL_law_128 : decode cL_law 128 = .ok (.invokestatic 71, 3) := by decide +kernel
theorem dL_law_131 : decode cL_law 131 = .ok (.ifCond .eq 7, 3) := by decide +kernel
theorem dL_law_134 : decode cL_law 134 = .ok (.iconst 1, 1) := by decide +kernel
theorem dL_law_135 : decode cL_law 135 = .ok (.goto 4, 3) := by decide +kernel
theorem dL_law_138 : decode cL_law 138 = .ok (.iconst 0, 1) := by decide +kernel
theorem dL_law_139 : decode cL_law 139 = .ok (.ireturn, 1) := by decide +kernel
