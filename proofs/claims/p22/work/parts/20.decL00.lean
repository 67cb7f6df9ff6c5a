theorem dL_cell_0 : decode cL_cell 0 = .ok (.iload_n 1, 1) := by decide +kernel
theorem dL_cell_1 : decode cL_cell 1 = .ok (.aload_n 0, 1) := by decide +kernel
theorem dL_cell_2 : decode cL_cell 2 = .ok (.arraylength, 1) := by decide +kernel
theorem dL_cell_3 : decode cL_cell 3 = .ok (.if_icmp .ge 9, 3) := by decide +kernel
theorem dL_cell_6 : decode cL_cell 6 = .ok (.aload_n 0, 1) := by decide +kernel
theorem dL_cell_7 : decode cL_cell 7 = .ok (.iload_n 1, 1) := by decide +kernel
theorem dL_cell_8 : decode cL_cell 8 = .ok (.iaload, 1) := by decide +kernel
theorem dL_cell_9 : decode cL_cell 9 = .ok (.goto 11, 3) := by decide +kernel
theorem dL_cell_12 : decode cL_cell 12 = .ok (.ldc 7, 2) := by decide +kernel
theorem dL_cell_14 : decode cL_cell 14 = .ok (.iload_n 1, 1) := by decide +kernel
theorem dL_cell_15 : decode cL_cell 15 = .ok (.sipush 971, 3) := by decide +kernel
theorem dL_cell_18 : decode cL_cell 18 = .ok (.iadd, 1) := by decide +kernel
theorem dL_cell_19 : decode cL_cell 19 = .ok (.imul, 1) := by decide +kernel
theorem dL_cell_20 : decode cL_cell 20 = .ok (.ireturn, 1) := by decide +kernel
theorem dL_up_0 : decode cL_up 0 = .ok (.iload_n 0, 1) := by decide +kernel
theorem dL_up_1 : decode cL_up 1 = .ok (.ldc 8, 2) := by decide +kernel
theorem dL_up_3 : decode cL_up 3 = .ok (.iand, 1) := by decide +kernel
theorem dL_up_4 : decode cL_up 4 = .ok (.iload_n 1, 1) := by decide +kernel
theorem dL_up_5 : decode cL_up 5 = .ok (.irem, 1) := by decide +kernel
theorem dL_up_6 : decode cL_up 6 = .ok (.ireturn, 1) := by decide +kernel
theorem dL_isStep_0 : decode cL_isStep 0 = .ok (.iload_n 2, 1) := by decide +kernel
theorem dL_isStep_1 : decode cL_isStep 1 = .ok (.iconst 4, 1) := by decide +kernel
theorem dL_isStep_2 : decode cL_isStep 2 = .ok (.ishr, 1) := by decide +kernel
theorem dL_isStep_3 : decode cL_isStep 3 = .ok (.istore_n 3, 1) := by decide +kernel
theorem dL_isStep_4 : decode cL_isStep 4 = .ok (.aload_n 0, 1) := by decide +kernel
theorem dL_isStep_5 : decode cL_isStep 5 = .ok (.iconst 1, 1) := by decide +kernel
theorem dL_isStep_6 : decode cL_isStep 6 = .ok (.invokevirtual 9, 3) := by decide +kernel
theorem dL_isStep_9 : decode cL_isStep 9 = .ok (.istore 4, 2) := by decide +kernel
theorem dL_isStep_11 : decode cL_isStep 11 = .ok (.aload_n 0, 1) := by decide +kernel
theorem dL_isStep_12 : decode cL_isStep 12 = .ok (.iconst 0, 1) := by decide +kernel
theorem dL_isStep_13 : decode cL_isStep 13 = .ok (.invokevirtual 9, 3) := by decide +kernel
theorem dL_isStep_16 : decode cL_isStep 16 = .ok (.istore 5, 2) := by decide +kernel
theorem dL_isStep_18 : decode cL_isStep 18 = .ok (.aload_n 0, 1) := by decide +kernel
theorem dL_isStep_19 : decode cL_isStep 19 = .ok (.bipush 7, 2) := by decide +kernel
theorem dL_isStep_21 : decode cL_isStep 21 = .ok (.invokevirtual 9, 3) := by decide +kernel
theorem dL_isStep_24 : decode cL_isStep 24 = .ok (.istore 6, 2) := by decide +kernel
theorem dL_isStep_26 : decode cL_isStep 26 = .ok (.iload_n 2, 1) := by decide +kernel
theorem dL_isStep_27 : decode cL_isStep 27 = .ok (.bipush 18, 2) := by decide +kernel
theorem dL_isStep_29 : decode cL_isStep 29 = .ok (.invokestatic 15, 3) := by decide +kernel
theorem dL_isStep_32 : decode cL_isStep 32 = .ok (.istore 7, 2) := by decide +kernel
theorem dL_isStep_34 : decode cL_isStep 34 = .ok (.iload 7, 2) := by decide +kernel
theorem dL_isStep_36 : decode cL_isStep 36 = .ok (.bipush 11, 2) := by decide +kernel
theorem dL_isStep_38 : decode cL_isStep 38 = .ok (.if_icmp .ge 170, 3) := by decide +kernel
theorem dL_isStep_41 : decode cL_isStep 41 = .ok (.iload_n 3, 1) := by decide +kernel
theorem dL_isStep_42 : decode cL_isStep 42 = .ok (.iconst 3, 1) := by decide +kernel
theorem dL_isStep_43 : decode cL_isStep 43 = .ok (.invokestatic 15, 3) := by decide +kernel
theorem dL_isStep_46 : decode cL_isStep 46 = .ok (.ifCond .ne 18, 3) := by decide +kernel
theorem dL_isStep_49 : decode cL_isStep 49 = .ok (.iload_n 3, 1) := by decide +kernel
theorem dL_isStep_50 : decode cL_isStep 50 = .ok (.iconst 2, 1) := by decide +kernel
theorem dL_isStep_51 : decode cL_isStep 51 = .ok (.ishr, 1) := by decide +kernel
theorem dL_isStep_52 : decode cL_isStep 52 = .ok (.sipush 201, 3) := by decide +kernel
theorem dL_isStep_55 : decode cL_isStep 55 = .ok (.invokestatic 15, 3) := by decide +kernel
theorem dL_isStep_58 : decode cL_isStep 58 = .ok (.bipush 100, 2) := by decide +kernel
theorem dL_isStep_60 : decode cL_isStep 60 = .ok (.isub, 1) := by decide +kernel
theorem dL_isStep_61 : decode cL_isStep 61 = .ok (.goto 14, 3) := by decide +kernel
theorem dL_isStep_64 : decode cL_isStep 64 = .ok (.iload_n 3, 1) := by decide +kernel
theorem dL_isStep_65 : decode cL_isStep 65 = .ok (.iconst 2, 1) := by decide +kernel
theorem dL_isStep_66 : decode cL_isStep 66 = .ok (.ishr, 1) := by decide +kernel
theorem dL_isStep_67 : decode cL_isStep 67 = .ok (.bipush 61, 2) := by decide +kernel
theorem dL_isStep_69 : decode cL_isStep 69 = .ok (.invokestatic 15, 3) := by decide +kernel
theorem dL_isStep_72 : decode cL_isStep 72 = .ok (.bipush 30, 2) := by decide +kernel
theorem dL_isStep_74 : decode cL_isStep 74 = .ok (.isub, 1) := by decide +kernel
theorem dL_isStep_75 : decode cL_isStep 75 = .ok (.istore 8, 2) := by decide +kernel
theorem dL_isStep_77 : decode cL_isStep 77 = .ok (.iconst 1, 1) := by decide +kernel
theorem dL_isStep_78 : decode cL_isStep 78 = .ok (.iload_n 3, 1) := by decide +kernel
theorem dL_isStep_79 : decode cL_isStep 79 = .ok (.bipush 9, 2) := by decide +kernel
theorem dL_isStep_81 : decode cL_isStep 81 = .ok (.ishr, 1) := by decide +kernel
theorem dL_isStep_82 : decode cL_isStep 82 = .ok (.iload_n 3, 1) := by decide +kernel
theorem dL_isStep_83 : decode cL_isStep 83 = .ok (.bipush 8, 2) := by decide +kernel
theorem dL_isStep_85 : decode cL_isStep 85 = .ok (.ishr, 1) := by decide +kernel
theorem dL_isStep_86 : decode cL_isStep 86 = .ok (.iconst 2, 1) := by decide +kernel
theorem dL_isStep_87 : decode cL_isStep 87 = .ok (.invokestatic 15, 3) := by decide +kernel
theorem dL_isStep_90 : decode cL_isStep 90 = .ok (.ifCond .ne 7, 3) := by decide +kernel
theorem dL_isStep_93 : decode cL_isStep 93 = .ok (.iconst 1, 1) := by decide +kernel
theorem dL_isStep_94 : decode cL_isStep 94 = .ok (.goto 5, 3) := by decide +kernel
theorem dL_isStep_97 : decode cL_isStep 97 = .ok (.bipush 6, 2) := by decide +kernel
theorem dL_isStep_99 : decode cL_isStep 99 = .ok (.invokestatic 15, 3) := by decide +kernel
theorem dL_isStep_102 : decode cL_isStep 102 = .ok (.iadd, 1) := by decide +kernel
theorem dL_isStep_103 : decode cL_isStep 103 = .ok (.istore 9, 2) := by decide +kernel
theorem dL_isStep_105 : decode cL_isStep 105 = .ok (.aload_n 0, 1) := by decide +kernel
theorem dL_isStep_106 : decode cL_isStep 106 = .ok (.iload 8, 2) := by decide +kernel
theorem dL_isStep_108 : decode cL_isStep 108 = .ok (.iload 9, 2) := by decide +kernel
theorem dL_isStep_110 : decode cL_isStep 110 = .ok (.invokevirtual 21, 3) := by decide +kernel
theorem dL_isStep_113 : decode cL_isStep 113 = .ok (.istore 10, 2) := by decide +kernel
theorem dL_isStep_115 : decode cL_isStep 115 = .ok (.iload 10, 2) := by decide +kernel
theorem dL_isStep_117 : decode cL_isStep 117 = .ok (.aload_n 1, 1) := by decide +kernel
theorem dL_isStep_118 : decode cL_isStep 118 = .ok (.iload 8, 2) := by decide +kernel
theorem dL_isStep_120 : decode cL_isStep 120 = .ok (.ineg, 1) := by decide +kernel
theorem dL_isStep_121 : decode cL_isStep 121 = .ok (.iload 9, 2) := by decide +kernel
theorem dL_isStep_123 : decode cL_isStep 123 = .ok (.invokevirtual 21, 3) := by decide +kernel
theorem dL_isStep_126 : decode cL_isStep 126 = .ok (.if_icmp .ne 80, 3) := by decide +kernel
theorem dL_isStep_129 : decode cL_isStep 129 = .ok (.iload 5, 2) := by decide +kernel
theorem dL_isStep_131 : decode cL_isStep 131 = .ok (.iload 9, 2) := by decide +kernel
theorem dL_isStep_133 : decode cL_isStep 133 = .ok (.iadd, 1) := by decide +kernel
theorem dL_isStep_134 : decode cL_isStep 134 = .ok (.sipush 400, 3) := by decide +kernel
theorem dL_isStep_137 : decode cL_isStep 137 = .ok (.if_icmp .le 13, 3) := by decide +kernel
theorem dL_isStep_140 : decode cL_isStep 140 = .ok (.iload 10, 2) := by decide +kernel
theorem dL_isStep_142 : decode cL_isStep 142 = .ok (.bipush (-4), 2) := by decide +kernel
theorem dL_isStep_144 : decode cL_isStep 144 = .ok (.if_icmp .ne 62, 3) := by decide +kernel
theorem dL_isStep_147 : decode cL_isStep 147 = .ok (.goto 55, 3) := by decide +kernel
theorem dL_isStep_150 : decode cL_isStep 150 = .ok (.iload 10, 2) := by decide +kernel
theorem dL_isStep_152 : decode cL_isStep 152 = .ok (.ifCond .lt 54, 3) := by decide +kernel
theorem dL_isStep_155 : decode cL_isStep 155 = .ok (.aload_n 0, 1) := by decide +kernel
theorem dL_isStep_156 : decode cL_isStep 156 = .ok (.iconst 0, 1) := by decide +kernel
theorem dL_isStep_157 : decode cL_isStep 157 = .ok (.invokevirtual 9, 3) := by decide +kernel
theorem dL_isStep_160 : decode cL_isStep 160 = .ok (.iload 5, 2) := by decide +kernel
theorem dL_isStep_162 : decode cL_isStep 162 = .ok (.iload 9, 2) := by decide +kernel
theorem dL_isStep_164 : decode cL_isStep 164 = .ok (.iadd, 1) := by decide +kernel
theorem dL_isStep_165 : decode cL_isStep 165 = .ok (.if_icmp .ne 41, 3) := by decide +kernel
theorem dL_isStep_168 : decode cL_isStep 168 = .ok (.aload_n 0, 1) := by decide +kernel
theorem dL_isStep_169 : decode cL_isStep 169 = .ok (.bipush 7, 2) := by decide +kernel
theorem dL_isStep_171 : decode cL_isStep 171 = .ok (.invokevirtual 9, 3) := by decide +kernel
theorem dL_isStep_174 : decode cL_isStep 174 = .ok (.iload 6, 2) := by decide +kernel
theorem dL_isStep_176 : decode cL_isStep 176 = .ok (.iload 10, 2) := by decide +kernel
theorem dL_isStep_178 : decode cL_isStep 178 = .ok (.iadd, 1) := by decide +kernel
theorem dL_isStep_179 : decode cL_isStep 179 = .ok (.if_icmp .ne 27, 3) := by decide +kernel
theorem dL_isStep_182 : decode cL_isStep 182 = .ok (.aload_n 0, 1) := by decide +kernel
theorem dL_isStep_183 : decode cL_isStep 183 = .ok (.iload 5, 2) := by decide +kernel
theorem dL_isStep_185 : decode cL_isStep 185 = .ok (.iload 9, 2) := by decide +kernel
theorem dL_isStep_187 : decode cL_isStep 187 = .ok (.iadd, 1) := by decide +kernel
theorem dL_isStep_188 : decode cL_isStep 188 = .ok (.iconst 1, 1) := by decide +kernel
theorem dL_isStep_189 : decode cL_isStep 189 = .ok (.isub, 1) := by decide +kernel
theorem dL_isStep_190 : decode cL_isStep 190 = .ok (.invokevirtual 24, 3) := by decide +kernel
theorem dL_isStep_193 : decode cL_isStep 193 = .ok (.iload 8, 2) := by decide +kernel
theorem dL_isStep_195 : decode cL_isStep 195 = .ok (.sipush 1000, 3) := by decide +kernel
theorem dL_isStep_198 : decode cL_isStep 198 = .ok (.iadd, 1) := by decide +kernel
theorem dL_isStep_199 : decode cL_isStep 199 = .ok (.if_icmp .ne 7, 3) := by decide +kernel
theorem dL_isStep_202 : decode cL_isStep 202 = .ok (.iconst 1, 1) := by decide +kernel
theorem dL_isStep_203 : decode cL_isStep 203 = .ok (.goto 4, 3) := by decide +kernel
theorem dL_isStep_206 : decode cL_isStep 206 = .ok (.iconst 0, 1) := by decide +kernel
theorem dL_isStep_207 : decode cL_isStep 207 = .ok (.ireturn, 1) := by decide +kernel
theorem dL_isStep_208 : decode cL_isStep 208 = .ok (.iload 7, 2) := by decide +kernel
theorem dL_isStep_210 : decode cL_isStep 210 = .ok (.bipush 12, 2) := by decide +kernel
theorem dL_isStep_212 : decode cL_isStep 212 = .ok (.if_icmp .ge 58, 3) := by decide +kernel
theorem dL_isStep_215 : decode cL_isStep 215 = .ok (.iload_n 3, 1) := by decide +kernel
theorem dL_isStep_216 : decode cL_isStep 216 = .ok (.iload 4, 2) := by decide +kernel
theorem dL_isStep_218 : decode cL_isStep 218 = .ok (.iconst 1, 1) := by decide +kernel
theorem dL_isStep_219 : decode cL_isStep 219 = .ok (.iadd, 1) := by decide +kernel
theorem dL_isStep_220 : decode cL_isStep 220 = .ok (.invokestatic 15, 3) := by decide +kernel
theorem dL_isStep_223 : decode cL_isStep 223 = .ok (.istore 8, 2) := by decide +kernel
theorem dL_isStep_225 : decode cL_isStep 225 = .ok (.aload_n 0, 1) := by decide +kernel
theorem dL_isStep_226 : decode cL_isStep 226 = .ok (.iload 8, 2) := by decide +kernel
theorem dL_isStep_228 : decode cL_isStep 228 = .ok (.invokevirtual 27, 3) := by decide +kernel
theorem dL_isStep_231 : decode cL_isStep 231 = .ok (.istore 9, 2) := by decide +kernel
theorem dL_isStep_233 : decode cL_isStep 233 = .ok (.iload 9, 2) := by decide +kernel
theorem dL_isStep_235 : decode cL_isStep 235 = .ok (.aload_n 1, 1) := by decide +kernel
theorem dL_isStep_236 : decode cL_isStep 236 = .ok (.iload 8, 2) := by decide +kernel
theorem dL_isStep_238 : decode cL_isStep 238 = .ok (.invokevirtual 27, 3) := by decide +kernel
theorem dL_isStep_241 : decode cL_isStep 241 = .ok (.if_icmp .ne 27, 3) := by decide +kernel
theorem dL_isStep_244 : decode cL_isStep 244 = .ok (.iload 9, 2) := by decide +kernel
theorem dL_isStep_246 : decode cL_isStep 246 = .ok (.iload 8, 2) := by decide +kernel
theorem dL_isStep_248 : decode cL_isStep 248 = .ok (.iload 4, 2) := by decide +kernel
theorem dL_isStep_250 : decode cL_isStep 250 = .ok (.if_icmp .ne 7, 3) := by decide +kernel
theorem dL_isStep_253 : decode cL_isStep 253 = .ok (.iconst (-1), 1) := by decide +kernel
theorem dL_isStep_254 : decode cL_isStep 254 = .ok (.goto 7, 3) := by decide +kernel
theorem dL_isStep_257 : decode cL_isStep 257 = .ok (.iload 4, 2) := by decide +kernel
theorem dL_isStep_259 : decode cL_isStep 259 = .ok (.iconst 1, 1) := by decide +kernel
theorem dL_isStep_260 : decode cL_isStep 260 = .ok (.isub, 1) := by decide +kernel
theorem dL_isStep_261 : decode cL_isStep 261 = .ok (.if_icmp .ne 7, 3) := by decide +kernel
theorem dL_isStep_264 : decode cL_isStep 264 = .ok (.iconst 1, 1) := by decide +kernel
theorem dL_isStep_265 : decode cL_isStep 265 = .ok (.goto 4, 3) := by decide +kernel
theorem dL_isStep_268 : decode cL_isStep 268 = .ok (.iconst 0, 1) := by decide +kernel
theorem dL_isStep_269 : decode cL_isStep 269 = .ok (.ireturn, 1) := by decide +kernel
theorem dL_isStep_270 : decode cL_isStep 270 = .ok (.iload 7, 2) := by decide +kernel
theorem dL_isStep_272 : decode cL_isStep 272 = .ok (.bipush 13, 2) := by decide +kernel
theorem dL_isStep_274 : decode cL_isStep 274 = .ok (.if_icmp .ge 55, 3) := by decide +kernel
theorem dL_isStep_277 : decode cL_isStep 277 = .ok (.iload_n 3, 1) := by decide +kernel
theorem dL_isStep_278 : decode cL_isStep 278 = .ok (.iconst 4, 1) := by decide +kernel
theorem dL_isStep_279 : decode cL_isStep 279 = .ok (.invokestatic 15, 3) := by decide +kernel
theorem dL_isStep_282 : decode cL_isStep 282 = .ok (.ifCond .gt 41, 3) := by decide +kernel
theorem dL_isStep_285 : decode cL_isStep 285 = .ok (.aload_n 0, 1) := by decide +kernel
theorem dL_isStep_286 : decode cL_isStep 286 = .ok (.invokevirtual 30, 3) := by decide +kernel
theorem dL_isStep_289 : decode cL_isStep 289 = .ok (.aload_n 1, 1) := by decide +kernel
theorem dL_isStep_290 : decode cL_isStep 290 = .ok (.invokevirtual 30, 3) := by decide +kernel
theorem dL_isStep_293 : decode cL_isStep 293 = .ok (.if_icmp .ne 34, 3) := by decide +kernel
theorem dL_isStep_296 : decode cL_isStep 296 = .ok (.aload_n 0, 1) := by decide +kernel
theorem dL_isStep_297 : decode cL_isStep 297 = .ok (.iconst 0, 1) := by decide +kernel
theorem dL_isStep_298 : decode cL_isStep 298 = .ok (.invokevirtual 9, 3) := by decide +kernel
theorem dL_isStep_301 : decode cL_isStep 301 = .ok (.ifCond .ne 26, 3) := by decide +kernel
theorem dL_isStep_304 : decode cL_isStep 304 = .ok (.aload_n 0, 1) := by decide +kernel
theorem dL_isStep_305 : decode cL_isStep 305 = .ok (.iconst 1, 1) := by decide +kernel
theorem dL_isStep_306 : decode cL_isStep 306 = .ok (.invokevirtual 9, 3) := by decide +kernel
theorem dL_isStep_309 : decode cL_isStep 309 = .ok (.ifCond .ne 18, 3) := by decide +kernel
theorem dL_isStep_312 : decode cL_isStep 312 = .ok (.aload_n 0, 1) := by decide +kernel
theorem dL_isStep_313 : decode cL_isStep 313 = .ok (.bipush 7, 2) := by decide +kernel
theorem dL_isStep_315 : decode cL_isStep 315 = .ok (.invokevirtual 9, 3) := by decide +kernel
theorem dL_isStep_318 : decode cL_isStep 318 = .ok (.iload 6, 2) := by decide +kernel
theorem dL_isStep_320 : decode cL_isStep 320 = .ok (.if_icmp .ne 7, 3) := by decide +kernel
theorem dL_isStep_323 : decode cL_isStep 323 = .ok (.iconst 1, 1) := by decide +kernel
theorem dL_isStep_324 : decode cL_isStep 324 = .ok (.goto 4, 3) := by decide +kernel
theorem dL_isStep_327 : decode cL_isStep 327 = .ok (.iconst 0, 1) := by decide +kernel
theorem dL_isStep_328 : decode cL_isStep 328 = .ok (.ireturn, 1) := by decide +kernel
theorem dL_isStep_329 : decode cL_isStep 329 = .ok (.iload 7, 2) := by decide +kernel
theorem dL_isStep_331 : decode cL_isStep 331 = .ok (.bipush 14, 2) := by decide +kernel
theorem dL_isStep_333 : decode cL_isStep 333 = .ok (.if_icmp .ge 30, 3) := by decide +kernel
theorem dL_isStep_336 : decode cL_isStep 336 = .ok (.aload_n 0, 1) := by decide +kernel
theorem dL_isStep_337 : decode cL_isStep 337 = .ok (.bipush 21, 2) := by decide +kernel
theorem dL_isStep_339 : decode cL_isStep 339 = .ok (.invokevirtual 9, 3) := by decide +kernel
theorem dL_isStep_342 : decode cL_isStep 342 = .ok (.iconst 3, 1) := by decide +kernel
theorem dL_isStep_343 : decode cL_isStep 343 = .ok (.if_icmp .lt 14, 3) := by decide +kernel
theorem dL_isStep_346 : decode cL_isStep 346 = .ok (.aload_n 0, 1) := by decide +kernel
theorem dL_isStep_347 : decode cL_isStep 347 = .ok (.invokevirtual 34, 3) := by decide +kernel
theorem dL_isStep_350 : decode cL_isStep 350 = .ok (.aload_n 1, 1) := by decide +kernel
theorem dL_isStep_351 : decode cL_isStep 351 = .ok (.invokevirtual 34, 3) := by decide +kernel
theorem dL_isStep_354 : decode cL_isStep 354 = .ok (.if_icmp .ne 7, 3) := by decide +kernel
theorem dL_isStep_357 : decode cL_isStep 357 = .ok (.iconst 1, 1) := by decide +kernel
theorem dL_isStep_358 : decode cL_isStep 358 = .ok (.goto 4, 3) := by decide +kernel
theorem dL_isStep_361 : decode cL_isStep 361 = .ok (.iconst 0, 1) := by decide +kernel
theorem dL_isStep_362 : decode cL_isStep 362 = .ok (.ireturn, 1) := by decide +kernel
theorem dL_isStep_363 : decode cL_isStep 363 = .ok (.iload_n 3, 1) := by decide +kernel
theorem dL_isStep_364 : decode cL_isStep 364 = .ok (.bipush 8, 2) := by decide +kernel
theorem dL_isStep_366 : decode cL_isStep 366 = .ok (.invokestatic 15, 3) := by decide +kernel
theorem dL_isStep_369 : decode cL_isStep 369 = .ok (.istore 8, 2) := by decide +kernel
theorem dL_isStep_371 : decode cL_isStep 371 = .ok (.iload 8, 2) := by decide +kernel
theorem dL_isStep_373 : decode cL_isStep 373 = .ok (.iconst 2, 1) := by decide +kernel
theorem dL_isStep_374 : decode cL_isStep 374 = .ok (.if_icmp .ge 86, 3) := by decide +kernel
theorem dL_isStep_377 : decode cL_isStep 377 = .ok (.iload 8, 2) := by decide +kernel
theorem dL_isStep_379 : decode cL_isStep 379 = .ok (.ifCond .ne 13, 3) := by decide +kernel
theorem dL_isStep_382 : decode cL_isStep 382 = .ok (.iload_n 3, 1) := by decide +kernel
theorem dL_isStep_383 : decode cL_isStep 383 = .ok (.iconst 3, 1) := by decide +kernel
theorem dL_isStep_384 : decode cL_isStep 384 = .ok (.ishr, 1) := by decide +kernel
theorem dL_isStep_385 : decode cL_isStep 385 = .ok (.iconst 2, 1) := by decide +kernel
theorem dL_isStep_386 : decode cL_isStep 386 = .ok (.invokestatic 15, 3) := by decide +kernel
theorem dL_isStep_389 : decode cL_isStep 389 = .ok (.goto 14, 3) := by decide +kernel
theorem dL_isStep_392 : decode cL_isStep 392 = .ok (.iload_n 3, 1) := by decide +kernel
theorem dL_isStep_393 : decode cL_isStep 393 = .ok (.iconst 3, 1) := by decide +kernel
theorem dL_isStep_394 : decode cL_isStep 394 = .ok (.ishr, 1) := by decide +kernel
theorem dL_isStep_395 : decode cL_isStep 395 = .ok (.bipush 31, 2) := by decide +kernel
theorem dL_isStep_397 : decode cL_isStep 397 = .ok (.invokestatic 15, 3) := by decide +kernel
theorem dL_isStep_400 : decode cL_isStep 400 = .ok (.bipush 15, 2) := by decide +kernel
theorem dL_isStep_402 : decode cL_isStep 402 = .ok (.isub, 1) := by decide +kernel
theorem dL_isStep_403 : decode cL_isStep 403 = .ok (.istore 9, 2) := by decide +kernel
theorem dL_isStep_405 : decode cL_isStep 405 = .ok (.aload_n 0, 1) := by decide +kernel
theorem dL_isStep_406 : decode cL_isStep 406 = .ok (.iload 8, 2) := by decide +kernel
theorem dL_isStep_408 : decode cL_isStep 408 = .ok (.iload 9, 2) := by decide +kernel
theorem dL_isStep_410 : decode cL_isStep 410 = .ok (.invokevirtual 37, 3) := by decide +kernel
theorem dL_isStep_413 : decode cL_isStep 413 = .ok (.sipush 900, 3) := by decide +kernel
theorem dL_isStep_416 : decode cL_isStep 416 = .ok (.if_icmp .lt 42, 3) := by decide +kernel
theorem dL_isStep_419 : decode cL_isStep 419 = .ok (.aload_n 1, 1) := by decide +kernel
theorem dL_isStep_420 : decode cL_isStep 420 = .ok (.iload 8, 2) := by decide +kernel
theorem dL_isStep_422 : decode cL_isStep 422 = .ok (.iload 8, 2) := by decide +kernel
theorem dL_isStep_424 : decode cL_isStep 424 = .ok (.ifCond .ne 10, 3) := by decide +kernel
theorem dL_isStep_427 : decode cL_isStep 427 = .ok (.iconst 1, 1) := by decide +kernel
theorem dL_isStep_428 : decode cL_isStep 428 = .ok (.iload 9, 2) := by decide +kernel
theorem dL_isStep_430 : decode cL_isStep 430 = .ok (.isub, 1) := by decide +kernel
theorem dL_isStep_431 : decode cL_isStep 431 = .ok (.goto 6, 3) := by decide +kernel
theorem dL_isStep_434 : decode cL_isStep 434 = .ok (.iload 9, 2) := by decide +kernel
theorem dL_isStep_436 : decode cL_isStep 436 = .ok (.ineg, 1) := by decide +kernel
theorem dL_isStep_437 : decode cL_isStep 437 = .ok (.invokevirtual 37, 3) := by decide +kernel
theorem dL_isStep_440 : decode cL_isStep 440 = .ok (.sipush 900, 3) := by decide +kernel
theorem dL_isStep_443 : decode cL_isStep 443 = .ok (.if_icmp .lt 15, 3) := by decide +kernel
theorem dL_isStep_446 : decode cL_isStep 446 = .ok (.aload_n 0, 1) := by decide +kernel
theorem dL_isStep_447 : decode cL_isStep 447 = .ok (.iconst 3, 1) := by decide +kernel
theorem dL_isStep_448 : decode cL_isStep 448 = .ok (.invokevirtual 9, 3) := by decide +kernel
theorem dL_isStep_451 : decode cL_isStep 451 = .ok (.ifCond .ne 7, 3) := by decide +kernel
theorem dL_isStep_454 : decode cL_isStep 454 = .ok (.iconst 1, 1) := by decide +kernel
theorem dL_isStep_455 : decode cL_isStep 455 = .ok (.goto 4, 3) := by decide +kernel
theorem dL_isStep_458 : decode cL_isStep 458 = .ok (.iconst 0, 1) := by decide +kernel
theorem dL_isStep_459 : decode cL_isStep 459 = .ok (.ireturn, 1) := by decide +kernel
theorem dL_isStep_460 : decode cL_isStep 460 = .ok (.iload 8, 2) := by decide +kernel
theorem dL_isStep_462 : decode cL_isStep 462 = .ok (.iconst 2, 1) := by decide +kernel
theorem dL_isStep_463 : decode cL_isStep 463 = .ok (.if_icmp .ne 7, 3) := by decide +kernel
theorem dL_isStep_466 : decode cL_isStep 466 = .ok (.iconst 2, 1) := by decide +kernel
theorem dL_isStep_467 : decode cL_isStep 467 = .ok (.goto 7, 3) := by decide +kernel
theorem dL_isStep_470 : decode cL_isStep 470 = .ok (.iload 8, 2) := by decide +kernel
theorem dL_isStep_472 : decode cL_isStep 472 = .ok (.iconst 2, 1) := by decide +kernel
theorem dL_isStep_473 : decode cL_isStep 473 = .ok (.iadd, 1) := by decide +kernel
theorem dL_isStep_474 : decode cL_isStep 474 = .ok (.istore 9, 2) := by decide +kernel
theorem dL_isStep_476 : decode cL_isStep 476 = .ok (.iload 9, 2) := by decide +kernel
theorem dL_isStep_478 : decode cL_isStep 478 = .ok (.iconst 2, 1) := by decide +kernel
theorem dL_isStep_479 : decode cL_isStep 479 = .ok (.if_icmp .ne 14, 3) := by decide +kernel
theorem dL_isStep_482 : decode cL_isStep 482 = .ok (.iload_n 3, 1) := by decide +kernel
theorem dL_isStep_483 : decode cL_isStep 483 = .ok (.iconst 3, 1) := by decide +kernel
theorem dL_isStep_484 : decode cL_isStep 484 = .ok (.ishr, 1) := by decide +kernel
theorem dL_isStep_485 : decode cL_isStep 485 = .ok (.bipush 20, 2) := by decide +kernel
theorem dL_isStep_487 : decode cL_isStep 487 = .ok (.invokestatic 15, 3) := by decide +kernel
theorem dL_isStep_490 : decode cL_isStep 490 = .ok (.goto 85, 3) := by decide +kernel
theorem dL_isStep_493 : decode cL_isStep 493 = .ok (.iload 9, 2) := by decide +kernel
theorem dL_isStep_495 : decode cL_isStep 495 = .ok (.iconst 5, 1) := by decide +kernel
theorem dL_isStep_496 : decode cL_isStep 496 = .ok (.if_icmp .ne 16, 3) := by decide +kernel
theorem dL_isStep_499 : decode cL_isStep 499 = .ok (.iconst 1, 1) := by decide +kernel
theorem dL_isStep_500 : decode cL_isStep 500 = .ok (.iload_n 3, 1) := by decide +kernel
theorem dL_isStep_501 : decode cL_isStep 501 = .ok (.iconst 3, 1) := by decide +kernel
theorem dL_isStep_502 : decode cL_isStep 502 = .ok (.ishr, 1) := by decide +kernel
theorem dL_isStep_503 : decode cL_isStep 503 = .ok (.bipush 12, 2) := by decide +kernel
theorem dL_isStep_505 : decode cL_isStep 505 = .ok (.invokestatic 15, 3) := by decide +kernel
theorem dL_isStep_508 : decode cL_isStep 508 = .ok (.iadd, 1) := by decide +kernel
theorem dL_isStep_509 : decode cL_isStep 509 = .ok (.goto 66, 3) := by decide +kernel
theorem dL_isStep_512 : decode cL_isStep 512 = .ok (.iload 9, 2) := by decide +kernel
theorem dL_isStep_514 : decode cL_isStep 514 = .ok (.bipush 6, 2) := by decide +kernel
theorem dL_isStep_516 : decode cL_isStep 516 = .ok (.if_icmp .ne 14, 3) := by decide +kernel
theorem dL_isStep_519 : decode cL_isStep 519 = .ok (.iload_n 3, 1) := by decide +kernel
theorem dL_isStep_520 : decode cL_isStep 520 = .ok (.iconst 3, 1) := by decide +kernel
theorem dL_isStep_521 : decode cL_isStep 521 = .ok (.ishr, 1) := by decide +kernel
theorem dL_isStep_522 : decode cL_isStep 522 = .ok (.bipush 6, 2) := by decide +kernel
theorem dL_isStep_524 : decode cL_isStep 524 = .ok (.invokestatic 15, 3) := by decide +kernel
theorem dL_isStep_527 : decode cL_isStep 527 = .ok (.goto 48, 3) := by decide +kernel
theorem dL_isStep_530 : decode cL_isStep 530 = .ok (.iload 9, 2) := by decide +kernel
theorem dL_isStep_532 : decode cL_isStep 532 = .ok (.bipush 7, 2) := by decide +kernel
theorem dL_isStep_534 : decode cL_isStep 534 = .ok (.if_icmp .ne 14, 3) := by decide +kernel
