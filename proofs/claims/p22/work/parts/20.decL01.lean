theorem dL_isStep_537 : decode cL_isStep 537 = .ok (.iload_n 3, 1) := by decide +kernel
theorem dL_isStep_538 : decode cL_isStep 538 = .ok (.iconst 3, 1) := by decide +kernel
theorem dL_isStep_539 : decode cL_isStep 539 = .ok (.ishr, 1) := by decide +kernel
theorem dL_isStep_540 : decode cL_isStep 540 = .ok (.bipush 10, 2) := by decide +kernel
theorem dL_isStep_542 : decode cL_isStep 542 = .ok (.invokestatic 15, 3) := by decide +kernel
theorem dL_isStep_545 : decode cL_isStep 545 = .ok (.goto 30, 3) := by decide +kernel
theorem dL_isStep_548 : decode cL_isStep 548 = .ok (.iload 9, 2) := by decide +kernel
theorem dL_isStep_550 : decode cL_isStep 550 = .ok (.bipush 8, 2) := by decide +kernel
theorem dL_isStep_552 : decode cL_isStep 552 = .ok (.if_icmp .ne 16, 3) := by decide +kernel
theorem dL_isStep_555 : decode cL_isStep 555 = .ok (.iconst 1, 1) := by decide +kernel
theorem dL_isStep_556 : decode cL_isStep 556 = .ok (.iload_n 3, 1) := by decide +kernel
theorem dL_isStep_557 : decode cL_isStep 557 = .ok (.iconst 3, 1) := by decide +kernel
theorem dL_isStep_558 : decode cL_isStep 558 = .ok (.ishr, 1) := by decide +kernel
theorem dL_isStep_559 : decode cL_isStep 559 = .ok (.bipush 6, 2) := by decide +kernel
theorem dL_isStep_561 : decode cL_isStep 561 = .ok (.invokestatic 15, 3) := by decide +kernel
theorem dL_isStep_564 : decode cL_isStep 564 = .ok (.iadd, 1) := by decide +kernel
theorem dL_isStep_565 : decode cL_isStep 565 = .ok (.goto 10, 3) := by decide +kernel
theorem dL_isStep_568 : decode cL_isStep 568 = .ok (.iload_n 3, 1) := by decide +kernel
theorem dL_isStep_569 : decode cL_isStep 569 = .ok (.iconst 3, 1) := by decide +kernel
theorem dL_isStep_570 : decode cL_isStep 570 = .ok (.ishr, 1) := by decide +kernel
theorem dL_isStep_571 : decode cL_isStep 571 = .ok (.iconst 2, 1) := by decide +kernel
theorem dL_isStep_572 : decode cL_isStep 572 = .ok (.invokestatic 15, 3) := by decide +kernel
theorem dL_isStep_575 : decode cL_isStep 575 = .ok (.istore 10, 2) := by decide +kernel
theorem dL_isStep_577 : decode cL_isStep 577 = .ok (.aload_n 0, 1) := by decide +kernel
theorem dL_isStep_578 : decode cL_isStep 578 = .ok (.iload 9, 2) := by decide +kernel
theorem dL_isStep_580 : decode cL_isStep 580 = .ok (.iload 10, 2) := by decide +kernel
theorem dL_isStep_582 : decode cL_isStep 582 = .ok (.invokevirtual 37, 3) := by decide +kernel
theorem dL_isStep_585 : decode cL_isStep 585 = .ok (.istore 11, 2) := by decide +kernel
theorem dL_isStep_587 : decode cL_isStep 587 = .ok (.iload 11, 2) := by decide +kernel
theorem dL_isStep_589 : decode cL_isStep 589 = .ok (.aload_n 1, 1) := by decide +kernel
theorem dL_isStep_590 : decode cL_isStep 590 = .ok (.iload 9, 2) := by decide +kernel
theorem dL_isStep_592 : decode cL_isStep 592 = .ok (.iload 10, 2) := by decide +kernel
theorem dL_isStep_594 : decode cL_isStep 594 = .ok (.invokevirtual 37, 3) := by decide +kernel
theorem dL_isStep_597 : decode cL_isStep 597 = .ok (.if_icmp .ne 53, 3) := by decide +kernel
theorem dL_isStep_600 : decode cL_isStep 600 = .ok (.iload 11, 2) := by decide +kernel
theorem dL_isStep_602 : decode cL_isStep 602 = .ok (.ifCond .lt 24, 3) := by decide +kernel
theorem dL_isStep_605 : decode cL_isStep 605 = .ok (.aload_n 0, 1) := by decide +kernel
theorem dL_isStep_606 : decode cL_isStep 606 = .ok (.bipush 10, 2) := by decide +kernel
theorem dL_isStep_608 : decode cL_isStep 608 = .ok (.iload 9, 2) := by decide +kernel
theorem dL_isStep_610 : decode cL_isStep 610 = .ok (.iadd, 1) := by decide +kernel
theorem dL_isStep_611 : decode cL_isStep 611 = .ok (.invokevirtual 9, 3) := by decide +kernel
theorem dL_isStep_614 : decode cL_isStep 614 = .ok (.iload 10, 2) := by decide +kernel
theorem dL_isStep_616 : decode cL_isStep 616 = .ok (.sipush 1000, 3) := by decide +kernel
theorem dL_isStep_619 : decode cL_isStep 619 = .ok (.iadd, 1) := by decide +kernel
theorem dL_isStep_620 : decode cL_isStep 620 = .ok (.if_icmp .ne 30, 3) := by decide +kernel
theorem dL_isStep_623 : decode cL_isStep 623 = .ok (.goto 23, 3) := by decide +kernel
theorem dL_isStep_626 : decode cL_isStep 626 = .ok (.iload 11, 2) := by decide +kernel
theorem dL_isStep_628 : decode cL_isStep 628 = .ok (.bipush (-5), 2) := by decide +kernel
theorem dL_isStep_630 : decode cL_isStep 630 = .ok (.if_icmp .ne 20, 3) := by decide +kernel
theorem dL_isStep_633 : decode cL_isStep 633 = .ok (.iload 9, 2) := by decide +kernel
theorem dL_isStep_635 : decode cL_isStep 635 = .ok (.iconst 5, 1) := by decide +kernel
theorem dL_isStep_636 : decode cL_isStep 636 = .ok (.if_icmp .eq 10, 3) := by decide +kernel
theorem dL_isStep_639 : decode cL_isStep 639 = .ok (.iload 9, 2) := by decide +kernel
theorem dL_isStep_641 : decode cL_isStep 641 = .ok (.bipush 6, 2) := by decide +kernel
theorem dL_isStep_643 : decode cL_isStep 643 = .ok (.if_icmp .ne 7, 3) := by decide +kernel
theorem dL_isStep_646 : decode cL_isStep 646 = .ok (.iconst 1, 1) := by decide +kernel
theorem dL_isStep_647 : decode cL_isStep 647 = .ok (.goto 4, 3) := by decide +kernel
theorem dL_isStep_650 : decode cL_isStep 650 = .ok (.iconst 0, 1) := by decide +kernel
theorem dL_isStep_651 : decode cL_isStep 651 = .ok (.ireturn, 1) := by decide +kernel
theorem dL_areAlike_0 : decode cL_areAlike 0 = .ok (.aload_n 0, 1) := by decide +kernel
theorem dL_areAlike_1 : decode cL_areAlike 1 = .ok (.iconst 1, 1) := by decide +kernel
theorem dL_areAlike_2 : decode cL_areAlike 2 = .ok (.invokevirtual 9, 3) := by decide +kernel
theorem dL_areAlike_5 : decode cL_areAlike 5 = .ok (.istore_n 3, 1) := by decide +kernel
theorem dL_areAlike_6 : decode cL_areAlike 6 = .ok (.aload_n 0, 1) := by decide +kernel
theorem dL_areAlike_7 : decode cL_areAlike 7 = .ok (.iload_n 2, 1) := by decide +kernel
theorem dL_areAlike_8 : decode cL_areAlike 8 = .ok (.invokevirtual 40, 3) := by decide +kernel
theorem dL_areAlike_11 : decode cL_areAlike 11 = .ok (.aload_n 1, 1) := by decide +kernel
theorem dL_areAlike_12 : decode cL_areAlike 12 = .ok (.iload_n 2, 1) := by decide +kernel
theorem dL_areAlike_13 : decode cL_areAlike 13 = .ok (.ineg, 1) := by decide +kernel
theorem dL_areAlike_14 : decode cL_areAlike 14 = .ok (.invokevirtual 40, 3) := by decide +kernel
theorem dL_areAlike_17 : decode cL_areAlike 17 = .ok (.if_icmp .ne 20, 3) := by decide +kernel
theorem dL_areAlike_20 : decode cL_areAlike 20 = .ok (.aload_n 0, 1) := by decide +kernel
theorem dL_areAlike_21 : decode cL_areAlike 21 = .ok (.iconst 1, 1) := by decide +kernel
theorem dL_areAlike_22 : decode cL_areAlike 22 = .ok (.invokevirtual 43, 3) := by decide +kernel
theorem dL_areAlike_25 : decode cL_areAlike 25 = .ok (.aload_n 1, 1) := by decide +kernel
theorem dL_areAlike_26 : decode cL_areAlike 26 = .ok (.iconst 1, 1) := by decide +kernel
theorem dL_areAlike_27 : decode cL_areAlike 27 = .ok (.invokevirtual 43, 3) := by decide +kernel
theorem dL_areAlike_30 : decode cL_areAlike 30 = .ok (.if_icmp .ne 7, 3) := by decide +kernel
theorem dL_areAlike_33 : decode cL_areAlike 33 = .ok (.iconst 1, 1) := by decide +kernel
theorem dL_areAlike_34 : decode cL_areAlike 34 = .ok (.goto 4, 3) := by decide +kernel
theorem dL_areAlike_37 : decode cL_areAlike 37 = .ok (.iconst 0, 1) := by decide +kernel
theorem dL_areAlike_38 : decode cL_areAlike 38 = .ok (.istore 4, 2) := by decide +kernel
theorem dL_areAlike_40 : decode cL_areAlike 40 = .ok (.iconst 0, 1) := by decide +kernel
theorem dL_areAlike_41 : decode cL_areAlike 41 = .ok (.istore 5, 2) := by decide +kernel
theorem dL_areAlike_43 : decode cL_areAlike 43 = .ok (.iload 5, 2) := by decide +kernel
theorem dL_areAlike_45 : decode cL_areAlike 45 = .ok (.bipush 10, 2) := by decide +kernel
theorem dL_areAlike_47 : decode cL_areAlike 47 = .ok (.if_icmp .ge 36, 3) := by decide +kernel
theorem dL_areAlike_50 : decode cL_areAlike 50 = .ok (.iload 4, 2) := by decide +kernel
theorem dL_areAlike_52 : decode cL_areAlike 52 = .ok (.ifCond .eq 22, 3) := by decide +kernel
theorem dL_areAlike_55 : decode cL_areAlike 55 = .ok (.aload_n 0, 1) := by decide +kernel
theorem dL_areAlike_56 : decode cL_areAlike 56 = .ok (.iload 5, 2) := by decide +kernel
theorem dL_areAlike_58 : decode cL_areAlike 58 = .ok (.invokevirtual 9, 3) := by decide +kernel
theorem dL_areAlike_61 : decode cL_areAlike 61 = .ok (.aload_n 1, 1) := by decide +kernel
theorem dL_areAlike_62 : decode cL_areAlike 62 = .ok (.iload 5, 2) := by decide +kernel
theorem dL_areAlike_64 : decode cL_areAlike 64 = .ok (.invokevirtual 9, 3) := by decide +kernel
theorem dL_areAlike_67 : decode cL_areAlike 67 = .ok (.if_icmp .ne 7, 3) := by decide +kernel
theorem dL_areAlike_70 : decode cL_areAlike 70 = .ok (.iconst 1, 1) := by decide +kernel
theorem dL_areAlike_71 : decode cL_areAlike 71 = .ok (.goto 4, 3) := by decide +kernel
theorem dL_areAlike_74 : decode cL_areAlike 74 = .ok (.iconst 0, 1) := by decide +kernel
theorem dL_areAlike_75 : decode cL_areAlike 75 = .ok (.istore 4, 2) := by decide +kernel
theorem dL_areAlike_77 : decode cL_areAlike 77 = .ok (.iinc 5 1, 3) := by decide +kernel
theorem dL_areAlike_80 : decode cL_areAlike 80 = .ok (.goto (-37), 3) := by decide +kernel
theorem dL_areAlike_83 : decode cL_areAlike 83 = .ok (.iconst 0, 1) := by decide +kernel
theorem dL_areAlike_84 : decode cL_areAlike 84 = .ok (.istore 5, 2) := by decide +kernel
theorem dL_areAlike_86 : decode cL_areAlike 86 = .ok (.iload 5, 2) := by decide +kernel
theorem dL_areAlike_88 : decode cL_areAlike 88 = .ok (.iload_n 3, 1) := by decide +kernel
theorem dL_areAlike_89 : decode cL_areAlike 89 = .ok (.if_icmp .ge 229, 3) := by decide +kernel
theorem dL_areAlike_92 : decode cL_areAlike 92 = .ok (.iload 4, 2) := by decide +kernel
theorem dL_areAlike_94 : decode cL_areAlike 94 = .ok (.ifCond .eq 224, 3) := by decide +kernel
theorem dL_areAlike_97 : decode cL_areAlike 97 = .ok (.aload_n 0, 1) := by decide +kernel
theorem dL_areAlike_98 : decode cL_areAlike 98 = .ok (.iload 5, 2) := by decide +kernel
theorem dL_areAlike_100 : decode cL_areAlike 100 = .ok (.iconst 0, 1) := by decide +kernel
theorem dL_areAlike_101 : decode cL_areAlike 101 = .ok (.invokevirtual 46, 3) := by decide +kernel
theorem dL_areAlike_104 : decode cL_areAlike 104 = .ok (.aload_n 1, 1) := by decide +kernel
theorem dL_areAlike_105 : decode cL_areAlike 105 = .ok (.iload 5, 2) := by decide +kernel
theorem dL_areAlike_107 : decode cL_areAlike 107 = .ok (.iconst 0, 1) := by decide +kernel
theorem dL_areAlike_108 : decode cL_areAlike 108 = .ok (.invokevirtual 46, 3) := by decide +kernel
theorem dL_areAlike_111 : decode cL_areAlike 111 = .ok (.if_icmp .ne 152, 3) := by decide +kernel
theorem dL_areAlike_114 : decode cL_areAlike 114 = .ok (.aload_n 0, 1) := by decide +kernel
theorem dL_areAlike_115 : decode cL_areAlike 115 = .ok (.iload 5, 2) := by decide +kernel
theorem dL_areAlike_117 : decode cL_areAlike 117 = .ok (.iconst 1, 1) := by decide +kernel
theorem dL_areAlike_118 : decode cL_areAlike 118 = .ok (.invokevirtual 46, 3) := by decide +kernel
theorem dL_areAlike_121 : decode cL_areAlike 121 = .ok (.aload_n 1, 1) := by decide +kernel
theorem dL_areAlike_122 : decode cL_areAlike 122 = .ok (.iload 5, 2) := by decide +kernel
theorem dL_areAlike_124 : decode cL_areAlike 124 = .ok (.iconst 1, 1) := by decide +kernel
theorem dL_areAlike_125 : decode cL_areAlike 125 = .ok (.invokevirtual 46, 3) := by decide +kernel
theorem dL_areAlike_128 : decode cL_areAlike 128 = .ok (.if_icmp .ne 135, 3) := by decide +kernel
theorem dL_areAlike_131 : decode cL_areAlike 131 = .ok (.aload_n 0, 1) := by decide +kernel
theorem dL_areAlike_132 : decode cL_areAlike 132 = .ok (.iload 5, 2) := by decide +kernel
theorem dL_areAlike_134 : decode cL_areAlike 134 = .ok (.iconst 2, 1) := by decide +kernel
theorem dL_areAlike_135 : decode cL_areAlike 135 = .ok (.invokevirtual 46, 3) := by decide +kernel
theorem dL_areAlike_138 : decode cL_areAlike 138 = .ok (.aload_n 1, 1) := by decide +kernel
theorem dL_areAlike_139 : decode cL_areAlike 139 = .ok (.iload 5, 2) := by decide +kernel
theorem dL_areAlike_141 : decode cL_areAlike 141 = .ok (.iconst 2, 1) := by decide +kernel
theorem dL_areAlike_142 : decode cL_areAlike 142 = .ok (.invokevirtual 46, 3) := by decide +kernel
theorem dL_areAlike_145 : decode cL_areAlike 145 = .ok (.if_icmp .ne 118, 3) := by decide +kernel
theorem dL_areAlike_148 : decode cL_areAlike 148 = .ok (.aload_n 0, 1) := by decide +kernel
theorem dL_areAlike_149 : decode cL_areAlike 149 = .ok (.iload 5, 2) := by decide +kernel
theorem dL_areAlike_151 : decode cL_areAlike 151 = .ok (.iconst 3, 1) := by decide +kernel
theorem dL_areAlike_152 : decode cL_areAlike 152 = .ok (.invokevirtual 46, 3) := by decide +kernel
theorem dL_areAlike_155 : decode cL_areAlike 155 = .ok (.iconst 1, 1) := by decide +kernel
theorem dL_areAlike_156 : decode cL_areAlike 156 = .ok (.aload_n 1, 1) := by decide +kernel
theorem dL_areAlike_157 : decode cL_areAlike 157 = .ok (.iload 5, 2) := by decide +kernel
theorem dL_areAlike_159 : decode cL_areAlike 159 = .ok (.iconst 3, 1) := by decide +kernel
theorem dL_areAlike_160 : decode cL_areAlike 160 = .ok (.invokevirtual 46, 3) := by decide +kernel
theorem dL_areAlike_163 : decode cL_areAlike 163 = .ok (.isub, 1) := by decide +kernel
theorem dL_areAlike_164 : decode cL_areAlike 164 = .ok (.if_icmp .ne 99, 3) := by decide +kernel
theorem dL_areAlike_167 : decode cL_areAlike 167 = .ok (.aload_n 0, 1) := by decide +kernel
theorem dL_areAlike_168 : decode cL_areAlike 168 = .ok (.iload 5, 2) := by decide +kernel
theorem dL_areAlike_170 : decode cL_areAlike 170 = .ok (.iconst 4, 1) := by decide +kernel
theorem dL_areAlike_171 : decode cL_areAlike 171 = .ok (.invokevirtual 46, 3) := by decide +kernel
theorem dL_areAlike_174 : decode cL_areAlike 174 = .ok (.sipush 1000, 3) := by decide +kernel
theorem dL_areAlike_177 : decode cL_areAlike 177 = .ok (.isub, 1) := by decide +kernel
theorem dL_areAlike_178 : decode cL_areAlike 178 = .ok (.sipush 1000, 3) := by decide +kernel
theorem dL_areAlike_181 : decode cL_areAlike 181 = .ok (.aload_n 1, 1) := by decide +kernel
theorem dL_areAlike_182 : decode cL_areAlike 182 = .ok (.iload 5, 2) := by decide +kernel
theorem dL_areAlike_184 : decode cL_areAlike 184 = .ok (.iconst 5, 1) := by decide +kernel
theorem dL_areAlike_185 : decode cL_areAlike 185 = .ok (.invokevirtual 46, 3) := by decide +kernel
theorem dL_areAlike_188 : decode cL_areAlike 188 = .ok (.isub, 1) := by decide +kernel
theorem dL_areAlike_189 : decode cL_areAlike 189 = .ok (.if_icmp .ne 74, 3) := by decide +kernel
theorem dL_areAlike_192 : decode cL_areAlike 192 = .ok (.aload_n 0, 1) := by decide +kernel
theorem dL_areAlike_193 : decode cL_areAlike 193 = .ok (.iload 5, 2) := by decide +kernel
theorem dL_areAlike_195 : decode cL_areAlike 195 = .ok (.iconst 5, 1) := by decide +kernel
theorem dL_areAlike_196 : decode cL_areAlike 196 = .ok (.invokevirtual 46, 3) := by decide +kernel
theorem dL_areAlike_199 : decode cL_areAlike 199 = .ok (.sipush 1000, 3) := by decide +kernel
theorem dL_areAlike_202 : decode cL_areAlike 202 = .ok (.isub, 1) := by decide +kernel
theorem dL_areAlike_203 : decode cL_areAlike 203 = .ok (.sipush 1000, 3) := by decide +kernel
theorem dL_areAlike_206 : decode cL_areAlike 206 = .ok (.aload_n 1, 1) := by decide +kernel
theorem dL_areAlike_207 : decode cL_areAlike 207 = .ok (.iload 5, 2) := by decide +kernel
theorem dL_areAlike_209 : decode cL_areAlike 209 = .ok (.iconst 4, 1) := by decide +kernel
theorem dL_areAlike_210 : decode cL_areAlike 210 = .ok (.invokevirtual 46, 3) := by decide +kernel
theorem dL_areAlike_213 : decode cL_areAlike 213 = .ok (.isub, 1) := by decide +kernel
theorem dL_areAlike_214 : decode cL_areAlike 214 = .ok (.if_icmp .ne 49, 3) := by decide +kernel
theorem dL_areAlike_217 : decode cL_areAlike 217 = .ok (.aload_n 0, 1) := by decide +kernel
theorem dL_areAlike_218 : decode cL_areAlike 218 = .ok (.iload 5, 2) := by decide +kernel
theorem dL_areAlike_220 : decode cL_areAlike 220 = .ok (.bipush 6, 2) := by decide +kernel
theorem dL_areAlike_222 : decode cL_areAlike 222 = .ok (.invokevirtual 46, 3) := by decide +kernel
theorem dL_areAlike_225 : decode cL_areAlike 225 = .ok (.sipush 10000, 3) := by decide +kernel
theorem dL_areAlike_228 : decode cL_areAlike 228 = .ok (.isub, 1) := by decide +kernel
theorem dL_areAlike_229 : decode cL_areAlike 229 = .ok (.sipush 10000, 3) := by decide +kernel
theorem dL_areAlike_232 : decode cL_areAlike 232 = .ok (.aload_n 1, 1) := by decide +kernel
theorem dL_areAlike_233 : decode cL_areAlike 233 = .ok (.iload 5, 2) := by decide +kernel
theorem dL_areAlike_235 : decode cL_areAlike 235 = .ok (.bipush 6, 2) := by decide +kernel
theorem dL_areAlike_237 : decode cL_areAlike 237 = .ok (.invokevirtual 46, 3) := by decide +kernel
theorem dL_areAlike_240 : decode cL_areAlike 240 = .ok (.isub, 1) := by decide +kernel
theorem dL_areAlike_241 : decode cL_areAlike 241 = .ok (.if_icmp .ne 22, 3) := by decide +kernel
theorem dL_areAlike_244 : decode cL_areAlike 244 = .ok (.aload_n 0, 1) := by decide +kernel
theorem dL_areAlike_245 : decode cL_areAlike 245 = .ok (.iload 5, 2) := by decide +kernel
theorem dL_areAlike_247 : decode cL_areAlike 247 = .ok (.invokevirtual 49, 3) := by decide +kernel
theorem dL_areAlike_250 : decode cL_areAlike 250 = .ok (.aload_n 1, 1) := by decide +kernel
theorem dL_areAlike_251 : decode cL_areAlike 251 = .ok (.iload 5, 2) := by decide +kernel
theorem dL_areAlike_253 : decode cL_areAlike 253 = .ok (.invokevirtual 49, 3) := by decide +kernel
theorem dL_areAlike_256 : decode cL_areAlike 256 = .ok (.if_icmp .ne 7, 3) := by decide +kernel
theorem dL_areAlike_259 : decode cL_areAlike 259 = .ok (.iconst 1, 1) := by decide +kernel
theorem dL_areAlike_260 : decode cL_areAlike 260 = .ok (.goto 4, 3) := by decide +kernel
theorem dL_areAlike_263 : decode cL_areAlike 263 = .ok (.iconst 0, 1) := by decide +kernel
theorem dL_areAlike_264 : decode cL_areAlike 264 = .ok (.istore 4, 2) := by decide +kernel
theorem dL_areAlike_266 : decode cL_areAlike 266 = .ok (.iconst 0, 1) := by decide +kernel
theorem dL_areAlike_267 : decode cL_areAlike 267 = .ok (.istore 6, 2) := by decide +kernel
theorem dL_areAlike_269 : decode cL_areAlike 269 = .ok (.iload 6, 2) := by decide +kernel
theorem dL_areAlike_271 : decode cL_areAlike 271 = .ok (.iload_n 3, 1) := by decide +kernel
theorem dL_areAlike_272 : decode cL_areAlike 272 = .ok (.if_icmp .ge 40, 3) := by decide +kernel
theorem dL_areAlike_275 : decode cL_areAlike 275 = .ok (.iload 4, 2) := by decide +kernel
theorem dL_areAlike_277 : decode cL_areAlike 277 = .ok (.ifCond .eq 26, 3) := by decide +kernel
theorem dL_areAlike_280 : decode cL_areAlike 280 = .ok (.aload_n 0, 1) := by decide +kernel
theorem dL_areAlike_281 : decode cL_areAlike 281 = .ok (.iload 5, 2) := by decide +kernel
theorem dL_areAlike_283 : decode cL_areAlike 283 = .ok (.iload 6, 2) := by decide +kernel
theorem dL_areAlike_285 : decode cL_areAlike 285 = .ok (.invokevirtual 52, 3) := by decide +kernel
theorem dL_areAlike_288 : decode cL_areAlike 288 = .ok (.aload_n 1, 1) := by decide +kernel
theorem dL_areAlike_289 : decode cL_areAlike 289 = .ok (.iload 5, 2) := by decide +kernel
theorem dL_areAlike_291 : decode cL_areAlike 291 = .ok (.iload 6, 2) := by decide +kernel
theorem dL_areAlike_293 : decode cL_areAlike 293 = .ok (.invokevirtual 52, 3) := by decide +kernel
theorem dL_areAlike_296 : decode cL_areAlike 296 = .ok (.if_icmp .ne 7, 3) := by decide +kernel
theorem dL_areAlike_299 : decode cL_areAlike 299 = .ok (.iconst 1, 1) := by decide +kernel
theorem dL_areAlike_300 : decode cL_areAlike 300 = .ok (.goto 4, 3) := by decide +kernel
theorem dL_areAlike_303 : decode cL_areAlike 303 = .ok (.iconst 0, 1) := by decide +kernel
theorem dL_areAlike_304 : decode cL_areAlike 304 = .ok (.istore 4, 2) := by decide +kernel
theorem dL_areAlike_306 : decode cL_areAlike 306 = .ok (.iinc 6 1, 3) := by decide +kernel
theorem dL_areAlike_309 : decode cL_areAlike 309 = .ok (.goto (-40), 3) := by decide +kernel
theorem dL_areAlike_312 : decode cL_areAlike 312 = .ok (.iinc 5 1, 3) := by decide +kernel
theorem dL_areAlike_315 : decode cL_areAlike 315 = .ok (.goto (-229), 3) := by decide +kernel
theorem dL_areAlike_318 : decode cL_areAlike 318 = .ok (.iload 4, 2) := by decide +kernel
theorem dL_areAlike_320 : decode cL_areAlike 320 = .ok (.ireturn, 1) := by decide +kernel
theorem dL_isWell_0 : decode cL_isWell 0 = .ok (.aload_n 0, 1) := by decide +kernel
theorem dL_isWell_1 : decode cL_isWell 1 = .ok (.iconst 1, 1) := by decide +kernel
theorem dL_isWell_2 : decode cL_isWell 2 = .ok (.invokevirtual 9, 3) := by decide +kernel
theorem dL_isWell_5 : decode cL_isWell 5 = .ok (.istore_n 1, 1) := by decide +kernel
theorem dL_isWell_6 : decode cL_isWell 6 = .ok (.aload_n 0, 1) := by decide +kernel
theorem dL_isWell_7 : decode cL_isWell 7 = .ok (.iconst 0, 1) := by decide +kernel
theorem dL_isWell_8 : decode cL_isWell 8 = .ok (.invokevirtual 9, 3) := by decide +kernel
theorem dL_isWell_11 : decode cL_isWell 11 = .ok (.istore_n 2, 1) := by decide +kernel
theorem dL_isWell_12 : decode cL_isWell 12 = .ok (.aload_n 0, 1) := by decide +kernel
theorem dL_isWell_13 : decode cL_isWell 13 = .ok (.iconst 2, 1) := by decide +kernel
theorem dL_isWell_14 : decode cL_isWell 14 = .ok (.invokevirtual 9, 3) := by decide +kernel
theorem dL_isWell_17 : decode cL_isWell 17 = .ok (.istore_n 3, 1) := by decide +kernel
theorem dL_isWell_18 : decode cL_isWell 18 = .ok (.iload_n 3, 1) := by decide +kernel
theorem dL_isWell_19 : decode cL_isWell 19 = .ok (.iconst 3, 1) := by decide +kernel
theorem dL_isWell_20 : decode cL_isWell 20 = .ok (.if_icmp .ne 7, 3) := by decide +kernel
theorem dL_isWell_23 : decode cL_isWell 23 = .ok (.iconst 1, 1) := by decide +kernel
theorem dL_isWell_24 : decode cL_isWell 24 = .ok (.goto 4, 3) := by decide +kernel
theorem dL_isWell_27 : decode cL_isWell 27 = .ok (.iconst 0, 1) := by decide +kernel
theorem dL_isWell_28 : decode cL_isWell 28 = .ok (.istore 4, 2) := by decide +kernel
theorem dL_isWell_30 : decode cL_isWell 30 = .ok (.iconst (-1), 1) := by decide +kernel
theorem dL_isWell_31 : decode cL_isWell 31 = .ok (.istore 5, 2) := by decide +kernel
theorem dL_isWell_33 : decode cL_isWell 33 = .ok (.aload_n 0, 1) := by decide +kernel
theorem dL_isWell_34 : decode cL_isWell 34 = .ok (.iconst 4, 1) := by decide +kernel
theorem dL_isWell_35 : decode cL_isWell 35 = .ok (.invokevirtual 9, 3) := by decide +kernel
theorem dL_isWell_38 : decode cL_isWell 38 = .ok (.aload_n 0, 1) := by decide +kernel
theorem dL_isWell_39 : decode cL_isWell 39 = .ok (.iconst 5, 1) := by decide +kernel
theorem dL_isWell_40 : decode cL_isWell 40 = .ok (.invokevirtual 9, 3) := by decide +kernel
theorem dL_isWell_43 : decode cL_isWell 43 = .ok (.aload_n 0, 1) := by decide +kernel
theorem dL_isWell_44 : decode cL_isWell 44 = .ok (.bipush 6, 2) := by decide +kernel
theorem dL_isWell_46 : decode cL_isWell 46 = .ok (.invokevirtual 9, 3) := by decide +kernel
theorem dL_isWell_49 : decode cL_isWell 49 = .ok (.iadd, 1) := by decide +kernel
theorem dL_isWell_50 : decode cL_isWell 50 = .ok (.if_icmp .ne 148, 3) := by decide +kernel
theorem dL_isWell_53 : decode cL_isWell 53 = .ok (.aload_n 0, 1) := by decide +kernel
theorem dL_isWell_54 : decode cL_isWell 54 = .ok (.iconst 5, 1) := by decide +kernel
theorem dL_isWell_55 : decode cL_isWell 55 = .ok (.invokevirtual 9, 3) := by decide +kernel
theorem dL_isWell_58 : decode cL_isWell 58 = .ok (.aload_n 0, 1) := by decide +kernel
theorem dL_isWell_59 : decode cL_isWell 59 = .ok (.bipush 7, 2) := by decide +kernel
theorem dL_isWell_61 : decode cL_isWell 61 = .ok (.invokevirtual 9, 3) := by decide +kernel
theorem dL_isWell_64 : decode cL_isWell 64 = .ok (.if_icmp .lt 134, 3) := by decide +kernel
theorem dL_isWell_67 : decode cL_isWell 67 = .ok (.iload_n 1, 1) := by decide +kernel
theorem dL_isWell_68 : decode cL_isWell 68 = .ok (.aload_n 0, 1) := by decide +kernel
theorem dL_isWell_69 : decode cL_isWell 69 = .ok (.bipush 18, 2) := by decide +kernel
theorem dL_isWell_71 : decode cL_isWell 71 = .ok (.invokevirtual 9, 3) := by decide +kernel
theorem dL_isWell_74 : decode cL_isWell 74 = .ok (.sipush 1000, 3) := by decide +kernel
theorem dL_isWell_77 : decode cL_isWell 77 = .ok (.isub, 1) := by decide +kernel
theorem dL_isWell_78 : decode cL_isWell 78 = .ok (.if_icmp .gt 120, 3) := by decide +kernel
theorem dL_isWell_81 : decode cL_isWell 81 = .ok (.iload_n 1, 1) := by decide +kernel
theorem dL_isWell_82 : decode cL_isWell 82 = .ok (.aload_n 0, 1) := by decide +kernel
theorem dL_isWell_83 : decode cL_isWell 83 = .ok (.bipush 7, 2) := by decide +kernel
theorem dL_isWell_85 : decode cL_isWell 85 = .ok (.invokevirtual 9, 3) := by decide +kernel
theorem dL_isWell_88 : decode cL_isWell 88 = .ok (.if_icmp .gt 110, 3) := by decide +kernel
theorem dL_isWell_91 : decode cL_isWell 91 = .ok (.aload_n 0, 1) := by decide +kernel
theorem dL_isWell_92 : decode cL_isWell 92 = .ok (.bipush 8, 2) := by decide +kernel
theorem dL_isWell_94 : decode cL_isWell 94 = .ok (.invokevirtual 9, 3) := by decide +kernel
theorem dL_isWell_97 : decode cL_isWell 97 = .ok (.iload_n 2, 1) := by decide +kernel
theorem dL_isWell_98 : decode cL_isWell 98 = .ok (.if_icmp .gt 100, 3) := by decide +kernel
theorem dL_isWell_101 : decode cL_isWell 101 = .ok (.iload 4, 2) := by decide +kernel
theorem dL_isWell_103 : decode cL_isWell 103 = .ok (.aload_n 0, 1) := by decide +kernel
theorem dL_isWell_104 : decode cL_isWell 104 = .ok (.bipush 9, 2) := by decide +kernel
theorem dL_isWell_106 : decode cL_isWell 106 = .ok (.invokevirtual 9, 3) := by decide +kernel
theorem dL_isWell_109 : decode cL_isWell 109 = .ok (.ifCond .le 7, 3) := by decide +kernel
theorem dL_isWell_112 : decode cL_isWell 112 = .ok (.iconst 1, 1) := by decide +kernel
theorem dL_isWell_113 : decode cL_isWell 113 = .ok (.goto 4, 3) := by decide +kernel
theorem dL_isWell_116 : decode cL_isWell 116 = .ok (.iconst 0, 1) := by decide +kernel
theorem dL_isWell_117 : decode cL_isWell 117 = .ok (.if_icmp .ne 81, 3) := by decide +kernel
theorem dL_isWell_120 : decode cL_isWell 120 = .ok (.iload_n 3, 1) := by decide +kernel
theorem dL_isWell_121 : decode cL_isWell 121 = .ok (.iconst 2, 1) := by decide +kernel
theorem dL_isWell_122 : decode cL_isWell 122 = .ok (.if_icmp .ne 29, 3) := by decide +kernel
theorem dL_isWell_125 : decode cL_isWell 125 = .ok (.iload_n 1, 1) := by decide +kernel
theorem dL_isWell_126 : decode cL_isWell 126 = .ok (.aload_n 0, 1) := by decide +kernel
theorem dL_isWell_127 : decode cL_isWell 127 = .ok (.bipush 18, 2) := by decide +kernel
theorem dL_isWell_129 : decode cL_isWell 129 = .ok (.invokevirtual 9, 3) := by decide +kernel
theorem dL_isWell_132 : decode cL_isWell 132 = .ok (.sipush 1000, 3) := by decide +kernel
theorem dL_isWell_135 : decode cL_isWell 135 = .ok (.isub, 1) := by decide +kernel
theorem dL_isWell_136 : decode cL_isWell 136 = .ok (.if_icmp .ne 62, 3) := by decide +kernel
theorem dL_isWell_139 : decode cL_isWell 139 = .ok (.aload_n 0, 1) := by decide +kernel
theorem dL_isWell_140 : decode cL_isWell 140 = .ok (.bipush 19, 2) := by decide +kernel
