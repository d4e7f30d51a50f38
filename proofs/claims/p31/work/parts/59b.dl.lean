theorem dL_print_218 : decode cL_print 218 = .ok (.if_icmp .ge 24, 3) := by decide +kernel
theorem dL_print_221 : decode cL_print 221 = .ok (.ldc2_w 11, 3) := by decide +kernel
theorem dL_print_224 : decode cL_print 224 = .ok (.lload_n 1, 1) := by decide +kernel
theorem dL_print_225 : decode cL_print 225 = .ok (.lmul, 1) := by decide +kernel
theorem dL_print_226 : decode cL_print 226 = .ok (.aload_n 0, 1) := by decide +kernel
theorem dL_print_227 : decode cL_print 227 = .ok (.iload_n 3, 1) := by decide +kernel
theorem dL_print_228 : decode cL_print 228 = .ok (.iload 4, 2) := by decide +kernel
theorem dL_print_230 : decode cL_print 230 = .ok (.invokevirtual 34, 3) := by decide +kernel
theorem dL_print_233 : decode cL_print 233 = .ok (.i2l, 1) := by decide +kernel
theorem dL_print_234 : decode cL_print 234 = .ok (.ladd, 1) := by decide +kernel
theorem dL_print_235 : decode cL_print 235 = .ok (.lstore_n 1, 1) := by decide +kernel
theorem dL_print_236 : decode cL_print 236 = .ok (.iinc 4 1, 3) := by decide +kernel
theorem dL_print_239 : decode cL_print 239 = .ok (.goto (-25), 3) := by decide +kernel
theorem dL_print_242 : decode cL_print 242 = .ok (.iinc 3 1, 3) := by decide +kernel
theorem dL_print_245 : decode cL_print 245 = .ok (.goto (-43), 3) := by decide +kernel
theorem dL_print_248 : decode cL_print 248 = .ok (.iconst 1, 1) := by decide +kernel
theorem dL_print_249 : decode cL_print 249 = .ok (.istore_n 3, 1) := by decide +kernel
theorem dL_print_250 : decode cL_print 250 = .ok (.iload_n 3, 1) := by decide +kernel
theorem dL_print_251 : decode cL_print 251 = .ok (.aload_n 0, 1) := by decide +kernel
theorem dL_print_252 : decode cL_print 252 = .ok (.iconst 4, 1) := by decide +kernel
theorem dL_print_253 : decode cL_print 253 = .ok (.invokevirtual 13, 3) := by decide +kernel
theorem dL_print_256 : decode cL_print 256 = .ok (.if_icmp .gt 39, 3) := by decide +kernel
theorem dL_print_259 : decode cL_print 259 = .ok (.iconst 0, 1) := by decide +kernel
theorem dL_print_260 : decode cL_print 260 = .ok (.istore 4, 2) := by decide +kernel
theorem dL_print_262 : decode cL_print 262 = .ok (.iload 4, 2) := by decide +kernel
theorem dL_print_264 : decode cL_print 264 = .ok (.iconst 3, 1) := by decide +kernel
theorem dL_print_265 : decode cL_print 265 = .ok (.if_icmp .ge 24, 3) := by decide +kernel
theorem dL_print_268 : decode cL_print 268 = .ok (.ldc2_w 11, 3) := by decide +kernel
theorem dL_print_271 : decode cL_print 271 = .ok (.lload_n 1, 1) := by decide +kernel
theorem dL_print_272 : decode cL_print 272 = .ok (.lmul, 1) := by decide +kernel
theorem dL_print_273 : decode cL_print 273 = .ok (.aload_n 0, 1) := by decide +kernel
theorem dL_print_274 : decode cL_print 274 = .ok (.iload_n 3, 1) := by decide +kernel
theorem dL_print_275 : decode cL_print 275 = .ok (.iload 4, 2) := by decide +kernel
theorem dL_print_277 : decode cL_print 277 = .ok (.invokevirtual 37, 3) := by decide +kernel
theorem dL_print_280 : decode cL_print 280 = .ok (.i2l, 1) := by decide +kernel
theorem dL_print_281 : decode cL_print 281 = .ok (.ladd, 1) := by decide +kernel
theorem dL_print_282 : decode cL_print 282 = .ok (.lstore_n 1, 1) := by decide +kernel
theorem dL_print_283 : decode cL_print 283 = .ok (.iinc 4 1, 3) := by decide +kernel
theorem dL_print_286 : decode cL_print 286 = .ok (.goto (-24), 3) := by decide +kernel
theorem dL_print_289 : decode cL_print 289 = .ok (.iinc 3 1, 3) := by decide +kernel
theorem dL_print_292 : decode cL_print 292 = .ok (.goto (-42), 3) := by decide +kernel
theorem dL_print_295 : decode cL_print 295 = .ok (.iconst 0, 1) := by decide +kernel
theorem dL_print_296 : decode cL_print 296 = .ok (.istore_n 3, 1) := by decide +kernel
theorem dL_print_297 : decode cL_print 297 = .ok (.iload_n 3, 1) := by decide +kernel
theorem dL_print_298 : decode cL_print 298 = .ok (.bipush 7, 2) := by decide +kernel
theorem dL_print_300 : decode cL_print 300 = .ok (.if_icmp .ge 22, 3) := by decide +kernel
theorem dL_print_303 : decode cL_print 303 = .ok (.ldc2_w 11, 3) := by decide +kernel
theorem dL_print_306 : decode cL_print 306 = .ok (.lload_n 1, 1) := by decide +kernel
theorem dL_print_307 : decode cL_print 307 = .ok (.lmul, 1) := by decide +kernel
theorem dL_print_308 : decode cL_print 308 = .ok (.aload_n 0, 1) := by decide +kernel
theorem dL_print_309 : decode cL_print 309 = .ok (.iload_n 3, 1) := by decide +kernel
theorem dL_print_310 : decode cL_print 310 = .ok (.invokevirtual 40, 3) := by decide +kernel
theorem dL_print_313 : decode cL_print 313 = .ok (.i2l, 1) := by decide +kernel
theorem dL_print_314 : decode cL_print 314 = .ok (.ladd, 1) := by decide +kernel
theorem dL_print_315 : decode cL_print 315 = .ok (.lstore_n 1, 1) := by decide +kernel
theorem dL_print_316 : decode cL_print 316 = .ok (.iinc 3 1, 3) := by decide +kernel
theorem dL_print_319 : decode cL_print 319 = .ok (.goto (-22), 3) := by decide +kernel
theorem dL_print_322 : decode cL_print 322 = .ok (.lload_n 1, 1) := by decide +kernel
theorem dL_print_323 : decode cL_print 323 = .ok (.lreturn, 1) := by decide +kernel
theorem dL_refused_0 : decode cL_refused 0 = .ok (.aload_n 0, 1) := by decide +kernel
theorem dL_refused_1 : decode cL_refused 1 = .ok (.invokestatic 43, 3) := by decide +kernel
theorem dL_refused_4 : decode cL_refused 4 = .ok (.lstore_n 1, 1) := by decide +kernel
theorem dL_refused_5 : decode cL_refused 5 = .ok (.aload_n 0, 1) := by decide +kernel
theorem dL_refused_6 : decode cL_refused 6 = .ok (.iconst 0, 1) := by decide +kernel
theorem dL_refused_7 : decode cL_refused 7 = .ok (.invokevirtual 13, 3) := by decide +kernel
theorem dL_refused_10 : decode cL_refused 10 = .ok (.istore_n 3, 1) := by decide +kernel
theorem dL_refused_11 : decode cL_refused 11 = .ok (.aload_n 0, 1) := by decide +kernel
theorem dL_refused_12 : decode cL_refused 12 = .ok (.iconst 1, 1) := by decide +kernel
theorem dL_refused_13 : decode cL_refused 13 = .ok (.invokevirtual 13, 3) := by decide +kernel
theorem dL_refused_16 : decode cL_refused 16 = .ok (.istore 4, 2) := by decide +kernel
theorem dL_refused_18 : decode cL_refused 18 = .ok (.aload_n 0, 1) := by decide +kernel
theorem dL_refused_19 : decode cL_refused 19 = .ok (.bipush 9, 2) := by decide +kernel
theorem dL_refused_21 : decode cL_refused 21 = .ok (.invokevirtual 13, 3) := by decide +kernel
theorem dL_refused_24 : decode cL_refused 24 = .ok (.istore 5, 2) := by decide +kernel
theorem dL_refused_26 : decode cL_refused 26 = .ok (.aload_n 0, 1) := by decide +kernel
theorem dL_refused_27 : decode cL_refused 27 = .ok (.iconst 0, 1) := by decide +kernel
theorem dL_refused_28 : decode cL_refused 28 = .ok (.invokevirtual 49, 3) := by decide +kernel
theorem dL_refused_31 : decode cL_refused 31 = .ok (.iconst (-1), 1) := by decide +kernel
theorem dL_refused_32 : decode cL_refused 32 = .ok (.if_icmp .ne 164, 3) := by decide +kernel
theorem dL_refused_35 : decode cL_refused 35 = .ok (.aload_n 0, 1) := by decide +kernel
theorem dL_refused_36 : decode cL_refused 36 = .ok (.ldc 52, 2) := by decide +kernel
theorem dL_refused_38 : decode cL_refused 38 = .ok (.invokevirtual 49, 3) := by decide +kernel
theorem dL_refused_41 : decode cL_refused 41 = .ok (.iconst (-1), 1) := by decide +kernel
theorem dL_refused_42 : decode cL_refused 42 = .ok (.if_icmp .ne 154, 3) := by decide +kernel
theorem dL_refused_45 : decode cL_refused 45 = .ok (.aload_n 0, 1) := by decide +kernel
theorem dL_refused_46 : decode cL_refused 46 = .ok (.iload 4, 2) := by decide +kernel
theorem dL_refused_48 : decode cL_refused 48 = .ok (.iconst 5, 1) := by decide +kernel
theorem dL_refused_49 : decode cL_refused 49 = .ok (.invokevirtual 53, 3) := by decide +kernel
theorem dL_refused_52 : decode cL_refused 52 = .ok (.iconst (-1), 1) := by decide +kernel
theorem dL_refused_53 : decode cL_refused 53 = .ok (.if_icmp .ne 143, 3) := by decide +kernel
theorem dL_refused_56 : decode cL_refused 56 = .ok (.aload_n 0, 1) := by decide +kernel
theorem dL_refused_57 : decode cL_refused 57 = .ok (.iconst (-1), 1) := by decide +kernel
theorem dL_refused_58 : decode cL_refused 58 = .ok (.iconst 5, 1) := by decide +kernel
theorem dL_refused_59 : decode cL_refused 59 = .ok (.invokevirtual 53, 3) := by decide +kernel
theorem dL_refused_62 : decode cL_refused 62 = .ok (.iconst (-1), 1) := by decide +kernel
theorem dL_refused_63 : decode cL_refused 63 = .ok (.if_icmp .ne 133, 3) := by decide +kernel
theorem dL_refused_66 : decode cL_refused 66 = .ok (.aload_n 0, 1) := by decide +kernel
theorem dL_refused_67 : decode cL_refused 67 = .ok (.iload_n 3, 1) := by decide +kernel
theorem dL_refused_68 : decode cL_refused 68 = .ok (.iconst 0, 1) := by decide +kernel
theorem dL_refused_69 : decode cL_refused 69 = .ok (.iconst 1, 1) := by decide +kernel
theorem dL_refused_70 : decode cL_refused 70 = .ok (.invokevirtual 56, 3) := by decide +kernel
theorem dL_refused_73 : decode cL_refused 73 = .ok (.iconst (-1), 1) := by decide +kernel
theorem dL_refused_74 : decode cL_refused 74 = .ok (.if_icmp .ne 122, 3) := by decide +kernel
theorem dL_refused_77 : decode cL_refused 77 = .ok (.aload_n 0, 1) := by decide +kernel
theorem dL_refused_78 : decode cL_refused 78 = .ok (.iconst (-1), 1) := by decide +kernel
theorem dL_refused_79 : decode cL_refused 79 = .ok (.iconst 0, 1) := by decide +kernel
theorem dL_refused_80 : decode cL_refused 80 = .ok (.iconst 1, 1) := by decide +kernel
theorem dL_refused_81 : decode cL_refused 81 = .ok (.invokevirtual 56, 3) := by decide +kernel
theorem dL_refused_84 : decode cL_refused 84 = .ok (.iconst (-1), 1) := by decide +kernel
theorem dL_refused_85 : decode cL_refused 85 = .ok (.if_icmp .ne 111, 3) := by decide +kernel
theorem dL_refused_88 : decode cL_refused 88 = .ok (.aload_n 0, 1) := by decide +kernel
theorem dL_refused_89 : decode cL_refused 89 = .ok (.iconst 0, 1) := by decide +kernel
theorem dL_refused_90 : decode cL_refused 90 = .ok (.iload 4, 2) := by decide +kernel
theorem dL_refused_92 : decode cL_refused 92 = .ok (.iconst 1, 1) := by decide +kernel
theorem dL_refused_93 : decode cL_refused 93 = .ok (.invokevirtual 56, 3) := by decide +kernel
theorem dL_refused_96 : decode cL_refused 96 = .ok (.iconst (-1), 1) := by decide +kernel
theorem dL_refused_97 : decode cL_refused 97 = .ok (.if_icmp .ne 99, 3) := by decide +kernel
theorem dL_refused_100 : decode cL_refused 100 = .ok (.aload_n 0, 1) := by decide +kernel
theorem dL_refused_101 : decode cL_refused 101 = .ok (.iload_n 3, 1) := by decide +kernel
theorem dL_refused_102 : decode cL_refused 102 = .ok (.bipush 8, 2) := by decide +kernel
theorem dL_refused_104 : decode cL_refused 104 = .ok (.invokevirtual 21, 3) := by decide +kernel
theorem dL_refused_107 : decode cL_refused 107 = .ok (.iconst (-1), 1) := by decide +kernel
theorem dL_refused_108 : decode cL_refused 108 = .ok (.if_icmp .ne 88, 3) := by decide +kernel
theorem dL_refused_111 : decode cL_refused 111 = .ok (.aload_n 0, 1) := by decide +kernel
theorem dL_refused_112 : decode cL_refused 112 = .ok (.iload_n 3, 1) := by decide +kernel
theorem dL_refused_113 : decode cL_refused 113 = .ok (.iconst 0, 1) := by decide +kernel
theorem dL_refused_114 : decode cL_refused 114 = .ok (.invokevirtual 25, 3) := by decide +kernel
theorem dL_refused_117 : decode cL_refused 117 = .ok (.iconst (-1), 1) := by decide +kernel
theorem dL_refused_118 : decode cL_refused 118 = .ok (.if_icmp .ne 78, 3) := by decide +kernel
theorem dL_refused_121 : decode cL_refused 121 = .ok (.aload_n 0, 1) := by decide +kernel
theorem dL_refused_122 : decode cL_refused 122 = .ok (.iconst 0, 1) := by decide +kernel
theorem dL_refused_123 : decode cL_refused 123 = .ok (.iload 4, 2) := by decide +kernel
theorem dL_refused_125 : decode cL_refused 125 = .ok (.invokevirtual 25, 3) := by decide +kernel
theorem dL_refused_128 : decode cL_refused 128 = .ok (.iconst (-1), 1) := by decide +kernel
theorem dL_refused_129 : decode cL_refused 129 = .ok (.if_icmp .ne 67, 3) := by decide +kernel
theorem dL_refused_132 : decode cL_refused 132 = .ok (.aload_n 0, 1) := by decide +kernel
theorem dL_refused_133 : decode cL_refused 133 = .ok (.iconst 0, 1) := by decide +kernel
theorem dL_refused_134 : decode cL_refused 134 = .ok (.iconst 0, 1) := by decide +kernel
theorem dL_refused_135 : decode cL_refused 135 = .ok (.invokevirtual 37, 3) := by decide +kernel
theorem dL_refused_138 : decode cL_refused 138 = .ok (.iconst (-1), 1) := by decide +kernel
theorem dL_refused_139 : decode cL_refused 139 = .ok (.if_icmp .ne 57, 3) := by decide +kernel
theorem dL_refused_142 : decode cL_refused 142 = .ok (.aload_n 0, 1) := by decide +kernel
theorem dL_refused_143 : decode cL_refused 143 = .ok (.aload_n 0, 1) := by decide +kernel
theorem dL_refused_144 : decode cL_refused 144 = .ok (.iconst 4, 1) := by decide +kernel
theorem dL_refused_145 : decode cL_refused 145 = .ok (.invokevirtual 13, 3) := by decide +kernel
