theorem dL_isAhead_137 : decode cL_isAhead 137 = .ok (.iload 5, 2) := by decide +kernel
theorem dL_isAhead_139 : decode cL_isAhead 139 = .ok (.iadd, 1) := by decide +kernel
theorem dL_isAhead_140 : decode cL_isAhead 140 = .ok (.sipush 200, 3) := by decide +kernel
theorem dL_isAhead_143 : decode cL_isAhead 143 = .ok (.if_icmp .gt 86, 3) := by decide +kernel
theorem dL_isAhead_146 : decode cL_isAhead 146 = .ok (.iconst 0, 1) := by decide +kernel
theorem dL_isAhead_147 : decode cL_isAhead 147 = .ok (.istore 7, 2) := by decide +kernel
theorem dL_isAhead_149 : decode cL_isAhead 149 = .ok (.iconst 0, 1) := by decide +kernel
theorem dL_isAhead_150 : decode cL_isAhead 150 = .ok (.istore 8, 2) := by decide +kernel
theorem dL_isAhead_152 : decode cL_isAhead 152 = .ok (.iload 8, 2) := by decide +kernel
theorem dL_isAhead_154 : decode cL_isAhead 154 = .ok (.iload 5, 2) := by decide +kernel
theorem dL_isAhead_156 : decode cL_isAhead 156 = .ok (.if_icmp .ge 20, 3) := by decide +kernel
theorem dL_isAhead_159 : decode cL_isAhead 159 = .ok (.iload 7, 2) := by decide +kernel
theorem dL_isAhead_161 : decode cL_isAhead 161 = .ok (.aload_n 0, 1) := by decide +kernel
theorem dL_isAhead_162 : decode cL_isAhead 162 = .ok (.iload 8, 2) := by decide +kernel
theorem dL_isAhead_164 : decode cL_isAhead 164 = .ok (.invokevirtual 73, 3) := by decide +kernel
theorem dL_isAhead_167 : decode cL_isAhead 167 = .ok (.iadd, 1) := by decide +kernel
theorem dL_isAhead_168 : decode cL_isAhead 168 = .ok (.istore 7, 2) := by decide +kernel
theorem dL_isAhead_170 : decode cL_isAhead 170 = .ok (.iinc 8 1, 3) := by decide +kernel
theorem dL_isAhead_173 : decode cL_isAhead 173 = .ok (.goto (-21), 3) := by decide +kernel
theorem dL_isAhead_176 : decode cL_isAhead 176 = .ok (.iload 7, 2) := by decide +kernel
theorem dL_isAhead_178 : decode cL_isAhead 178 = .ok (.iload 6, 2) := by decide +kernel
theorem dL_isAhead_180 : decode cL_isAhead 180 = .ok (.if_icmp .ne 14, 3) := by decide +kernel
theorem dL_isAhead_183 : decode cL_isAhead 183 = .ok (.aload_n 0, 1) := by decide +kernel
theorem dL_isAhead_184 : decode cL_isAhead 184 = .ok (.invokevirtual 107, 3) := by decide +kernel
theorem dL_isAhead_187 : decode cL_isAhead 187 = .ok (.ifCond .ne 7, 3) := by decide +kernel
theorem dL_isAhead_190 : decode cL_isAhead 190 = .ok (.iconst 1, 1) := by decide +kernel
theorem dL_isAhead_191 : decode cL_isAhead 191 = .ok (.goto 4, 3) := by decide +kernel
theorem dL_isAhead_194 : decode cL_isAhead 194 = .ok (.iconst 0, 1) := by decide +kernel
theorem dL_isAhead_195 : decode cL_isAhead 195 = .ok (.istore_n 3, 1) := by decide +kernel
theorem dL_isAhead_196 : decode cL_isAhead 196 = .ok (.iconst 0, 1) := by decide +kernel
theorem dL_isAhead_197 : decode cL_isAhead 197 = .ok (.istore 8, 2) := by decide +kernel
theorem dL_isAhead_199 : decode cL_isAhead 199 = .ok (.iload 8, 2) := by decide +kernel
theorem dL_isAhead_201 : decode cL_isAhead 201 = .ok (.iload 5, 2) := by decide +kernel
theorem dL_isAhead_203 : decode cL_isAhead 203 = .ok (.if_icmp .ge 26, 3) := by decide +kernel
theorem dL_isAhead_206 : decode cL_isAhead 206 = .ok (.iload_n 3, 1) := by decide +kernel
theorem dL_isAhead_207 : decode cL_isAhead 207 = .ok (.ifCond .eq 14, 3) := by decide +kernel
theorem dL_isAhead_210 : decode cL_isAhead 210 = .ok (.aload_n 0, 1) := by decide +kernel
theorem dL_isAhead_211 : decode cL_isAhead 211 = .ok (.invokevirtual 104, 3) := by decide +kernel
theorem dL_isAhead_214 : decode cL_isAhead 214 = .ok (.ifCond .lt 7, 3) := by decide +kernel
theorem dL_isAhead_217 : decode cL_isAhead 217 = .ok (.iconst 1, 1) := by decide +kernel
theorem dL_isAhead_218 : decode cL_isAhead 218 = .ok (.goto 4, 3) := by decide +kernel
theorem dL_isAhead_221 : decode cL_isAhead 221 = .ok (.iconst 0, 1) := by decide +kernel
theorem dL_isAhead_222 : decode cL_isAhead 222 = .ok (.istore_n 3, 1) := by decide +kernel
theorem dL_isAhead_223 : decode cL_isAhead 223 = .ok (.iinc 8 1, 3) := by decide +kernel
theorem dL_isAhead_226 : decode cL_isAhead 226 = .ok (.goto (-27), 3) := by decide +kernel
theorem dL_isAhead_229 : decode cL_isAhead 229 = .ok (.iload_n 3, 1) := by decide +kernel
theorem dL_isAhead_230 : decode cL_isAhead 230 = .ok (.ifCond .eq 16, 3) := by decide +kernel
theorem dL_isAhead_233 : decode cL_isAhead 233 = .ok (.aload_n 0, 1) := by decide +kernel
theorem dL_isAhead_234 : decode cL_isAhead 234 = .ok (.invokestatic 43, 3) := by decide +kernel
theorem dL_isAhead_237 : decode cL_isAhead 237 = .ok (.lload_n 1, 1) := by decide +kernel
theorem dL_isAhead_238 : decode cL_isAhead 238 = .ok (.lcmp, 1) := by decide +kernel
theorem dL_isAhead_239 : decode cL_isAhead 239 = .ok (.ifCond .ne 7, 3) := by decide +kernel
theorem dL_isAhead_242 : decode cL_isAhead 242 = .ok (.iconst 1, 1) := by decide +kernel
theorem dL_isAhead_243 : decode cL_isAhead 243 = .ok (.goto 4, 3) := by decide +kernel
theorem dL_isAhead_246 : decode cL_isAhead 246 = .ok (.iconst 0, 1) := by decide +kernel
theorem dL_isAhead_247 : decode cL_isAhead 247 = .ok (.ireturn, 1) := by decide +kernel
theorem dL_law_0 : decode cL_law 0 = .ok (.new 14, 3) := by decide +kernel
theorem dL_law_3 : decode cL_law 3 = .ok (.dup, 1) := by decide +kernel
theorem dL_law_4 : decode cL_law 4 = .ok (.invokespecial 110, 3) := by decide +kernel
theorem dL_law_7 : decode cL_law 7 = .ok (.astore_n 1, 1) := by decide +kernel
theorem dL_law_8 : decode cL_law 8 = .ok (.aload_n 1, 1) := by decide +kernel
theorem dL_law_9 : decode cL_law 9 = .ok (.invokevirtual 104, 3) := by decide +kernel
theorem dL_law_12 : decode cL_law 12 = .ok (.bipush (-2), 2) := by decide +kernel
theorem dL_law_14 : decode cL_law 14 = .ok (.if_icmp .ne 72, 3) := by decide +kernel
theorem dL_law_17 : decode cL_law 17 = .ok (.aload_n 1, 1) := by decide +kernel
theorem dL_law_18 : decode cL_law 18 = .ok (.iconst 5, 1) := by decide +kernel
theorem dL_law_19 : decode cL_law 19 = .ok (.invokevirtual 13, 3) := by decide +kernel
theorem dL_law_22 : decode cL_law 22 = .ok (.iconst 2, 1) := by decide +kernel
theorem dL_law_23 : decode cL_law 23 = .ok (.if_icmp .ne 63, 3) := by decide +kernel
theorem dL_law_26 : decode cL_law 26 = .ok (.aload_n 1, 1) := by decide +kernel
theorem dL_law_27 : decode cL_law 27 = .ok (.bipush 20, 2) := by decide +kernel
theorem dL_law_29 : decode cL_law 29 = .ok (.invokevirtual 13, 3) := by decide +kernel
theorem dL_law_32 : decode cL_law 32 = .ok (.sipush 5000, 3) := by decide +kernel
theorem dL_law_35 : decode cL_law 35 = .ok (.if_icmp .ne 51, 3) := by decide +kernel
theorem dL_law_38 : decode cL_law 38 = .ok (.aload_n 1, 1) := by decide +kernel
theorem dL_law_39 : decode cL_law 39 = .ok (.bipush 21, 2) := by decide +kernel
theorem dL_law_41 : decode cL_law 41 = .ok (.invokevirtual 13, 3) := by decide +kernel
theorem dL_law_44 : decode cL_law 44 = .ok (.bipush 30, 2) := by decide +kernel
theorem dL_law_46 : decode cL_law 46 = .ok (.if_icmp .ne 40, 3) := by decide +kernel
theorem dL_law_49 : decode cL_law 49 = .ok (.aload_n 1, 1) := by decide +kernel
theorem dL_law_50 : decode cL_law 50 = .ok (.invokevirtual 107, 3) := by decide +kernel
theorem dL_law_53 : decode cL_law 53 = .ok (.ifCond .ne 33, 3) := by decide +kernel
theorem dL_law_56 : decode cL_law 56 = .ok (.aload_n 1, 1) := by decide +kernel
theorem dL_law_57 : decode cL_law 57 = .ok (.invokevirtual 100, 3) := by decide +kernel
theorem dL_law_60 : decode cL_law 60 = .ok (.bipush (-4), 2) := by decide +kernel
theorem dL_law_62 : decode cL_law 62 = .ok (.if_icmp .ne 24, 3) := by decide +kernel
theorem dL_law_65 : decode cL_law 65 = .ok (.aload_n 1, 1) := by decide +kernel
theorem dL_law_66 : decode cL_law 66 = .ok (.iconst 0, 1) := by decide +kernel
theorem dL_law_67 : decode cL_law 67 = .ok (.invokevirtual 92, 3) := by decide +kernel
theorem dL_law_70 : decode cL_law 70 = .ok (.bipush (-4), 2) := by decide +kernel
theorem dL_law_72 : decode cL_law 72 = .ok (.if_icmp .ne 14, 3) := by decide +kernel
theorem dL_law_75 : decode cL_law 75 = .ok (.aload_n 1, 1) := by decide +kernel
theorem dL_law_76 : decode cL_law 76 = .ok (.invokestatic 111, 3) := by decide +kernel
theorem dL_law_79 : decode cL_law 79 = .ok (.ifCond .eq 7, 3) := by decide +kernel
theorem dL_law_82 : decode cL_law 82 = .ok (.iconst 1, 1) := by decide +kernel
theorem dL_law_83 : decode cL_law 83 = .ok (.goto 4, 3) := by decide +kernel
theorem dL_law_86 : decode cL_law 86 = .ok (.iconst 0, 1) := by decide +kernel
theorem dL_law_87 : decode cL_law 87 = .ok (.istore_n 2, 1) := by decide +kernel
theorem dL_law_88 : decode cL_law 88 = .ok (.iconst 0, 1) := by decide +kernel
theorem dL_law_89 : decode cL_law 89 = .ok (.istore_n 3, 1) := by decide +kernel
theorem dL_law_90 : decode cL_law 90 = .ok (.iload_n 3, 1) := by decide +kernel
theorem dL_law_91 : decode cL_law 91 = .ok (.bipush 30, 2) := by decide +kernel
theorem dL_law_93 : decode cL_law 93 = .ok (.if_icmp .ge 952, 3) := by decide +kernel
theorem dL_law_96 : decode cL_law 96 = .ok (.iload_n 2, 1) := by decide +kernel
theorem dL_law_97 : decode cL_law 97 = .ok (.ifCond .eq 948, 3) := by decide +kernel
theorem dL_law_100 : decode cL_law 100 = .ok (.aload_n 0, 1) := by decide +kernel
theorem dL_law_101 : decode cL_law 101 = .ok (.iload_n 3, 1) := by decide +kernel
theorem dL_law_102 : decode cL_law 102 = .ok (.invokestatic 115, 3) := by decide +kernel
theorem dL_law_105 : decode cL_law 105 = .ok (.istore 4, 2) := by decide +kernel
theorem dL_law_107 : decode cL_law 107 = .ok (.iload 4, 2) := by decide +kernel
theorem dL_law_109 : decode cL_law 109 = .ok (.iconst 5, 1) := by decide +kernel
theorem dL_law_110 : decode cL_law 110 = .ok (.ishr, 1) := by decide +kernel
theorem dL_law_111 : decode cL_law 111 = .ok (.sipush 8192, 3) := by decide +kernel
theorem dL_law_114 : decode cL_law 114 = .ok (.invokestatic 119, 3) := by decide +kernel
theorem dL_law_117 : decode cL_law 117 = .ok (.istore 5, 2) := by decide +kernel
theorem dL_law_119 : decode cL_law 119 = .ok (.iload 4, 2) := by decide +kernel
theorem dL_law_121 : decode cL_law 121 = .ok (.bipush 11, 2) := by decide +kernel
theorem dL_law_123 : decode cL_law 123 = .ok (.ishr, 1) := by decide +kernel
theorem dL_law_124 : decode cL_law 124 = .ok (.sipush 8192, 3) := by decide +kernel
theorem dL_law_127 : decode cL_law 127 = .ok (.invokestatic 119, 3) := by decide +kernel
theorem dL_law_130 : decode cL_law 130 = .ok (.istore 6, 2) := by decide +kernel
theorem dL_law_132 : decode cL_law 132 = .ok (.aload_n 1, 1) := by decide +kernel
theorem dL_law_133 : decode cL_law 133 = .ok (.iconst 0, 1) := by decide +kernel
theorem dL_law_134 : decode cL_law 134 = .ok (.invokevirtual 13, 3) := by decide +kernel
theorem dL_law_137 : decode cL_law 137 = .ok (.ifCond .ne 7, 3) := by decide +kernel
theorem dL_law_140 : decode cL_law 140 = .ok (.iconst 0, 1) := by decide +kernel
theorem dL_law_141 : decode cL_law 141 = .ok (.goto 11, 3) := by decide +kernel
theorem dL_law_144 : decode cL_law 144 = .ok (.iload 5, 2) := by decide +kernel
theorem dL_law_146 : decode cL_law 146 = .ok (.aload_n 1, 1) := by decide +kernel
theorem dL_law_147 : decode cL_law 147 = .ok (.iconst 0, 1) := by decide +kernel
theorem dL_law_148 : decode cL_law 148 = .ok (.invokevirtual 13, 3) := by decide +kernel
theorem dL_law_151 : decode cL_law 151 = .ok (.irem, 1) := by decide +kernel
theorem dL_law_152 : decode cL_law 152 = .ok (.istore 7, 2) := by decide +kernel
theorem dL_law_154 : decode cL_law 154 = .ok (.aload_n 1, 1) := by decide +kernel
theorem dL_law_155 : decode cL_law 155 = .ok (.iconst 1, 1) := by decide +kernel
theorem dL_law_156 : decode cL_law 156 = .ok (.invokevirtual 13, 3) := by decide +kernel
theorem dL_law_159 : decode cL_law 159 = .ok (.ifCond .ne 7, 3) := by decide +kernel
theorem dL_law_162 : decode cL_law 162 = .ok (.iconst 0, 1) := by decide +kernel
theorem dL_law_163 : decode cL_law 163 = .ok (.goto 11, 3) := by decide +kernel
theorem dL_law_166 : decode cL_law 166 = .ok (.iload 6, 2) := by decide +kernel
theorem dL_law_168 : decode cL_law 168 = .ok (.aload_n 1, 1) := by decide +kernel
theorem dL_law_169 : decode cL_law 169 = .ok (.iconst 1, 1) := by decide +kernel
theorem dL_law_170 : decode cL_law 170 = .ok (.invokevirtual 13, 3) := by decide +kernel
theorem dL_law_173 : decode cL_law 173 = .ok (.irem, 1) := by decide +kernel
theorem dL_law_174 : decode cL_law 174 = .ok (.istore 8, 2) := by decide +kernel
