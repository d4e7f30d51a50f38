theorem dL_cell_0 : decode cL_cell 0 = .ok (.iload_n 1, 1) := by decide +kernel
theorem dL_cell_1 : decode cL_cell 1 = .ok (.aload_n 0, 1) := by decide +kernel
theorem dL_cell_2 : decode cL_cell 2 = .ok (.arraylength, 1) := by decide +kernel
theorem dL_cell_3 : decode cL_cell 3 = .ok (.if_icmp .ge 9, 3) := by decide +kernel
theorem dL_cell_6 : decode cL_cell 6 = .ok (.aload_n 0, 1) := by decide +kernel
theorem dL_cell_7 : decode cL_cell 7 = .ok (.iload_n 1, 1) := by decide +kernel
theorem dL_cell_8 : decode cL_cell 8 = .ok (.iaload, 1) := by decide +kernel
theorem dL_cell_9 : decode cL_cell 9 = .ok (.goto 9, 3) := by decide +kernel
theorem dL_cell_12 : decode cL_cell 12 = .ok (.ldc 7, 2) := by decide +kernel
theorem dL_cell_14 : decode cL_cell 14 = .ok (.iload_n 1, 1) := by decide +kernel
theorem dL_cell_15 : decode cL_cell 15 = .ok (.iconst 1, 1) := by decide +kernel
theorem dL_cell_16 : decode cL_cell 16 = .ok (.iadd, 1) := by decide +kernel
theorem dL_cell_17 : decode cL_cell 17 = .ok (.imul, 1) := by decide +kernel
theorem dL_cell_18 : decode cL_cell 18 = .ok (.ireturn, 1) := by decide +kernel
theorem dL_low_0 : decode cL_low 0 = .ok (.iload_n 0, 1) := by decide +kernel
theorem dL_low_1 : decode cL_low 1 = .ok (.ldc 8, 2) := by decide +kernel
theorem dL_low_3 : decode cL_low 3 = .ok (.iand, 1) := by decide +kernel
theorem dL_low_4 : decode cL_low 4 = .ok (.iload_n 1, 1) := by decide +kernel
theorem dL_low_5 : decode cL_low 5 = .ok (.irem, 1) := by decide +kernel
theorem dL_low_6 : decode cL_low 6 = .ok (.ireturn, 1) := by decide +kernel
theorem dL_print_0 : decode cL_print 0 = .ok (.ldc2_w 9, 3) := by decide +kernel
theorem dL_print_3 : decode cL_print 3 = .ok (.lstore_n 1, 1) := by decide +kernel
theorem dL_print_4 : decode cL_print 4 = .ok (.iconst 0, 1) := by decide +kernel
theorem dL_print_5 : decode cL_print 5 = .ok (.istore_n 3, 1) := by decide +kernel
theorem dL_print_6 : decode cL_print 6 = .ok (.iload_n 3, 1) := by decide +kernel
theorem dL_print_7 : decode cL_print 7 = .ok (.bipush 9, 2) := by decide +kernel
theorem dL_print_9 : decode cL_print 9 = .ok (.if_icmp .ge 22, 3) := by decide +kernel
theorem dL_print_12 : decode cL_print 12 = .ok (.ldc2_w 11, 3) := by decide +kernel
theorem dL_print_15 : decode cL_print 15 = .ok (.lload_n 1, 1) := by decide +kernel
theorem dL_print_16 : decode cL_print 16 = .ok (.lmul, 1) := by decide +kernel
theorem dL_print_17 : decode cL_print 17 = .ok (.aload_n 0, 1) := by decide +kernel
theorem dL_print_18 : decode cL_print 18 = .ok (.iload_n 3, 1) := by decide +kernel
theorem dL_print_19 : decode cL_print 19 = .ok (.invokevirtual 13, 3) := by decide +kernel
theorem dL_print_22 : decode cL_print 22 = .ok (.i2l, 1) := by decide +kernel
theorem dL_print_23 : decode cL_print 23 = .ok (.ladd, 1) := by decide +kernel
theorem dL_print_24 : decode cL_print 24 = .ok (.lstore_n 1, 1) := by decide +kernel
theorem dL_print_25 : decode cL_print 25 = .ok (.iinc 3 1, 3) := by decide +kernel
theorem dL_print_28 : decode cL_print 28 = .ok (.goto (-22), 3) := by decide +kernel
theorem dL_print_31 : decode cL_print 31 = .ok (.ldc2_w 11, 3) := by decide +kernel
theorem dL_print_34 : decode cL_print 34 = .ok (.lload_n 1, 1) := by decide +kernel
theorem dL_print_35 : decode cL_print 35 = .ok (.lmul, 1) := by decide +kernel
theorem dL_print_36 : decode cL_print 36 = .ok (.aload_n 0, 1) := by decide +kernel
theorem dL_print_37 : decode cL_print 37 = .ok (.bipush 20, 2) := by decide +kernel
theorem dL_print_39 : decode cL_print 39 = .ok (.invokevirtual 13, 3) := by decide +kernel
theorem dL_print_42 : decode cL_print 42 = .ok (.i2l, 1) := by decide +kernel
theorem dL_print_43 : decode cL_print 43 = .ok (.ladd, 1) := by decide +kernel
theorem dL_print_44 : decode cL_print 44 = .ok (.ldc2_w 19, 3) := by decide +kernel
theorem dL_print_47 : decode cL_print 47 = .ok (.aload_n 0, 1) := by decide +kernel
theorem dL_print_48 : decode cL_print 48 = .ok (.bipush 21, 2) := by decide +kernel
theorem dL_print_50 : decode cL_print 50 = .ok (.invokevirtual 13, 3) := by decide +kernel
theorem dL_print_53 : decode cL_print 53 = .ok (.i2l, 1) := by decide +kernel
theorem dL_print_54 : decode cL_print 54 = .ok (.lmul, 1) := by decide +kernel
theorem dL_print_55 : decode cL_print 55 = .ok (.ladd, 1) := by decide +kernel
theorem dL_print_56 : decode cL_print 56 = .ok (.lstore_n 1, 1) := by decide +kernel
theorem dL_print_57 : decode cL_print 57 = .ok (.iconst 0, 1) := by decide +kernel
theorem dL_print_58 : decode cL_print 58 = .ok (.istore_n 3, 1) := by decide +kernel
theorem dL_print_59 : decode cL_print 59 = .ok (.iload_n 3, 1) := by decide +kernel
theorem dL_print_60 : decode cL_print 60 = .ok (.aload_n 0, 1) := by decide +kernel
theorem dL_print_61 : decode cL_print 61 = .ok (.iconst 0, 1) := by decide +kernel
theorem dL_print_62 : decode cL_print 62 = .ok (.invokevirtual 13, 3) := by decide +kernel
theorem dL_print_65 : decode cL_print 65 = .ok (.if_icmp .ge 74, 3) := by decide +kernel
theorem dL_print_68 : decode cL_print 68 = .ok (.iconst 0, 1) := by decide +kernel
theorem dL_print_69 : decode cL_print 69 = .ok (.istore 4, 2) := by decide +kernel
theorem dL_print_71 : decode cL_print 71 = .ok (.iload 4, 2) := by decide +kernel
theorem dL_print_73 : decode cL_print 73 = .ok (.bipush 12, 2) := by decide +kernel
theorem dL_print_75 : decode cL_print 75 = .ok (.if_icmp .ge 24, 3) := by decide +kernel
theorem dL_print_78 : decode cL_print 78 = .ok (.ldc2_w 11, 3) := by decide +kernel
theorem dL_print_81 : decode cL_print 81 = .ok (.lload_n 1, 1) := by decide +kernel
theorem dL_print_82 : decode cL_print 82 = .ok (.lmul, 1) := by decide +kernel
theorem dL_print_83 : decode cL_print 83 = .ok (.aload_n 0, 1) := by decide +kernel
theorem dL_print_84 : decode cL_print 84 = .ok (.iload_n 3, 1) := by decide +kernel
theorem dL_print_85 : decode cL_print 85 = .ok (.iload 4, 2) := by decide +kernel
theorem dL_print_87 : decode cL_print 87 = .ok (.invokevirtual 21, 3) := by decide +kernel
theorem dL_print_90 : decode cL_print 90 = .ok (.i2l, 1) := by decide +kernel
theorem dL_print_91 : decode cL_print 91 = .ok (.ladd, 1) := by decide +kernel
theorem dL_print_92 : decode cL_print 92 = .ok (.lstore_n 1, 1) := by decide +kernel
theorem dL_print_93 : decode cL_print 93 = .ok (.iinc 4 1, 3) := by decide +kernel
theorem dL_print_96 : decode cL_print 96 = .ok (.goto (-25), 3) := by decide +kernel
theorem dL_print_99 : decode cL_print 99 = .ok (.iconst 0, 1) := by decide +kernel
theorem dL_print_100 : decode cL_print 100 = .ok (.istore 4, 2) := by decide +kernel
theorem dL_print_102 : decode cL_print 102 = .ok (.iload 4, 2) := by decide +kernel
theorem dL_print_104 : decode cL_print 104 = .ok (.aload_n 0, 1) := by decide +kernel
theorem dL_print_105 : decode cL_print 105 = .ok (.iconst 1, 1) := by decide +kernel
theorem dL_print_106 : decode cL_print 106 = .ok (.invokevirtual 13, 3) := by decide +kernel
theorem dL_print_109 : decode cL_print 109 = .ok (.if_icmp .ge 24, 3) := by decide +kernel
theorem dL_print_112 : decode cL_print 112 = .ok (.ldc2_w 11, 3) := by decide +kernel
theorem dL_print_115 : decode cL_print 115 = .ok (.lload_n 1, 1) := by decide +kernel
theorem dL_print_116 : decode cL_print 116 = .ok (.lmul, 1) := by decide +kernel
theorem dL_print_117 : decode cL_print 117 = .ok (.aload_n 0, 1) := by decide +kernel
theorem dL_print_118 : decode cL_print 118 = .ok (.iload_n 3, 1) := by decide +kernel
theorem dL_print_119 : decode cL_print 119 = .ok (.iload 4, 2) := by decide +kernel
theorem dL_print_121 : decode cL_print 121 = .ok (.invokevirtual 25, 3) := by decide +kernel
theorem dL_print_124 : decode cL_print 124 = .ok (.i2l, 1) := by decide +kernel
theorem dL_print_125 : decode cL_print 125 = .ok (.ladd, 1) := by decide +kernel
theorem dL_print_126 : decode cL_print 126 = .ok (.lstore_n 1, 1) := by decide +kernel
theorem dL_print_127 : decode cL_print 127 = .ok (.iinc 4 1, 3) := by decide +kernel
theorem dL_print_130 : decode cL_print 130 = .ok (.goto (-28), 3) := by decide +kernel
theorem dL_print_133 : decode cL_print 133 = .ok (.iinc 3 1, 3) := by decide +kernel
theorem dL_print_136 : decode cL_print 136 = .ok (.goto (-77), 3) := by decide +kernel
theorem dL_print_139 : decode cL_print 139 = .ok (.iconst 0, 1) := by decide +kernel
theorem dL_print_140 : decode cL_print 140 = .ok (.istore_n 3, 1) := by decide +kernel
theorem dL_print_141 : decode cL_print 141 = .ok (.iload_n 3, 1) := by decide +kernel
theorem dL_print_142 : decode cL_print 142 = .ok (.aload_n 0, 1) := by decide +kernel
theorem dL_print_143 : decode cL_print 143 = .ok (.iconst 1, 1) := by decide +kernel
theorem dL_print_144 : decode cL_print 144 = .ok (.invokevirtual 13, 3) := by decide +kernel
theorem dL_print_147 : decode cL_print 147 = .ok (.if_icmp .ge 53, 3) := by decide +kernel
theorem dL_print_150 : decode cL_print 150 = .ok (.iconst 0, 1) := by decide +kernel
theorem dL_print_151 : decode cL_print 151 = .ok (.istore 4, 2) := by decide +kernel
theorem dL_print_153 : decode cL_print 153 = .ok (.iload 4, 2) := by decide +kernel
theorem dL_print_155 : decode cL_print 155 = .ok (.bipush 7, 2) := by decide +kernel
theorem dL_print_157 : decode cL_print 157 = .ok (.if_icmp .ge 24, 3) := by decide +kernel
theorem dL_print_160 : decode cL_print 160 = .ok (.ldc2_w 11, 3) := by decide +kernel
theorem dL_print_163 : decode cL_print 163 = .ok (.lload_n 1, 1) := by decide +kernel
theorem dL_print_164 : decode cL_print 164 = .ok (.lmul, 1) := by decide +kernel
theorem dL_print_165 : decode cL_print 165 = .ok (.aload_n 0, 1) := by decide +kernel
theorem dL_print_166 : decode cL_print 166 = .ok (.iload_n 3, 1) := by decide +kernel
theorem dL_print_167 : decode cL_print 167 = .ok (.iload 4, 2) := by decide +kernel
theorem dL_print_169 : decode cL_print 169 = .ok (.invokevirtual 28, 3) := by decide +kernel
theorem dL_print_172 : decode cL_print 172 = .ok (.i2l, 1) := by decide +kernel
theorem dL_print_173 : decode cL_print 173 = .ok (.ladd, 1) := by decide +kernel
theorem dL_print_174 : decode cL_print 174 = .ok (.lstore_n 1, 1) := by decide +kernel
theorem dL_print_175 : decode cL_print 175 = .ok (.iinc 4 1, 3) := by decide +kernel
theorem dL_print_178 : decode cL_print 178 = .ok (.goto (-25), 3) := by decide +kernel
theorem dL_print_181 : decode cL_print 181 = .ok (.ldc2_w 11, 3) := by decide +kernel
theorem dL_print_184 : decode cL_print 184 = .ok (.lload_n 1, 1) := by decide +kernel
theorem dL_print_185 : decode cL_print 185 = .ok (.lmul, 1) := by decide +kernel
theorem dL_print_186 : decode cL_print 186 = .ok (.aload_n 0, 1) := by decide +kernel
theorem dL_print_187 : decode cL_print 187 = .ok (.iload_n 3, 1) := by decide +kernel
theorem dL_print_188 : decode cL_print 188 = .ok (.invokevirtual 31, 3) := by decide +kernel
theorem dL_print_191 : decode cL_print 191 = .ok (.i2l, 1) := by decide +kernel
theorem dL_print_192 : decode cL_print 192 = .ok (.ladd, 1) := by decide +kernel
theorem dL_print_193 : decode cL_print 193 = .ok (.lstore_n 1, 1) := by decide +kernel
theorem dL_print_194 : decode cL_print 194 = .ok (.iinc 3 1, 3) := by decide +kernel
theorem dL_print_197 : decode cL_print 197 = .ok (.goto (-56), 3) := by decide +kernel
theorem dL_print_200 : decode cL_print 200 = .ok (.iconst 0, 1) := by decide +kernel
theorem dL_print_201 : decode cL_print 201 = .ok (.istore_n 3, 1) := by decide +kernel
theorem dL_print_202 : decode cL_print 202 = .ok (.iload_n 3, 1) := by decide +kernel
theorem dL_print_203 : decode cL_print 203 = .ok (.aload_n 0, 1) := by decide +kernel
theorem dL_print_204 : decode cL_print 204 = .ok (.iconst 2, 1) := by decide +kernel
theorem dL_print_205 : decode cL_print 205 = .ok (.invokevirtual 13, 3) := by decide +kernel
theorem dL_print_208 : decode cL_print 208 = .ok (.if_icmp .ge 40, 3) := by decide +kernel
theorem dL_print_211 : decode cL_print 211 = .ok (.iconst 0, 1) := by decide +kernel
theorem dL_print_212 : decode cL_print 212 = .ok (.istore 4, 2) := by decide +kernel
theorem dL_print_214 : decode cL_print 214 = .ok (.iload 4, 2) := by decide +kernel
theorem dL_print_216 : decode cL_print 216 = .ok (.bipush 6, 2) := by decide +kernel
