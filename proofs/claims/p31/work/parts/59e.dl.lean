theorem dL_refused_673 : decode cL_refused 673 = .ok (.ifCond .eq 62, 3) := by decide +kernel
theorem dL_refused_676 : decode cL_refused 676 = .ok (.iload 4, 2) := by decide +kernel
theorem dL_refused_678 : decode cL_refused 678 = .ok (.bipush 8, 2) := by decide +kernel
theorem dL_refused_680 : decode cL_refused 680 = .ok (.if_icmp .lt 13, 3) := by decide +kernel
theorem dL_refused_683 : decode cL_refused 683 = .ok (.aload_n 0, 1) := by decide +kernel
theorem dL_refused_684 : decode cL_refused 684 = .ok (.iconst 1, 1) := by decide +kernel
theorem dL_refused_685 : decode cL_refused 685 = .ok (.invokevirtual 49, 3) := by decide +kernel
theorem dL_refused_688 : decode cL_refused 688 = .ok (.bipush (-3), 2) := by decide +kernel
theorem dL_refused_690 : decode cL_refused 690 = .ok (.if_icmp .ne 45, 3) := by decide +kernel
theorem dL_refused_693 : decode cL_refused 693 = .ok (.iload 4, 2) := by decide +kernel
theorem dL_refused_695 : decode cL_refused 695 = .ok (.bipush 8, 2) := by decide +kernel
theorem dL_refused_697 : decode cL_refused 697 = .ok (.if_icmp .eq 14, 3) := by decide +kernel
theorem dL_refused_700 : decode cL_refused 700 = .ok (.aload_n 0, 1) := by decide +kernel
theorem dL_refused_701 : decode cL_refused 701 = .ok (.iconst 0, 1) := by decide +kernel
theorem dL_refused_702 : decode cL_refused 702 = .ok (.bipush 7, 2) := by decide +kernel
theorem dL_refused_704 : decode cL_refused 704 = .ok (.invokevirtual 21, 3) := by decide +kernel
theorem dL_refused_707 : decode cL_refused 707 = .ok (.iconst (-1), 1) := by decide +kernel
theorem dL_refused_708 : decode cL_refused 708 = .ok (.if_icmp .ne 27, 3) := by decide +kernel
theorem dL_refused_711 : decode cL_refused 711 = .ok (.aload_n 0, 1) := by decide +kernel
theorem dL_refused_712 : decode cL_refused 712 = .ok (.bipush 9, 2) := by decide +kernel
theorem dL_refused_714 : decode cL_refused 714 = .ok (.invokevirtual 13, 3) := by decide +kernel
theorem dL_refused_717 : decode cL_refused 717 = .ok (.iload 5, 2) := by decide +kernel
theorem dL_refused_719 : decode cL_refused 719 = .ok (.if_icmp .ne 16, 3) := by decide +kernel
theorem dL_refused_722 : decode cL_refused 722 = .ok (.aload_n 0, 1) := by decide +kernel
theorem dL_refused_723 : decode cL_refused 723 = .ok (.invokestatic 43, 3) := by decide +kernel
theorem dL_refused_726 : decode cL_refused 726 = .ok (.lload_n 1, 1) := by decide +kernel
theorem dL_refused_727 : decode cL_refused 727 = .ok (.lcmp, 1) := by decide +kernel
theorem dL_refused_728 : decode cL_refused 728 = .ok (.ifCond .ne 7, 3) := by decide +kernel
theorem dL_refused_731 : decode cL_refused 731 = .ok (.iconst 1, 1) := by decide +kernel
theorem dL_refused_732 : decode cL_refused 732 = .ok (.goto 4, 3) := by decide +kernel
theorem dL_refused_735 : decode cL_refused 735 = .ok (.iconst 0, 1) := by decide +kernel
theorem dL_refused_736 : decode cL_refused 736 = .ok (.ireturn, 1) := by decide +kernel
theorem dL_addsUp_0 : decode cL_addsUp 0 = .ok (.iconst 0, 1) := by decide +kernel
theorem dL_addsUp_1 : decode cL_addsUp 1 = .ok (.istore_n 1, 1) := by decide +kernel
theorem dL_addsUp_2 : decode cL_addsUp 2 = .ok (.iconst 0, 1) := by decide +kernel
theorem dL_addsUp_3 : decode cL_addsUp 3 = .ok (.istore_n 2, 1) := by decide +kernel
theorem dL_addsUp_4 : decode cL_addsUp 4 = .ok (.iconst 1, 1) := by decide +kernel
theorem dL_addsUp_5 : decode cL_addsUp 5 = .ok (.istore_n 3, 1) := by decide +kernel
theorem dL_addsUp_6 : decode cL_addsUp 6 = .ok (.iconst 0, 1) := by decide +kernel
theorem dL_addsUp_7 : decode cL_addsUp 7 = .ok (.istore 4, 2) := by decide +kernel
theorem dL_addsUp_9 : decode cL_addsUp 9 = .ok (.iload 4, 2) := by decide +kernel
theorem dL_addsUp_11 : decode cL_addsUp 11 = .ok (.aload_n 0, 1) := by decide +kernel
theorem dL_addsUp_12 : decode cL_addsUp 12 = .ok (.iconst 0, 1) := by decide +kernel
theorem dL_addsUp_13 : decode cL_addsUp 13 = .ok (.invokevirtual 13, 3) := by decide +kernel
theorem dL_addsUp_16 : decode cL_addsUp 16 = .ok (.if_icmp .ge 147, 3) := by decide +kernel
theorem dL_addsUp_19 : decode cL_addsUp 19 = .ok (.iload_n 3, 1) := by decide +kernel
theorem dL_addsUp_20 : decode cL_addsUp 20 = .ok (.ifCond .eq 143, 3) := by decide +kernel
theorem dL_addsUp_23 : decode cL_addsUp 23 = .ok (.aload_n 0, 1) := by decide +kernel
theorem dL_addsUp_24 : decode cL_addsUp 24 = .ok (.iload 4, 2) := by decide +kernel
theorem dL_addsUp_26 : decode cL_addsUp 26 = .ok (.bipush 8, 2) := by decide +kernel
theorem dL_addsUp_28 : decode cL_addsUp 28 = .ok (.invokevirtual 21, 3) := by decide +kernel
theorem dL_addsUp_31 : decode cL_addsUp 31 = .ok (.istore 5, 2) := by decide +kernel
theorem dL_addsUp_33 : decode cL_addsUp 33 = .ok (.aload_n 0, 1) := by decide +kernel
theorem dL_addsUp_34 : decode cL_addsUp 34 = .ok (.iload 4, 2) := by decide +kernel
theorem dL_addsUp_36 : decode cL_addsUp 36 = .ok (.bipush 9, 2) := by decide +kernel
theorem dL_addsUp_38 : decode cL_addsUp 38 = .ok (.invokevirtual 21, 3) := by decide +kernel
theorem dL_addsUp_41 : decode cL_addsUp 41 = .ok (.istore 6, 2) := by decide +kernel
theorem dL_addsUp_43 : decode cL_addsUp 43 = .ok (.iload_n 1, 1) := by decide +kernel
theorem dL_addsUp_44 : decode cL_addsUp 44 = .ok (.iload 5, 2) := by decide +kernel
theorem dL_addsUp_46 : decode cL_addsUp 46 = .ok (.iconst 1, 1) := by decide +kernel
theorem dL_addsUp_47 : decode cL_addsUp 47 = .ok (.if_icmp .ne 7, 3) := by decide +kernel
theorem dL_addsUp_50 : decode cL_addsUp 50 = .ok (.iconst 1, 1) := by decide +kernel
theorem dL_addsUp_51 : decode cL_addsUp 51 = .ok (.goto 4, 3) := by decide +kernel
theorem dL_addsUp_54 : decode cL_addsUp 54 = .ok (.iconst 0, 1) := by decide +kernel
theorem dL_addsUp_55 : decode cL_addsUp 55 = .ok (.iadd, 1) := by decide +kernel
theorem dL_addsUp_56 : decode cL_addsUp 56 = .ok (.istore_n 1, 1) := by decide +kernel
theorem dL_addsUp_57 : decode cL_addsUp 57 = .ok (.iload_n 2, 1) := by decide +kernel
theorem dL_addsUp_58 : decode cL_addsUp 58 = .ok (.iload 5, 2) := by decide +kernel
theorem dL_addsUp_60 : decode cL_addsUp 60 = .ok (.iconst 2, 1) := by decide +kernel
theorem dL_addsUp_61 : decode cL_addsUp 61 = .ok (.if_icmp .ne 7, 3) := by decide +kernel
theorem dL_addsUp_64 : decode cL_addsUp 64 = .ok (.iconst 1, 1) := by decide +kernel
theorem dL_addsUp_65 : decode cL_addsUp 65 = .ok (.goto 4, 3) := by decide +kernel
theorem dL_addsUp_68 : decode cL_addsUp 68 = .ok (.iconst 0, 1) := by decide +kernel
theorem dL_addsUp_69 : decode cL_addsUp 69 = .ok (.iadd, 1) := by decide +kernel
theorem dL_addsUp_70 : decode cL_addsUp 70 = .ok (.istore_n 2, 1) := by decide +kernel
theorem dL_addsUp_71 : decode cL_addsUp 71 = .ok (.iload 5, 2) := by decide +kernel
theorem dL_addsUp_73 : decode cL_addsUp 73 = .ok (.ifCond .ne 7, 3) := by decide +kernel
theorem dL_addsUp_76 : decode cL_addsUp 76 = .ok (.iconst 1, 1) := by decide +kernel
theorem dL_addsUp_77 : decode cL_addsUp 77 = .ok (.goto 4, 3) := by decide +kernel
theorem dL_addsUp_80 : decode cL_addsUp 80 = .ok (.iconst 0, 1) := by decide +kernel
theorem dL_addsUp_81 : decode cL_addsUp 81 = .ok (.aload_n 0, 1) := by decide +kernel
theorem dL_addsUp_82 : decode cL_addsUp 82 = .ok (.iconst 5, 1) := by decide +kernel
theorem dL_addsUp_83 : decode cL_addsUp 83 = .ok (.invokevirtual 13, 3) := by decide +kernel
theorem dL_addsUp_86 : decode cL_addsUp 86 = .ok (.ifCond .ne 7, 3) := by decide +kernel
theorem dL_addsUp_89 : decode cL_addsUp 89 = .ok (.iconst 1, 1) := by decide +kernel
theorem dL_addsUp_90 : decode cL_addsUp 90 = .ok (.goto 4, 3) := by decide +kernel
theorem dL_addsUp_93 : decode cL_addsUp 93 = .ok (.iconst 0, 1) := by decide +kernel
theorem dL_addsUp_94 : decode cL_addsUp 94 = .ok (.if_icmp .ne 61, 3) := by decide +kernel
theorem dL_addsUp_97 : decode cL_addsUp 97 = .ok (.iload 6, 2) := by decide +kernel
theorem dL_addsUp_99 : decode cL_addsUp 99 = .ok (.bipush (-4), 2) := by decide +kernel
theorem dL_addsUp_101 : decode cL_addsUp 101 = .ok (.if_icmp .ne 7, 3) := by decide +kernel
theorem dL_addsUp_104 : decode cL_addsUp 104 = .ok (.iconst 1, 1) := by decide +kernel
theorem dL_addsUp_105 : decode cL_addsUp 105 = .ok (.goto 4, 3) := by decide +kernel
theorem dL_addsUp_108 : decode cL_addsUp 108 = .ok (.iconst 0, 1) := by decide +kernel
theorem dL_addsUp_109 : decode cL_addsUp 109 = .ok (.iload 5, 2) := by decide +kernel
theorem dL_addsUp_111 : decode cL_addsUp 111 = .ok (.iconst 1, 1) := by decide +kernel
theorem dL_addsUp_112 : decode cL_addsUp 112 = .ok (.if_icmp .eq 7, 3) := by decide +kernel
theorem dL_addsUp_115 : decode cL_addsUp 115 = .ok (.iconst 1, 1) := by decide +kernel
theorem dL_addsUp_116 : decode cL_addsUp 116 = .ok (.goto 4, 3) := by decide +kernel
theorem dL_addsUp_119 : decode cL_addsUp 119 = .ok (.iconst 0, 1) := by decide +kernel
theorem dL_addsUp_120 : decode cL_addsUp 120 = .ok (.if_icmp .ne 35, 3) := by decide +kernel
theorem dL_addsUp_123 : decode cL_addsUp 123 = .ok (.iload 5, 2) := by decide +kernel
theorem dL_addsUp_125 : decode cL_addsUp 125 = .ok (.iconst 1, 1) := by decide +kernel
theorem dL_addsUp_126 : decode cL_addsUp 126 = .ok (.if_icmp .ne 25, 3) := by decide +kernel
theorem dL_addsUp_129 : decode cL_addsUp 129 = .ok (.aload_n 0, 1) := by decide +kernel
theorem dL_addsUp_130 : decode cL_addsUp 130 = .ok (.iload 6, 2) := by decide +kernel
theorem dL_addsUp_132 : decode cL_addsUp 132 = .ok (.iconst 0, 1) := by decide +kernel
theorem dL_addsUp_133 : decode cL_addsUp 133 = .ok (.invokevirtual 37, 3) := by decide +kernel
theorem dL_addsUp_136 : decode cL_addsUp 136 = .ok (.iload 4, 2) := by decide +kernel
theorem dL_addsUp_138 : decode cL_addsUp 138 = .ok (.if_icmp .ne 17, 3) := by decide +kernel
theorem dL_addsUp_141 : decode cL_addsUp 141 = .ok (.aload_n 0, 1) := by decide +kernel
theorem dL_addsUp_142 : decode cL_addsUp 142 = .ok (.iload 6, 2) := by decide +kernel
theorem dL_addsUp_144 : decode cL_addsUp 144 = .ok (.iconst 2, 1) := by decide +kernel
theorem dL_addsUp_145 : decode cL_addsUp 145 = .ok (.invokevirtual 37, 3) := by decide +kernel
theorem dL_addsUp_148 : decode cL_addsUp 148 = .ok (.ifCond .ne 7, 3) := by decide +kernel
theorem dL_addsUp_151 : decode cL_addsUp 151 = .ok (.iconst 1, 1) := by decide +kernel
theorem dL_addsUp_152 : decode cL_addsUp 152 = .ok (.goto 4, 3) := by decide +kernel
theorem dL_addsUp_155 : decode cL_addsUp 155 = .ok (.iconst 0, 1) := by decide +kernel
theorem dL_addsUp_156 : decode cL_addsUp 156 = .ok (.istore_n 3, 1) := by decide +kernel
theorem dL_addsUp_157 : decode cL_addsUp 157 = .ok (.iinc 4 1, 3) := by decide +kernel
theorem dL_addsUp_160 : decode cL_addsUp 160 = .ok (.goto (-151), 3) := by decide +kernel
theorem dL_addsUp_163 : decode cL_addsUp 163 = .ok (.iconst 0, 1) := by decide +kernel
theorem dL_addsUp_164 : decode cL_addsUp 164 = .ok (.istore 4, 2) := by decide +kernel
theorem dL_addsUp_166 : decode cL_addsUp 166 = .ok (.iconst 1, 1) := by decide +kernel
theorem dL_addsUp_167 : decode cL_addsUp 167 = .ok (.istore 5, 2) := by decide +kernel
theorem dL_addsUp_169 : decode cL_addsUp 169 = .ok (.iload 5, 2) := by decide +kernel
theorem dL_addsUp_171 : decode cL_addsUp 171 = .ok (.aload_n 0, 1) := by decide +kernel
theorem dL_addsUp_172 : decode cL_addsUp 172 = .ok (.iconst 4, 1) := by decide +kernel
theorem dL_addsUp_173 : decode cL_addsUp 173 = .ok (.invokevirtual 13, 3) := by decide +kernel
theorem dL_addsUp_176 : decode cL_addsUp 176 = .ok (.if_icmp .gt 90, 3) := by decide +kernel
theorem dL_addsUp_179 : decode cL_addsUp 179 = .ok (.iload_n 3, 1) := by decide +kernel
theorem dL_addsUp_180 : decode cL_addsUp 180 = .ok (.ifCond .eq 86, 3) := by decide +kernel
theorem dL_addsUp_183 : decode cL_addsUp 183 = .ok (.iload 4, 2) := by decide +kernel
theorem dL_addsUp_185 : decode cL_addsUp 185 = .ok (.aload_n 0, 1) := by decide +kernel
theorem dL_addsUp_186 : decode cL_addsUp 186 = .ok (.iload 5, 2) := by decide +kernel
theorem dL_addsUp_188 : decode cL_addsUp 188 = .ok (.iconst 2, 1) := by decide +kernel
theorem dL_addsUp_189 : decode cL_addsUp 189 = .ok (.invokevirtual 37, 3) := by decide +kernel
theorem dL_addsUp_192 : decode cL_addsUp 192 = .ok (.ifCond .ne 7, 3) := by decide +kernel
theorem dL_addsUp_195 : decode cL_addsUp 195 = .ok (.iconst 1, 1) := by decide +kernel
theorem dL_addsUp_196 : decode cL_addsUp 196 = .ok (.goto 4, 3) := by decide +kernel
theorem dL_addsUp_199 : decode cL_addsUp 199 = .ok (.iconst 0, 1) := by decide +kernel
theorem dL_addsUp_200 : decode cL_addsUp 200 = .ok (.iadd, 1) := by decide +kernel
theorem dL_addsUp_201 : decode cL_addsUp 201 = .ok (.istore 4, 2) := by decide +kernel
theorem dL_addsUp_203 : decode cL_addsUp 203 = .ok (.aload_n 0, 1) := by decide +kernel
theorem dL_addsUp_204 : decode cL_addsUp 204 = .ok (.iload 5, 2) := by decide +kernel
