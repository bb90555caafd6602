theorem dX13_both_107 : decode cX13_both 107 = .ok (.ireturn, 1) := by decide +kernel
theorem dX13_both_108 : decode cX13_both 108 = .ok (.iload_n 1, 1) := by decide +kernel
theorem dX13_both_109 : decode cX13_both 109 = .ok (.iload_n 2, 1) := by decide +kernel
theorem dX13_both_110 : decode cX13_both 110 = .ok (.invokestatic 77, 3) := by decide +kernel
theorem dX13_both_113 : decode cX13_both 113 = .ok (.ireturn, 1) := by decide +kernel
theorem dX13_both_114 : decode cX13_both 114 = .ok (.iload_n 1, 1) := by decide +kernel
theorem dX13_both_115 : decode cX13_both 115 = .ok (.iload_n 2, 1) := by decide +kernel
theorem dX13_both_116 : decode cX13_both 116 = .ok (.invokestatic 83, 3) := by decide +kernel
theorem dX13_both_119 : decode cX13_both 119 = .ok (.ireturn, 1) := by decide +kernel
theorem dX13_both_120 : decode cX13_both 120 = .ok (.iload_n 1, 1) := by decide +kernel
theorem dX13_both_121 : decode cX13_both 121 = .ok (.iload_n 2, 1) := by decide +kernel
theorem dX13_both_122 : decode cX13_both 122 = .ok (.if_icmp .ge 7, 3) := by decide +kernel
theorem dX13_both_125 : decode cX13_both 125 = .ok (.iconst 1, 1) := by decide +kernel
theorem dX13_both_126 : decode cX13_both 126 = .ok (.goto 4, 3) := by decide +kernel
theorem dX13_both_129 : decode cX13_both 129 = .ok (.iconst 0, 1) := by decide +kernel
theorem dX13_both_130 : decode cX13_both 130 = .ok (.ireturn, 1) := by decide +kernel
theorem dX13_both_131 : decode cX13_both 131 = .ok (.iload_n 1, 1) := by decide +kernel
theorem dX13_both_132 : decode cX13_both 132 = .ok (.iload_n 2, 1) := by decide +kernel
theorem dX13_both_133 : decode cX13_both 133 = .ok (.if_icmp .le 7, 3) := by decide +kernel
theorem dX13_both_136 : decode cX13_both 136 = .ok (.iconst 1, 1) := by decide +kernel
theorem dX13_both_137 : decode cX13_both 137 = .ok (.goto 4, 3) := by decide +kernel
theorem dX13_both_140 : decode cX13_both 140 = .ok (.iconst 0, 1) := by decide +kernel
theorem dX13_both_141 : decode cX13_both 141 = .ok (.ireturn, 1) := by decide +kernel
theorem dX13_both_142 : decode cX13_both 142 = .ok (.iload_n 1, 1) := by decide +kernel
theorem dX13_both_143 : decode cX13_both 143 = .ok (.iload_n 2, 1) := by decide +kernel
theorem dX13_both_144 : decode cX13_both 144 = .ok (.if_icmp .ne 7, 3) := by decide +kernel
theorem dX13_both_147 : decode cX13_both 147 = .ok (.iconst 1, 1) := by decide +kernel
theorem dX13_both_148 : decode cX13_both 148 = .ok (.goto 4, 3) := by decide +kernel
theorem dX13_both_151 : decode cX13_both 151 = .ok (.iconst 0, 1) := by decide +kernel
theorem dX13_both_152 : decode cX13_both 152 = .ok (.ireturn, 1) := by decide +kernel
theorem dX13_both_153 : decode cX13_both 153 = .ok (.iload_n 1, 1) := by decide +kernel
theorem dX13_both_154 : decode cX13_both 154 = .ok (.iload_n 2, 1) := by decide +kernel
theorem dX13_both_155 : decode cX13_both 155 = .ok (.if_icmp .gt 7, 3) := by decide +kernel
theorem dX13_both_158 : decode cX13_both 158 = .ok (.iconst 1, 1) := by decide +kernel
theorem dX13_both_159 : decode cX13_both 159 = .ok (.goto 4, 3) := by decide +kernel
theorem dX13_both_162 : decode cX13_both 162 = .ok (.iconst 0, 1) := by decide +kernel
theorem dX13_both_163 : decode cX13_both 163 = .ok (.ireturn, 1) := by decide +kernel
theorem dX13_both_164 : decode cX13_both 164 = .ok (.iload_n 1, 1) := by decide +kernel
theorem dX13_both_165 : decode cX13_both 165 = .ok (.iload_n 2, 1) := by decide +kernel
theorem dX13_both_166 : decode cX13_both 166 = .ok (.if_icmp .lt 7, 3) := by decide +kernel
theorem dX13_both_169 : decode cX13_both 169 = .ok (.iconst 1, 1) := by decide +kernel
theorem dX13_both_170 : decode cX13_both 170 = .ok (.goto 4, 3) := by decide +kernel
theorem dX13_both_173 : decode cX13_both 173 = .ok (.iconst 0, 1) := by decide +kernel
theorem dX13_both_174 : decode cX13_both 174 = .ok (.ireturn, 1) := by decide +kernel
theorem dX13_both_175 : decode cX13_both 175 = .ok (.iload_n 1, 1) := by decide +kernel
theorem dX13_both_176 : decode cX13_both 176 = .ok (.iload_n 2, 1) := by decide +kernel
theorem dX13_both_177 : decode cX13_both 177 = .ok (.iand, 1) := by decide +kernel
theorem dX13_both_178 : decode cX13_both 178 = .ok (.ireturn, 1) := by decide +kernel
theorem dX13_both_179 : decode cX13_both 179 = .ok (.iload_n 1, 1) := by decide +kernel
theorem dX13_both_180 : decode cX13_both 180 = .ok (.iload_n 2, 1) := by decide +kernel
theorem dX13_both_181 : decode cX13_both 181 = .ok (.ior, 1) := by decide +kernel
theorem dX13_both_182 : decode cX13_both 182 = .ok (.ireturn, 1) := by decide +kernel
theorem dX13_isLetter_0 : decode cX13_isLetter 0 = .ok (.iload_n 0, 1) := by decide +kernel
theorem dX13_isLetter_1 : decode cX13_isLetter 1 = .ok (.bipush 97, 2) := by decide +kernel
theorem dX13_isLetter_3 : decode cX13_isLetter 3 = .ok (.if_icmp .lt 13, 3) := by decide +kernel
theorem dX13_isLetter_6 : decode cX13_isLetter 6 = .ok (.iload_n 0, 1) := by decide +kernel
theorem dX13_isLetter_7 : decode cX13_isLetter 7 = .ok (.bipush 122, 2) := by decide +kernel
theorem dX13_isLetter_9 : decode cX13_isLetter 9 = .ok (.if_icmp .gt 7, 3) := by decide +kernel
theorem dX13_isLetter_12 : decode cX13_isLetter 12 = .ok (.iconst 1, 1) := by decide +kernel
theorem dX13_isLetter_13 : decode cX13_isLetter 13 = .ok (.goto 4, 3) := by decide +kernel
theorem dX13_isLetter_16 : decode cX13_isLetter 16 = .ok (.iconst 0, 1) := by decide +kernel
theorem dX13_isLetter_17 : decode cX13_isLetter 17 = .ok (.ireturn, 1) := by decide +kernel
theorem dX13_isDigit_0 : decode cX13_isDigit 0 = .ok (.iload_n 0, 1) := by decide +kernel
theorem dX13_isDigit_1 : decode cX13_isDigit 1 = .ok (.bipush 48, 2) := by decide +kernel
theorem dX13_isDigit_3 : decode cX13_isDigit 3 = .ok (.if_icmp .lt 13, 3) := by decide +kernel
theorem dX13_isDigit_6 : decode cX13_isDigit 6 = .ok (.iload_n 0, 1) := by decide +kernel
theorem dX13_isDigit_7 : decode cX13_isDigit 7 = .ok (.bipush 57, 2) := by decide +kernel
theorem dX13_isDigit_9 : decode cX13_isDigit 9 = .ok (.if_icmp .gt 7, 3) := by decide +kernel
theorem dX13_isDigit_12 : decode cX13_isDigit 12 = .ok (.iconst 1, 1) := by decide +kernel
theorem dX13_isDigit_13 : decode cX13_isDigit 13 = .ok (.goto 4, 3) := by decide +kernel
theorem dX13_isDigit_16 : decode cX13_isDigit 16 = .ok (.iconst 0, 1) := by decide +kernel
theorem dX13_isDigit_17 : decode cX13_isDigit 17 = .ok (.ireturn, 1) := by decide +kernel
theorem dX13_byteOf_0 : decode cX13_byteOf 0 = .ok (.iload_n 1, 1) := by decide +kernel
theorem dX13_byteOf_1 : decode cX13_byteOf 1 = .ok (.aload_n 0, 1) := by decide +kernel
theorem dX13_byteOf_2 : decode cX13_byteOf 2 = .ok (.getfield 86, 3) := by decide +kernel
theorem dX13_byteOf_5 : decode cX13_byteOf 5 = .ok (.if_icmp .ge 12, 3) := by decide +kernel
theorem dX13_byteOf_8 : decode cX13_byteOf 8 = .ok (.aload_n 0, 1) := by decide +kernel
theorem dX13_byteOf_9 : decode cX13_byteOf 9 = .ok (.getfield 9, 3) := by decide +kernel
theorem dX13_byteOf_12 : decode cX13_byteOf 12 = .ok (.iload_n 1, 1) := by decide +kernel
theorem dX13_byteOf_13 : decode cX13_byteOf 13 = .ok (.iaload, 1) := by decide +kernel
theorem dX13_byteOf_14 : decode cX13_byteOf 14 = .ok (.goto 4, 3) := by decide +kernel
theorem dX13_byteOf_17 : decode cX13_byteOf 17 = .ok (.iconst (-1), 1) := by decide +kernel
theorem dX13_byteOf_18 : decode cX13_byteOf 18 = .ok (.ireturn, 1) := by decide +kernel
theorem dX13_kindAt_0 : decode cX13_kindAt 0 = .ok (.aload_n 0, 1) := by decide +kernel
theorem dX13_kindAt_1 : decode cX13_kindAt 1 = .ok (.iload_n 1, 1) := by decide +kernel
theorem dX13_kindAt_2 : decode cX13_kindAt 2 = .ok (.invokevirtual 89, 3) := by decide +kernel
theorem dX13_kindAt_5 : decode cX13_kindAt 5 = .ok (.istore_n 3, 1) := by decide +kernel
theorem dX13_kindAt_6 : decode cX13_kindAt 6 = .ok (.iload_n 1, 1) := by decide +kernel
theorem dX13_kindAt_7 : decode cX13_kindAt 7 = .ok (.iconst 1, 1) := by decide +kernel
theorem dX13_kindAt_8 : decode cX13_kindAt 8 = .ok (.iadd, 1) := by decide +kernel
theorem dX13_kindAt_9 : decode cX13_kindAt 9 = .ok (.istore 4, 2) := by decide +kernel
theorem dX13_kindAt_11 : decode cX13_kindAt 11 = .ok (.iload_n 3, 1) := by decide +kernel
theorem dX13_kindAt_12 : decode cX13_kindAt 12 = .ok (.iconst (-1), 1) := by decide +kernel
theorem dX13_kindAt_13 : decode cX13_kindAt 13 = .ok (.if_icmp .ne 7, 3) := by decide +kernel
theorem dX13_kindAt_16 : decode cX13_kindAt 16 = .ok (.sipush 900, 3) := by decide +kernel
theorem dX13_kindAt_19 : decode cX13_kindAt 19 = .ok (.ireturn, 1) := by decide +kernel
theorem dX13_kindAt_20 : decode cX13_kindAt 20 = .ok (.iload_n 3, 1) := by decide +kernel
theorem dX13_kindAt_21 : decode cX13_kindAt 21 = .ok (.invokestatic 93, 3) := by decide +kernel
theorem dX13_kindAt_24 : decode cX13_kindAt 24 = .ok (.ifCond .ne 10, 3) := by decide +kernel
theorem dX13_kindAt_27 : decode cX13_kindAt 27 = .ok (.iload_n 3, 1) := by decide +kernel
theorem dX13_kindAt_28 : decode cX13_kindAt 28 = .ok (.invokestatic 96, 3) := by decide +kernel
theorem dX13_kindAt_31 : decode cX13_kindAt 31 = .ok (.ifCond .eq 97, 3) := by decide +kernel
theorem dX13_kindAt_34 : decode cX13_kindAt 34 = .ok (.aload_n 0, 1) := by decide +kernel
theorem dX13_kindAt_35 : decode cX13_kindAt 35 = .ok (.iload 4, 2) := by decide +kernel
theorem dX13_kindAt_37 : decode cX13_kindAt 37 = .ok (.invokevirtual 89, 3) := by decide +kernel
theorem dX13_kindAt_40 : decode cX13_kindAt 40 = .ok (.invokestatic 96, 3) := by decide +kernel
theorem dX13_kindAt_43 : decode cX13_kindAt 43 = .ok (.ifCond .ne 22, 3) := by decide +kernel
theorem dX13_kindAt_46 : decode cX13_kindAt 46 = .ok (.iload_n 3, 1) := by decide +kernel
theorem dX13_kindAt_47 : decode cX13_kindAt 47 = .ok (.invokestatic 93, 3) := by decide +kernel
theorem dX13_kindAt_50 : decode cX13_kindAt 50 = .ok (.ifCond .eq 21, 3) := by decide +kernel
theorem dX13_kindAt_53 : decode cX13_kindAt 53 = .ok (.aload_n 0, 1) := by decide +kernel
theorem dX13_kindAt_54 : decode cX13_kindAt 54 = .ok (.iload 4, 2) := by decide +kernel
theorem dX13_kindAt_56 : decode cX13_kindAt 56 = .ok (.invokevirtual 89, 3) := by decide +kernel
theorem dX13_kindAt_59 : decode cX13_kindAt 59 = .ok (.invokestatic 93, 3) := by decide +kernel
theorem dX13_kindAt_62 : decode cX13_kindAt 62 = .ok (.ifCond .eq 9, 3) := by decide +kernel
theorem dX13_kindAt_65 : decode cX13_kindAt 65 = .ok (.iinc 4 1, 3) := by decide +kernel
theorem dX13_kindAt_68 : decode cX13_kindAt 68 = .ok (.goto (-34), 3) := by decide +kernel
theorem dX13_kindAt_71 : decode cX13_kindAt 71 = .ok (.aload_n 0, 1) := by decide +kernel
theorem dX13_kindAt_72 : decode cX13_kindAt 72 = .ok (.getfield 23, 3) := by decide +kernel
theorem dX13_kindAt_75 : decode cX13_kindAt 75 = .ok (.iload_n 2, 1) := by decide +kernel
theorem dX13_kindAt_76 : decode cX13_kindAt 76 = .ok (.iload 4, 2) := by decide +kernel
theorem dX13_kindAt_78 : decode cX13_kindAt 78 = .ok (.iload_n 1, 1) := by decide +kernel
theorem dX13_kindAt_79 : decode cX13_kindAt 79 = .ok (.isub, 1) := by decide +kernel
theorem dX13_kindAt_80 : decode cX13_kindAt 80 = .ok (.iastore, 1) := by decide +kernel
theorem dX13_kindAt_81 : decode cX13_kindAt 81 = .ok (.iload 4, 2) := by decide +kernel
theorem dX13_kindAt_83 : decode cX13_kindAt 83 = .ok (.iload_n 1, 1) := by decide +kernel
theorem dX13_kindAt_84 : decode cX13_kindAt 84 = .ok (.isub, 1) := by decide +kernel
theorem dX13_kindAt_85 : decode cX13_kindAt 85 = .ok (.iload_n 3, 1) := by decide +kernel
theorem dX13_kindAt_86 : decode cX13_kindAt 86 = .ok (.invokestatic 93, 3) := by decide +kernel
theorem dX13_kindAt_89 : decode cX13_kindAt 89 = .ok (.ifCond .eq 8, 3) := by decide +kernel
theorem dX13_kindAt_92 : decode cX13_kindAt 92 = .ok (.bipush 10, 2) := by decide +kernel
theorem dX13_kindAt_94 : decode cX13_kindAt 94 = .ok (.goto 5, 3) := by decide +kernel
theorem dX13_kindAt_97 : decode cX13_kindAt 97 = .ok (.bipush 6, 2) := by decide +kernel
theorem dX13_kindAt_99 : decode cX13_kindAt 99 = .ok (.if_icmp .le 7, 3) := by decide +kernel
theorem dX13_kindAt_102 : decode cX13_kindAt 102 = .ok (.sipush 901, 3) := by decide +kernel
theorem dX13_kindAt_105 : decode cX13_kindAt 105 = .ok (.ireturn, 1) := by decide +kernel
theorem dX13_kindAt_106 : decode cX13_kindAt 106 = .ok (.iload_n 3, 1) := by decide +kernel
theorem dX13_kindAt_107 : decode cX13_kindAt 107 = .ok (.invokestatic 93, 3) := by decide +kernel
theorem dX13_kindAt_110 : decode cX13_kindAt 110 = .ok (.ifCond .eq 15, 3) := by decide +kernel
theorem dX13_kindAt_113 : decode cX13_kindAt 113 = .ok (.aload_n 0, 1) := by decide +kernel
theorem dX13_kindAt_114 : decode cX13_kindAt 114 = .ok (.iload_n 1, 1) := by decide +kernel
theorem dX13_kindAt_115 : decode cX13_kindAt 115 = .ok (.iload 4, 2) := by decide +kernel
theorem dX13_kindAt_117 : decode cX13_kindAt 117 = .ok (.iload_n 1, 1) := by decide +kernel
theorem dX13_kindAt_118 : decode cX13_kindAt 118 = .ok (.isub, 1) := by decide +kernel
theorem dX13_kindAt_119 : decode cX13_kindAt 119 = .ok (.invokevirtual 99, 3) := by decide +kernel
theorem dX13_kindAt_122 : decode cX13_kindAt 122 = .ok (.goto 5, 3) := by decide +kernel
theorem dX13_kindAt_125 : decode cX13_kindAt 125 = .ok (.bipush 41, 2) := by decide +kernel
theorem dX13_kindAt_127 : decode cX13_kindAt 127 = .ok (.ireturn, 1) := by decide +kernel
theorem dX13_kindAt_128 : decode cX13_kindAt 128 = .ok (.iload_n 3, 1) := by decide +kernel
theorem dX13_kindAt_129 : decode cX13_kindAt 129 = .ok (.bipush 60, 2) := by decide +kernel
theorem dX13_kindAt_131 : decode cX13_kindAt 131 = .ok (.if_icmp .eq 9, 3) := by decide +kernel
theorem dX13_kindAt_134 : decode cX13_kindAt 134 = .ok (.iload_n 3, 1) := by decide +kernel
theorem dX13_kindAt_135 : decode cX13_kindAt 135 = .ok (.bipush 62, 2) := by decide +kernel
theorem dX13_kindAt_137 : decode cX13_kindAt 137 = .ok (.if_icmp .ne 18, 3) := by decide +kernel
theorem dX13_kindAt_140 : decode cX13_kindAt 140 = .ok (.aload_n 0, 1) := by decide +kernel
theorem dX13_kindAt_141 : decode cX13_kindAt 141 = .ok (.iload 4, 2) := by decide +kernel
theorem dX13_kindAt_143 : decode cX13_kindAt 143 = .ok (.invokevirtual 89, 3) := by decide +kernel
theorem dX13_kindAt_146 : decode cX13_kindAt 146 = .ok (.bipush 61, 2) := by decide +kernel
theorem dX13_kindAt_148 : decode cX13_kindAt 148 = .ok (.if_icmp .ne 7, 3) := by decide +kernel
theorem dX13_kindAt_151 : decode cX13_kindAt 151 = .ok (.iconst 1, 1) := by decide +kernel
theorem dX13_kindAt_152 : decode cX13_kindAt 152 = .ok (.goto 4, 3) := by decide +kernel
theorem dX13_kindAt_155 : decode cX13_kindAt 155 = .ok (.iconst 0, 1) := by decide +kernel
theorem dX13_kindAt_156 : decode cX13_kindAt 156 = .ok (.istore 5, 2) := by decide +kernel
theorem dX13_kindAt_158 : decode cX13_kindAt 158 = .ok (.aload_n 0, 1) := by decide +kernel
theorem dX13_kindAt_159 : decode cX13_kindAt 159 = .ok (.getfield 23, 3) := by decide +kernel
theorem dX13_kindAt_162 : decode cX13_kindAt 162 = .ok (.iload_n 2, 1) := by decide +kernel
theorem dX13_kindAt_163 : decode cX13_kindAt 163 = .ok (.iload 5, 2) := by decide +kernel
theorem dX13_kindAt_165 : decode cX13_kindAt 165 = .ok (.ifCond .eq 7, 3) := by decide +kernel
theorem dX13_kindAt_168 : decode cX13_kindAt 168 = .ok (.iconst 2, 1) := by decide +kernel
theorem dX13_kindAt_169 : decode cX13_kindAt 169 = .ok (.goto 4, 3) := by decide +kernel
theorem dX13_kindAt_172 : decode cX13_kindAt 172 = .ok (.iconst 1, 1) := by decide +kernel
theorem dX13_kindAt_173 : decode cX13_kindAt 173 = .ok (.iastore, 1) := by decide +kernel
theorem dX13_kindAt_174 : decode cX13_kindAt 174 = .ok (.iload 5, 2) := by decide +kernel
theorem dX13_kindAt_176 : decode cX13_kindAt 176 = .ok (.ifCond .eq 19, 3) := by decide +kernel
theorem dX13_kindAt_179 : decode cX13_kindAt 179 = .ok (.iload_n 3, 1) := by decide +kernel
theorem dX13_kindAt_180 : decode cX13_kindAt 180 = .ok (.bipush 60, 2) := by decide +kernel
theorem dX13_kindAt_182 : decode cX13_kindAt 182 = .ok (.if_icmp .ne 9, 3) := by decide +kernel
theorem dX13_kindAt_185 : decode cX13_kindAt 185 = .ok (.sipush 300, 3) := by decide +kernel
theorem dX13_kindAt_188 : decode cX13_kindAt 188 = .ok (.goto 6, 3) := by decide +kernel
theorem dX13_kindAt_191 : decode cX13_kindAt 191 = .ok (.sipush 301, 3) := by decide +kernel
theorem dX13_kindAt_194 : decode cX13_kindAt 194 = .ok (.ireturn, 1) := by decide +kernel
theorem dX13_kindAt_195 : decode cX13_kindAt 195 = .ok (.iload_n 3, 1) := by decide +kernel
theorem dX13_kindAt_196 : decode cX13_kindAt 196 = .ok (.ifCond .le 27, 3) := by decide +kernel
theorem dX13_kindAt_199 : decode cX13_kindAt 199 = .ok (.iload_n 3, 1) := by decide +kernel
theorem dX13_kindAt_200 : decode cX13_kindAt 200 = .ok (.sipush 128, 3) := by decide +kernel
theorem dX13_kindAt_203 : decode cX13_kindAt 203 = .ok (.if_icmp .ge 20, 3) := by decide +kernel
theorem dX13_kindAt_206 : decode cX13_kindAt 206 = .ok (.ldc 102, 2) := by decide +kernel
theorem dX13_kindAt_208 : decode cX13_kindAt 208 = .ok (.iload_n 3, 1) := by decide +kernel
theorem dX13_kindAt_209 : decode cX13_kindAt 209 = .ok (.i2c, 1) := by decide +kernel
theorem dX13_kindAt_210 : decode cX13_kindAt 210 = .ok (.invokevirtual 104, 3) := by decide +kernel
theorem dX13_kindAt_213 : decode cX13_kindAt 213 = .ok (.ifCond .lt 10, 3) := by decide +kernel
theorem dX13_kindAt_216 : decode cX13_kindAt 216 = .ok (.bipush 50, 2) := by decide +kernel
theorem dX13_kindAt_218 : decode cX13_kindAt 218 = .ok (.iload_n 3, 1) := by decide +kernel
theorem dX13_kindAt_219 : decode cX13_kindAt 219 = .ok (.iadd, 1) := by decide +kernel
theorem dX13_kindAt_220 : decode cX13_kindAt 220 = .ok (.goto 6, 3) := by decide +kernel
theorem dX13_kindAt_223 : decode cX13_kindAt 223 = .ok (.sipush 901, 3) := by decide +kernel
theorem dX13_kindAt_226 : decode cX13_kindAt 226 = .ok (.ireturn, 1) := by decide +kernel
theorem dX13_word_0 : decode cX13_word 0 = .ok (.iconst 0, 1) := by decide +kernel
theorem dX13_word_1 : decode cX13_word 1 = .ok (.istore_n 3, 1) := by decide +kernel
theorem dX13_word_2 : decode cX13_word 2 = .ok (.iload_n 3, 1) := by decide +kernel
theorem dX13_word_3 : decode cX13_word 3 = .ok (.getstatic 109, 3) := by decide +kernel
theorem dX13_word_6 : decode cX13_word 6 = .ok (.arraylength, 1) := by decide +kernel
theorem dX13_word_7 : decode cX13_word 7 = .ok (.if_icmp .ge 84, 3) := by decide +kernel
theorem dX13_word_10 : decode cX13_word 10 = .ok (.getstatic 109, 3) := by decide +kernel
theorem dX13_word_13 : decode cX13_word 13 = .ok (.iload_n 3, 1) := by decide +kernel
theorem dX13_word_14 : decode cX13_word 14 = .ok (.aaload, 1) := by decide +kernel
theorem dX13_word_15 : decode cX13_word 15 = .ok (.invokevirtual 113, 3) := by decide +kernel
theorem dX13_word_18 : decode cX13_word 18 = .ok (.iload_n 2, 1) := by decide +kernel
theorem dX13_word_19 : decode cX13_word 19 = .ok (.if_icmp .ne 7, 3) := by decide +kernel
theorem dX13_word_22 : decode cX13_word 22 = .ok (.iconst 1, 1) := by decide +kernel
theorem dX13_word_23 : decode cX13_word 23 = .ok (.goto 4, 3) := by decide +kernel
theorem dX13_word_26 : decode cX13_word 26 = .ok (.iconst 0, 1) := by decide +kernel
theorem dX13_word_27 : decode cX13_word 27 = .ok (.istore 4, 2) := by decide +kernel
theorem dX13_word_29 : decode cX13_word 29 = .ok (.iconst 0, 1) := by decide +kernel
theorem dX13_word_30 : decode cX13_word 30 = .ok (.istore 5, 2) := by decide +kernel
theorem dX13_word_32 : decode cX13_word 32 = .ok (.iload 4, 2) := by decide +kernel
theorem dX13_word_34 : decode cX13_word 34 = .ok (.ifCond .eq 44, 3) := by decide +kernel
theorem dX13_word_37 : decode cX13_word 37 = .ok (.iload 5, 2) := by decide +kernel
theorem dX13_word_39 : decode cX13_word 39 = .ok (.iload_n 2, 1) := by decide +kernel
theorem dX13_word_40 : decode cX13_word 40 = .ok (.if_icmp .ge 38, 3) := by decide +kernel
theorem dX13_word_43 : decode cX13_word 43 = .ok (.getstatic 109, 3) := by decide +kernel
theorem dX13_word_46 : decode cX13_word 46 = .ok (.iload_n 3, 1) := by decide +kernel
theorem dX13_word_47 : decode cX13_word 47 = .ok (.aaload, 1) := by decide +kernel
theorem dX13_word_48 : decode cX13_word 48 = .ok (.iload 5, 2) := by decide +kernel
theorem dX13_word_50 : decode cX13_word 50 = .ok (.invokevirtual 117, 3) := by decide +kernel
theorem dX13_word_53 : decode cX13_word 53 = .ok (.aload_n 0, 1) := by decide +kernel
theorem dX13_word_54 : decode cX13_word 54 = .ok (.getfield 9, 3) := by decide +kernel
theorem dX13_word_57 : decode cX13_word 57 = .ok (.iload_n 1, 1) := by decide +kernel
theorem dX13_word_58 : decode cX13_word 58 = .ok (.iload 5, 2) := by decide +kernel
theorem dX13_word_60 : decode cX13_word 60 = .ok (.iadd, 1) := by decide +kernel
theorem dX13_word_61 : decode cX13_word 61 = .ok (.iaload, 1) := by decide +kernel
theorem dX13_word_62 : decode cX13_word 62 = .ok (.if_icmp .ne 7, 3) := by decide +kernel
theorem dX13_word_65 : decode cX13_word 65 = .ok (.iconst 1, 1) := by decide +kernel
theorem dX13_word_66 : decode cX13_word 66 = .ok (.goto 4, 3) := by decide +kernel
theorem dX13_word_69 : decode cX13_word 69 = .ok (.iconst 0, 1) := by decide +kernel
theorem dX13_word_70 : decode cX13_word 70 = .ok (.istore 4, 2) := by decide +kernel
theorem dX13_word_72 : decode cX13_word 72 = .ok (.iinc 5 1, 3) := by decide +kernel
theorem dX13_word_75 : decode cX13_word 75 = .ok (.goto (-43), 3) := by decide +kernel
theorem dX13_word_78 : decode cX13_word 78 = .ok (.iload 4, 2) := by decide +kernel
theorem dX13_word_80 : decode cX13_word 80 = .ok (.ifCond .eq 5, 3) := by decide +kernel
theorem dX13_word_83 : decode cX13_word 83 = .ok (.iload_n 3, 1) := by decide +kernel
theorem dX13_word_84 : decode cX13_word 84 = .ok (.ireturn, 1) := by decide +kernel
theorem dX13_word_85 : decode cX13_word 85 = .ok (.iinc 3 1, 3) := by decide +kernel
theorem dX13_word_88 : decode cX13_word 88 = .ok (.goto (-86), 3) := by decide +kernel
theorem dX13_word_91 : decode cX13_word 91 = .ok (.bipush 40, 2) := by decide +kernel
theorem dX13_word_93 : decode cX13_word 93 = .ok (.ireturn, 1) := by decide +kernel
theorem dX13_cut_0 : decode cX13_cut 0 = .ok (.iconst 0, 1) := by decide +kernel
theorem dX13_cut_1 : decode cX13_cut 1 = .ok (.istore_n 1, 1) := by decide +kernel
theorem dX13_cut_2 : decode cX13_cut 2 = .ok (.iconst 0, 1) := by decide +kernel
theorem dX13_cut_3 : decode cX13_cut 3 = .ok (.istore_n 2, 1) := by decide +kernel
theorem dX13_cut_4 : decode cX13_cut 4 = .ok (.iload_n 2, 1) := by decide +kernel
theorem dX13_cut_5 : decode cX13_cut 5 = .ok (.sipush 400, 3) := by decide +kernel
theorem dX13_cut_8 : decode cX13_cut 8 = .ok (.if_icmp .gt 118, 3) := by decide +kernel
theorem dX13_cut_11 : decode cX13_cut 11 = .ok (.aload_n 0, 1) := by decide +kernel
theorem dX13_cut_12 : decode cX13_cut 12 = .ok (.iload_n 1, 1) := by decide +kernel
theorem dX13_cut_13 : decode cX13_cut 13 = .ok (.invokevirtual 89, 3) := by decide +kernel
theorem dX13_cut_16 : decode cX13_cut 16 = .ok (.bipush 32, 2) := by decide +kernel
theorem dX13_cut_18 : decode cX13_cut 18 = .ok (.if_icmp .eq 13, 3) := by decide +kernel
theorem dX13_cut_21 : decode cX13_cut 21 = .ok (.aload_n 0, 1) := by decide +kernel
theorem dX13_cut_22 : decode cX13_cut 22 = .ok (.iload_n 1, 1) := by decide +kernel
theorem dX13_cut_23 : decode cX13_cut 23 = .ok (.invokevirtual 89, 3) := by decide +kernel
theorem dX13_cut_26 : decode cX13_cut 26 = .ok (.bipush 10, 2) := by decide +kernel
theorem dX13_cut_28 : decode cX13_cut 28 = .ok (.if_icmp .ne 9, 3) := by decide +kernel
theorem dX13_cut_31 : decode cX13_cut 31 = .ok (.iinc 1 1, 3) := by decide +kernel
theorem dX13_cut_34 : decode cX13_cut 34 = .ok (.goto (-23), 3) := by decide +kernel
theorem dX13_cut_37 : decode cX13_cut 37 = .ok (.aload_n 0, 1) := by decide +kernel
theorem dX13_cut_38 : decode cX13_cut 38 = .ok (.getfield 20, 3) := by decide +kernel
theorem dX13_cut_41 : decode cX13_cut 41 = .ok (.iload_n 2, 1) := by decide +kernel
theorem dX13_cut_42 : decode cX13_cut 42 = .ok (.iload_n 1, 1) := by decide +kernel
theorem dX13_cut_43 : decode cX13_cut 43 = .ok (.iastore, 1) := by decide +kernel
theorem dX13_cut_44 : decode cX13_cut 44 = .ok (.aload_n 0, 1) := by decide +kernel
theorem dX13_cut_45 : decode cX13_cut 45 = .ok (.getfield 26, 3) := by decide +kernel
theorem dX13_cut_48 : decode cX13_cut 48 = .ok (.iload_n 2, 1) := by decide +kernel
theorem dX13_cut_49 : decode cX13_cut 49 = .ok (.iconst 0, 1) := by decide +kernel
theorem dX13_cut_50 : decode cX13_cut 50 = .ok (.iastore, 1) := by decide +kernel
theorem dX13_cut_51 : decode cX13_cut 51 = .ok (.aload_n 0, 1) := by decide +kernel
theorem dX13_cut_52 : decode cX13_cut 52 = .ok (.getfield 29, 3) := by decide +kernel
theorem dX13_cut_55 : decode cX13_cut 55 = .ok (.iload_n 2, 1) := by decide +kernel
theorem dX13_cut_56 : decode cX13_cut 56 = .ok (.iconst 0, 1) := by decide +kernel
theorem dX13_cut_57 : decode cX13_cut 57 = .ok (.iastore, 1) := by decide +kernel
theorem dX13_cut_58 : decode cX13_cut 58 = .ok (.aload_n 0, 1) := by decide +kernel
theorem dX13_cut_59 : decode cX13_cut 59 = .ok (.getfield 17, 3) := by decide +kernel
theorem dX13_cut_62 : decode cX13_cut 62 = .ok (.iload_n 2, 1) := by decide +kernel
theorem dX13_cut_63 : decode cX13_cut 63 = .ok (.aload_n 0, 1) := by decide +kernel
theorem dX13_cut_64 : decode cX13_cut 64 = .ok (.iload_n 1, 1) := by decide +kernel
theorem dX13_cut_65 : decode cX13_cut 65 = .ok (.iload_n 2, 1) := by decide +kernel
theorem dX13_cut_66 : decode cX13_cut 66 = .ok (.invokevirtual 121, 3) := by decide +kernel
theorem dX13_cut_69 : decode cX13_cut 69 = .ok (.iastore, 1) := by decide +kernel
theorem dX13_cut_70 : decode cX13_cut 70 = .ok (.iload_n 2, 1) := by decide +kernel
theorem dX13_cut_71 : decode cX13_cut 71 = .ok (.sipush 400, 3) := by decide +kernel
theorem dX13_cut_74 : decode cX13_cut 74 = .ok (.if_icmp .ne 24, 3) := by decide +kernel
theorem dX13_cut_77 : decode cX13_cut 77 = .ok (.aload_n 0, 1) := by decide +kernel
theorem dX13_cut_78 : decode cX13_cut 78 = .ok (.getfield 17, 3) := by decide +kernel
theorem dX13_cut_81 : decode cX13_cut 81 = .ok (.iload_n 2, 1) := by decide +kernel
theorem dX13_cut_82 : decode cX13_cut 82 = .ok (.iaload, 1) := by decide +kernel
theorem dX13_cut_83 : decode cX13_cut 83 = .ok (.sipush 900, 3) := by decide +kernel
theorem dX13_cut_86 : decode cX13_cut 86 = .ok (.if_icmp .eq 12, 3) := by decide +kernel
theorem dX13_cut_89 : decode cX13_cut 89 = .ok (.aload_n 0, 1) := by decide +kernel
theorem dX13_cut_90 : decode cX13_cut 90 = .ok (.getfield 17, 3) := by decide +kernel
theorem dX13_cut_93 : decode cX13_cut 93 = .ok (.iload_n 2, 1) := by decide +kernel
theorem dX13_cut_94 : decode cX13_cut 94 = .ok (.sipush 901, 3) := by decide +kernel
theorem dX13_cut_97 : decode cX13_cut 97 = .ok (.iastore, 1) := by decide +kernel
theorem dX13_cut_98 : decode cX13_cut 98 = .ok (.aload_n 0, 1) := by decide +kernel
theorem dX13_cut_99 : decode cX13_cut 99 = .ok (.getfield 17, 3) := by decide +kernel
theorem dX13_cut_102 : decode cX13_cut 102 = .ok (.iload_n 2, 1) := by decide +kernel
theorem dX13_cut_103 : decode cX13_cut 103 = .ok (.iaload, 1) := by decide +kernel
theorem dX13_cut_104 : decode cX13_cut 104 = .ok (.sipush 900, 3) := by decide +kernel
theorem dX13_cut_107 : decode cX13_cut 107 = .ok (.if_icmp .lt 4, 3) := by decide +kernel
theorem dX13_cut_110 : decode cX13_cut 110 = .ok (.return_, 1) := by decide +kernel
theorem dX13_cut_111 : decode cX13_cut 111 = .ok (.iload_n 1, 1) := by decide +kernel
theorem dX13_cut_112 : decode cX13_cut 112 = .ok (.aload_n 0, 1) := by decide +kernel
theorem dX13_cut_113 : decode cX13_cut 113 = .ok (.getfield 23, 3) := by decide +kernel
theorem dX13_cut_116 : decode cX13_cut 116 = .ok (.iload_n 2, 1) := by decide +kernel
theorem dX13_cut_117 : decode cX13_cut 117 = .ok (.iaload, 1) := by decide +kernel
theorem dX13_cut_118 : decode cX13_cut 118 = .ok (.iadd, 1) := by decide +kernel
theorem dX13_cut_119 : decode cX13_cut 119 = .ok (.istore_n 1, 1) := by decide +kernel
theorem dX13_cut_120 : decode cX13_cut 120 = .ok (.iinc 2 1, 3) := by decide +kernel
theorem dX13_cut_123 : decode cX13_cut 123 = .ok (.goto (-119), 3) := by decide +kernel
theorem dX13_cut_126 : decode cX13_cut 126 = .ok (.return_, 1) := by decide +kernel
theorem dX13_is_0 : decode cX13_is 0 = .ok (.aload_n 0, 1) := by decide +kernel
theorem dX13_is_1 : decode cX13_is 1 = .ok (.getfield 17, 3) := by decide +kernel
theorem dX13_is_4 : decode cX13_is 4 = .ok (.aload_n 0, 1) := by decide +kernel
theorem dX13_is_5 : decode cX13_is 5 = .ok (.getfield 124, 3) := by decide +kernel
theorem dX13_is_8 : decode cX13_is 8 = .ok (.iaload, 1) := by decide +kernel
theorem dX13_is_9 : decode cX13_is 9 = .ok (.iload_n 1, 1) := by decide +kernel
theorem dX13_is_10 : decode cX13_is 10 = .ok (.if_icmp .ne 7, 3) := by decide +kernel
theorem dX13_is_13 : decode cX13_is 13 = .ok (.iconst 1, 1) := by decide +kernel
theorem dX13_is_14 : decode cX13_is 14 = .ok (.goto 4, 3) := by decide +kernel
theorem dX13_is_17 : decode cX13_is 17 = .ok (.iconst 0, 1) := by decide +kernel
theorem dX13_is_18 : decode cX13_is 18 = .ok (.ireturn, 1) := by decide +kernel
theorem dX13_isSign_0 : decode cX13_isSign 0 = .ok (.aload_n 0, 1) := by decide +kernel
theorem dX13_isSign_1 : decode cX13_isSign 1 = .ok (.getfield 17, 3) := by decide +kernel
theorem dX13_isSign_4 : decode cX13_isSign 4 = .ok (.aload_n 0, 1) := by decide +kernel
theorem dX13_isSign_5 : decode cX13_isSign 5 = .ok (.getfield 124, 3) := by decide +kernel
theorem dX13_isSign_8 : decode cX13_isSign 8 = .ok (.iaload, 1) := by decide +kernel
theorem dX13_isSign_9 : decode cX13_isSign 9 = .ok (.bipush 50, 2) := by decide +kernel
theorem dX13_isSign_11 : decode cX13_isSign 11 = .ok (.iload_n 1, 1) := by decide +kernel
theorem dX13_isSign_12 : decode cX13_isSign 12 = .ok (.iadd, 1) := by decide +kernel
theorem dX13_isSign_13 : decode cX13_isSign 13 = .ok (.if_icmp .ne 7, 3) := by decide +kernel
theorem dX13_isSign_16 : decode cX13_isSign 16 = .ok (.iconst 1, 1) := by decide +kernel
theorem dX13_isSign_17 : decode cX13_isSign 17 = .ok (.goto 4, 3) := by decide +kernel
theorem dX13_isSign_20 : decode cX13_isSign 20 = .ok (.iconst 0, 1) := by decide +kernel
theorem dX13_isSign_21 : decode cX13_isSign 21 = .ok (.ireturn, 1) := by decide +kernel
theorem dX13_eat_0 : decode cX13_eat 0 = .ok (.aload_n 0, 1) := by decide +kernel
theorem dX13_eat_1 : decode cX13_eat 1 = .ok (.iload_n 1, 1) := by decide +kernel
theorem dX13_eat_2 : decode cX13_eat 2 = .ok (.invokevirtual 127, 3) := by decide +kernel
theorem dX13_eat_5 : decode cX13_eat 5 = .ok (.ifCond .ne 5, 3) := by decide +kernel
theorem dX13_eat_8 : decode cX13_eat 8 = .ok (.iconst 0, 1) := by decide +kernel
theorem dX13_eat_9 : decode cX13_eat 9 = .ok (.ireturn, 1) := by decide +kernel
theorem dX13_eat_10 : decode cX13_eat 10 = .ok (.aload_n 0, 1) := by decide +kernel
theorem dX13_eat_11 : decode cX13_eat 11 = .ok (.dup, 1) := by decide +kernel
theorem dX13_eat_12 : decode cX13_eat 12 = .ok (.getfield 124, 3) := by decide +kernel
theorem dX13_eat_15 : decode cX13_eat 15 = .ok (.iconst 1, 1) := by decide +kernel
theorem dX13_eat_16 : decode cX13_eat 16 = .ok (.iadd, 1) := by decide +kernel
theorem dX13_eat_17 : decode cX13_eat 17 = .ok (.putfield 124, 3) := by decide +kernel
theorem dX13_eat_20 : decode cX13_eat 20 = .ok (.iconst 1, 1) := by decide +kernel
theorem dX13_eat_21 : decode cX13_eat 21 = .ok (.ireturn, 1) := by decide +kernel
theorem dX13_eatSign_0 : decode cX13_eatSign 0 = .ok (.aload_n 0, 1) := by decide +kernel
theorem dX13_eatSign_1 : decode cX13_eatSign 1 = .ok (.bipush 50, 2) := by decide +kernel
theorem dX13_eatSign_3 : decode cX13_eatSign 3 = .ok (.iload_n 1, 1) := by decide +kernel
theorem dX13_eatSign_4 : decode cX13_eatSign 4 = .ok (.iadd, 1) := by decide +kernel
theorem dX13_eatSign_5 : decode cX13_eatSign 5 = .ok (.invokevirtual 130, 3) := by decide +kernel
theorem dX13_eatSign_8 : decode cX13_eatSign 8 = .ok (.ireturn, 1) := by decide +kernel
theorem dX13_eatAs_0 : decode cX13_eatAs 0 = .ok (.aload_n 0, 1) := by decide +kernel
theorem dX13_eatAs_1 : decode cX13_eatAs 1 = .ok (.getfield 26, 3) := by decide +kernel
theorem dX13_eatAs_4 : decode cX13_eatAs 4 = .ok (.aload_n 0, 1) := by decide +kernel
theorem dX13_eatAs_5 : decode cX13_eatAs 5 = .ok (.getfield 124, 3) := by decide +kernel
theorem dX13_eatAs_8 : decode cX13_eatAs 8 = .ok (.iload_n 2, 1) := by decide +kernel
theorem dX13_eatAs_9 : decode cX13_eatAs 9 = .ok (.iastore, 1) := by decide +kernel
theorem dX13_eatAs_10 : decode cX13_eatAs 10 = .ok (.aload_n 0, 1) := by decide +kernel
theorem dX13_eatAs_11 : decode cX13_eatAs 11 = .ok (.iload_n 1, 1) := by decide +kernel
theorem dX13_eatAs_12 : decode cX13_eatAs 12 = .ok (.invokevirtual 130, 3) := by decide +kernel
theorem dX13_eatAs_15 : decode cX13_eatAs 15 = .ok (.ireturn, 1) := by decide +kernel
theorem dX13_put_0 : decode cX13_put 0 = .ok (.aload_n 0, 1) := by decide +kernel
theorem dX13_put_1 : decode cX13_put 1 = .ok (.getfield 39, 3) := by decide +kernel
theorem dX13_put_4 : decode cX13_put 4 = .ok (.getfield 133, 3) := by decide +kernel
theorem dX13_put_7 : decode cX13_put 7 = .ok (.aload_n 0, 1) := by decide +kernel
theorem dX13_put_8 : decode cX13_put 8 = .ok (.getfield 39, 3) := by decide +kernel
theorem dX13_put_11 : decode cX13_put 11 = .ok (.getfield 136, 3) := by decide +kernel
theorem dX13_put_14 : decode cX13_put 14 = .ok (.iload_n 1, 1) := by decide +kernel
theorem dX13_put_15 : decode cX13_put 15 = .ok (.iastore, 1) := by decide +kernel
theorem dX13_put_16 : decode cX13_put 16 = .ok (.aload_n 0, 1) := by decide +kernel
theorem dX13_put_17 : decode cX13_put 17 = .ok (.getfield 39, 3) := by decide +kernel
theorem dX13_put_20 : decode cX13_put 20 = .ok (.dup, 1) := by decide +kernel
theorem dX13_put_21 : decode cX13_put 21 = .ok (.getfield 136, 3) := by decide +kernel
theorem dX13_put_24 : decode cX13_put 24 = .ok (.iconst 1, 1) := by decide +kernel
theorem dX13_put_25 : decode cX13_put 25 = .ok (.iadd, 1) := by decide +kernel
theorem dX13_put_26 : decode cX13_put 26 = .ok (.putfield 136, 3) := by decide +kernel
theorem dX13_put_29 : decode cX13_put 29 = .ok (.return_, 1) := by decide +kernel
theorem dX13_isPlan_0 : decode cX13_isPlan 0 = .ok (.aload_n 0, 1) := by decide +kernel
theorem dX13_isPlan_1 : decode cX13_isPlan 1 = .ok (.sipush 900, 3) := by decide +kernel
theorem dX13_isPlan_4 : decode cX13_isPlan 4 = .ok (.invokevirtual 127, 3) := by decide +kernel
theorem dX13_isPlan_7 : decode cX13_isPlan 7 = .ok (.ifCond .ne 105, 3) := by decide +kernel
theorem dX13_isPlan_10 : decode cX13_isPlan 10 = .ok (.aload_n 0, 1) := by decide +kernel
theorem dX13_isPlan_11 : decode cX13_isPlan 11 = .ok (.iconst 0, 1) := by decide +kernel
theorem dX13_isPlan_12 : decode cX13_isPlan 12 = .ok (.invokevirtual 127, 3) := by decide +kernel
theorem dX13_isPlan_15 : decode cX13_isPlan 15 = .ok (.ifCond .eq 10, 3) := by decide +kernel
theorem dX13_isPlan_18 : decode cX13_isPlan 18 = .ok (.aload_n 0, 1) := by decide +kernel
theorem dX13_isPlan_19 : decode cX13_isPlan 19 = .ok (.invokevirtual 137, 3) := by decide +kernel
theorem dX13_isPlan_22 : decode cX13_isPlan 22 = .ok (.goto 71, 3) := by decide +kernel
theorem dX13_isPlan_25 : decode cX13_isPlan 25 = .ok (.aload_n 0, 1) := by decide +kernel
theorem dX13_isPlan_26 : decode cX13_isPlan 26 = .ok (.iconst 4, 1) := by decide +kernel
theorem dX13_isPlan_27 : decode cX13_isPlan 27 = .ok (.invokevirtual 127, 3) := by decide +kernel
theorem dX13_isPlan_30 : decode cX13_isPlan 30 = .ok (.ifCond .eq 10, 3) := by decide +kernel
theorem dX13_isPlan_33 : decode cX13_isPlan 33 = .ok (.aload_n 0, 1) := by decide +kernel
theorem dX13_isPlan_34 : decode cX13_isPlan 34 = .ok (.invokevirtual 141, 3) := by decide +kernel
theorem dX13_isPlan_37 : decode cX13_isPlan 37 = .ok (.goto 56, 3) := by decide +kernel
theorem dX13_isPlan_40 : decode cX13_isPlan 40 = .ok (.aload_n 0, 1) := by decide +kernel
theorem dX13_isPlan_41 : decode cX13_isPlan 41 = .ok (.bipush 9, 2) := by decide +kernel
theorem dX13_isPlan_43 : decode cX13_isPlan 43 = .ok (.invokevirtual 127, 3) := by decide +kernel
theorem dX13_isPlan_46 : decode cX13_isPlan 46 = .ok (.ifCond .eq 10, 3) := by decide +kernel
theorem dX13_isPlan_49 : decode cX13_isPlan 49 = .ok (.aload_n 0, 1) := by decide +kernel
theorem dX13_isPlan_50 : decode cX13_isPlan 50 = .ok (.invokevirtual 144, 3) := by decide +kernel
theorem dX13_isPlan_53 : decode cX13_isPlan 53 = .ok (.goto 40, 3) := by decide +kernel
theorem dX13_isPlan_56 : decode cX13_isPlan 56 = .ok (.aload_n 0, 1) := by decide +kernel
theorem dX13_isPlan_57 : decode cX13_isPlan 57 = .ok (.bipush 11, 2) := by decide +kernel
theorem dX13_isPlan_59 : decode cX13_isPlan 59 = .ok (.invokevirtual 127, 3) := by decide +kernel
theorem dX13_isPlan_62 : decode cX13_isPlan 62 = .ok (.ifCond .eq 10, 3) := by decide +kernel
theorem dX13_isPlan_65 : decode cX13_isPlan 65 = .ok (.aload_n 0, 1) := by decide +kernel
theorem dX13_isPlan_66 : decode cX13_isPlan 66 = .ok (.invokevirtual 147, 3) := by decide +kernel
theorem dX13_isPlan_69 : decode cX13_isPlan 69 = .ok (.goto 24, 3) := by decide +kernel
theorem dX13_isPlan_72 : decode cX13_isPlan 72 = .ok (.aload_n 0, 1) := by decide +kernel
theorem dX13_isPlan_73 : decode cX13_isPlan 73 = .ok (.bipush 14, 2) := by decide +kernel
theorem dX13_isPlan_75 : decode cX13_isPlan 75 = .ok (.invokevirtual 127, 3) := by decide +kernel
theorem dX13_isPlan_78 : decode cX13_isPlan 78 = .ok (.ifCond .eq 14, 3) := by decide +kernel
theorem dX13_isPlan_81 : decode cX13_isPlan 81 = .ok (.aload_n 0, 1) := by decide +kernel
theorem dX13_isPlan_82 : decode cX13_isPlan 82 = .ok (.invokevirtual 150, 3) := by decide +kernel
theorem dX13_isPlan_85 : decode cX13_isPlan 85 = .ok (.ifCond .eq 7, 3) := by decide +kernel
theorem dX13_isPlan_88 : decode cX13_isPlan 88 = .ok (.iconst 1, 1) := by decide +kernel
theorem dX13_isPlan_89 : decode cX13_isPlan 89 = .ok (.goto 4, 3) := by decide +kernel
theorem dX13_isPlan_92 : decode cX13_isPlan 92 = .ok (.iconst 0, 1) := by decide +kernel
theorem dX13_isPlan_93 : decode cX13_isPlan 93 = .ok (.istore_n 1, 1) := by decide +kernel
theorem dX13_isPlan_94 : decode cX13_isPlan 94 = .ok (.iload_n 1, 1) := by decide +kernel
theorem dX13_isPlan_95 : decode cX13_isPlan 95 = .ok (.ifCond .eq 12, 3) := by decide +kernel
theorem dX13_isPlan_98 : decode cX13_isPlan 98 = .ok (.aload_n 0, 1) := by decide +kernel
theorem dX13_isPlan_99 : decode cX13_isPlan 99 = .ok (.bipush 59, 2) := by decide +kernel
theorem dX13_isPlan_101 : decode cX13_isPlan 101 = .ok (.invokevirtual 153, 3) := by decide +kernel
theorem dX13_isPlan_104 : decode cX13_isPlan 104 = .ok (.ifCond .ne 5, 3) := by decide +kernel
theorem dX13_isPlan_107 : decode cX13_isPlan 107 = .ok (.iconst 0, 1) := by decide +kernel
theorem dX13_isPlan_108 : decode cX13_isPlan 108 = .ok (.ireturn, 1) := by decide +kernel
theorem dX13_isPlan_109 : decode cX13_isPlan 109 = .ok (.goto (-109), 3) := by decide +kernel
theorem dX13_isPlan_112 : decode cX13_isPlan 112 = .ok (.iconst 1, 1) := by decide +kernel
theorem dX13_isPlan_113 : decode cX13_isPlan 113 = .ok (.ireturn, 1) := by decide +kernel
theorem dX13_isStretchLine_0 : decode cX13_isStretchLine 0 = .ok (.aload_n 0, 1) := by decide +kernel
theorem dX13_isStretchLine_1 : decode cX13_isStretchLine 1 = .ok (.dup, 1) := by decide +kernel
theorem dX13_isStretchLine_2 : decode cX13_isStretchLine 2 = .ok (.getfield 124, 3) := by decide +kernel
theorem dX13_isStretchLine_5 : decode cX13_isStretchLine 5 = .ok (.iconst 1, 1) := by decide +kernel
theorem dX13_isStretchLine_6 : decode cX13_isStretchLine 6 = .ok (.iadd, 1) := by decide +kernel
theorem dX13_isStretchLine_7 : decode cX13_isStretchLine 7 = .ok (.putfield 124, 3) := by decide +kernel
theorem dX13_isStretchLine_10 : decode cX13_isStretchLine 10 = .ok (.aload_n 0, 1) := by decide +kernel
theorem dX13_isStretchLine_11 : decode cX13_isStretchLine 11 = .ok (.bipush 40, 2) := by decide +kernel
theorem dX13_isStretchLine_13 : decode cX13_isStretchLine 13 = .ok (.iconst 1, 1) := by decide +kernel
theorem dX13_isStretchLine_14 : decode cX13_isStretchLine 14 = .ok (.invokevirtual 157, 3) := by decide +kernel
theorem dX13_isStretchLine_17 : decode cX13_isStretchLine 17 = .ok (.ifCond .eq 30, 3) := by decide +kernel
theorem dX13_isStretchLine_20 : decode cX13_isStretchLine 20 = .ok (.aload_n 0, 1) := by decide +kernel
theorem dX13_isStretchLine_21 : decode cX13_isStretchLine 21 = .ok (.iconst 1, 1) := by decide +kernel
theorem dX13_isStretchLine_22 : decode cX13_isStretchLine 22 = .ok (.invokevirtual 130, 3) := by decide +kernel
theorem dX13_isStretchLine_25 : decode cX13_isStretchLine 25 = .ok (.ifCond .eq 22, 3) := by decide +kernel
theorem dX13_isStretchLine_28 : decode cX13_isStretchLine 28 = .ok (.aload_n 0, 1) := by decide +kernel
theorem dX13_isStretchLine_29 : decode cX13_isStretchLine 29 = .ok (.bipush 41, 2) := by decide +kernel
theorem dX13_isStretchLine_31 : decode cX13_isStretchLine 31 = .ok (.bipush 6, 2) := by decide +kernel
theorem dX13_isStretchLine_33 : decode cX13_isStretchLine 33 = .ok (.invokevirtual 157, 3) := by decide +kernel
theorem dX13_isStretchLine_36 : decode cX13_isStretchLine 36 = .ok (.ifCond .eq 11, 3) := by decide +kernel
theorem dX13_isStretchLine_39 : decode cX13_isStretchLine 39 = .ok (.aload_n 0, 1) := by decide +kernel
theorem dX13_isStretchLine_40 : decode cX13_isStretchLine 40 = .ok (.iconst 2, 1) := by decide +kernel
theorem dX13_isStretchLine_41 : decode cX13_isStretchLine 41 = .ok (.invokevirtual 130, 3) := by decide +kernel
theorem dX13_isStretchLine_44 : decode cX13_isStretchLine 44 = .ok (.ifCond .ne 5, 3) := by decide +kernel
theorem dX13_isStretchLine_47 : decode cX13_isStretchLine 47 = .ok (.iconst 0, 1) := by decide +kernel
theorem dX13_isStretchLine_48 : decode cX13_isStretchLine 48 = .ok (.ireturn, 1) := by decide +kernel
theorem dX13_isStretchLine_49 : decode cX13_isStretchLine 49 = .ok (.aload_n 0, 1) := by decide +kernel
theorem dX13_isStretchLine_50 : decode cX13_isStretchLine 50 = .ok (.getfield 26, 3) := by decide +kernel
theorem dX13_isStretchLine_53 : decode cX13_isStretchLine 53 = .ok (.aload_n 0, 1) := by decide +kernel
theorem dX13_isStretchLine_54 : decode cX13_isStretchLine 54 = .ok (.getfield 124, 3) := by decide +kernel
theorem dX13_isStretchLine_57 : decode cX13_isStretchLine 57 = .ok (.bipush 19, 2) := by decide +kernel
theorem dX13_isStretchLine_59 : decode cX13_isStretchLine 59 = .ok (.iastore, 1) := by decide +kernel
theorem dX13_isStretchLine_60 : decode cX13_isStretchLine 60 = .ok (.aload_n 0, 1) := by decide +kernel
theorem dX13_isStretchLine_61 : decode cX13_isStretchLine 61 = .ok (.bipush 45, 2) := by decide +kernel
theorem dX13_isStretchLine_63 : decode cX13_isStretchLine 63 = .ok (.invokevirtual 153, 3) := by decide +kernel
theorem dX13_isStretchLine_66 : decode cX13_isStretchLine 66 = .ok (.ifCond .ne 13, 3) := by decide +kernel
theorem dX13_isStretchLine_69 : decode cX13_isStretchLine 69 = .ok (.aload_n 0, 1) := by decide +kernel
theorem dX13_isStretchLine_70 : decode cX13_isStretchLine 70 = .ok (.getfield 26, 3) := by decide +kernel
theorem dX13_isStretchLine_73 : decode cX13_isStretchLine 73 = .ok (.aload_n 0, 1) := by decide +kernel
theorem dX13_isStretchLine_74 : decode cX13_isStretchLine 74 = .ok (.getfield 124, 3) := by decide +kernel
theorem dX13_isStretchLine_77 : decode cX13_isStretchLine 77 = .ok (.iconst 0, 1) := by decide +kernel
theorem dX13_isStretchLine_78 : decode cX13_isStretchLine 78 = .ok (.iastore, 1) := by decide +kernel
theorem dX13_isStretchLine_79 : decode cX13_isStretchLine 79 = .ok (.aload_n 0, 1) := by decide +kernel
theorem dX13_isStretchLine_80 : decode cX13_isStretchLine 80 = .ok (.bipush 41, 2) := by decide +kernel
theorem dX13_isStretchLine_82 : decode cX13_isStretchLine 82 = .ok (.bipush 7, 2) := by decide +kernel
theorem dX13_isStretchLine_84 : decode cX13_isStretchLine 84 = .ok (.invokevirtual 157, 3) := by decide +kernel
theorem dX13_isStretchLine_87 : decode cX13_isStretchLine 87 = .ok (.ifCond .eq 26, 3) := by decide +kernel
theorem dX13_isStretchLine_90 : decode cX13_isStretchLine 90 = .ok (.aload_n 0, 1) := by decide +kernel
theorem dX13_isStretchLine_91 : decode cX13_isStretchLine 91 = .ok (.iconst 3, 1) := by decide +kernel
theorem dX13_isStretchLine_92 : decode cX13_isStretchLine 92 = .ok (.invokevirtual 130, 3) := by decide +kernel
theorem dX13_isStretchLine_95 : decode cX13_isStretchLine 95 = .ok (.ifCond .eq 18, 3) := by decide +kernel
theorem dX13_isStretchLine_98 : decode cX13_isStretchLine 98 = .ok (.aload_n 0, 1) := by decide +kernel
theorem dX13_isStretchLine_99 : decode cX13_isStretchLine 99 = .ok (.bipush 41, 2) := by decide +kernel
theorem dX13_isStretchLine_101 : decode cX13_isStretchLine 101 = .ok (.bipush 8, 2) := by decide +kernel
theorem dX13_isStretchLine_103 : decode cX13_isStretchLine 103 = .ok (.invokevirtual 157, 3) := by decide +kernel
theorem dX13_isStretchLine_106 : decode cX13_isStretchLine 106 = .ok (.ifCond .eq 7, 3) := by decide +kernel
theorem dX13_isStretchLine_109 : decode cX13_isStretchLine 109 = .ok (.iconst 1, 1) := by decide +kernel
theorem dX13_isStretchLine_110 : decode cX13_isStretchLine 110 = .ok (.goto 4, 3) := by decide +kernel
theorem dX13_isStretchLine_113 : decode cX13_isStretchLine 113 = .ok (.iconst 0, 1) := by decide +kernel
theorem dX13_isStretchLine_114 : decode cX13_isStretchLine 114 = .ok (.ireturn, 1) := by decide +kernel
theorem dX13_isHorseLine_0 : decode cX13_isHorseLine 0 = .ok (.aload_n 0, 1) := by decide +kernel
theorem dX13_isHorseLine_1 : decode cX13_isHorseLine 1 = .ok (.dup, 1) := by decide +kernel
theorem dX13_isHorseLine_2 : decode cX13_isHorseLine 2 = .ok (.getfield 124, 3) := by decide +kernel
theorem dX13_isHorseLine_5 : decode cX13_isHorseLine 5 = .ok (.iconst 1, 1) := by decide +kernel
theorem dX13_isHorseLine_6 : decode cX13_isHorseLine 6 = .ok (.iadd, 1) := by decide +kernel
theorem dX13_isHorseLine_7 : decode cX13_isHorseLine 7 = .ok (.putfield 124, 3) := by decide +kernel
theorem dX13_isHorseLine_10 : decode cX13_isHorseLine 10 = .ok (.aload_n 0, 1) := by decide +kernel
theorem dX13_isHorseLine_11 : decode cX13_isHorseLine 11 = .ok (.bipush 40, 2) := by decide +kernel
theorem dX13_isHorseLine_13 : decode cX13_isHorseLine 13 = .ok (.iconst 2, 1) := by decide +kernel
theorem dX13_isHorseLine_14 : decode cX13_isHorseLine 14 = .ok (.invokevirtual 157, 3) := by decide +kernel
theorem dX13_isHorseLine_17 : decode cX13_isHorseLine 17 = .ok (.ifCond .eq 62, 3) := by decide +kernel
theorem dX13_isHorseLine_20 : decode cX13_isHorseLine 20 = .ok (.aload_n 0, 1) := by decide +kernel
theorem dX13_isHorseLine_21 : decode cX13_isHorseLine 21 = .ok (.iconst 5, 1) := by decide +kernel
theorem dX13_isHorseLine_22 : decode cX13_isHorseLine 22 = .ok (.invokevirtual 130, 3) := by decide +kernel
theorem dX13_isHorseLine_25 : decode cX13_isHorseLine 25 = .ok (.ifCond .eq 54, 3) := by decide +kernel
theorem dX13_isHorseLine_28 : decode cX13_isHorseLine 28 = .ok (.aload_n 0, 1) := by decide +kernel
theorem dX13_isHorseLine_29 : decode cX13_isHorseLine 29 = .ok (.bipush 41, 2) := by decide +kernel
theorem dX13_isHorseLine_31 : decode cX13_isHorseLine 31 = .ok (.bipush 9, 2) := by decide +kernel
theorem dX13_isHorseLine_33 : decode cX13_isHorseLine 33 = .ok (.invokevirtual 157, 3) := by decide +kernel
theorem dX13_isHorseLine_36 : decode cX13_isHorseLine 36 = .ok (.ifCond .eq 43, 3) := by decide +kernel
theorem dX13_isHorseLine_39 : decode cX13_isHorseLine 39 = .ok (.aload_n 0, 1) := by decide +kernel
theorem dX13_isHorseLine_40 : decode cX13_isHorseLine 40 = .ok (.bipush 6, 2) := by decide +kernel
theorem dX13_isHorseLine_42 : decode cX13_isHorseLine 42 = .ok (.invokevirtual 130, 3) := by decide +kernel
theorem dX13_isHorseLine_45 : decode cX13_isHorseLine 45 = .ok (.ifCond .eq 34, 3) := by decide +kernel
theorem dX13_isHorseLine_48 : decode cX13_isHorseLine 48 = .ok (.aload_n 0, 1) := by decide +kernel
theorem dX13_isHorseLine_49 : decode cX13_isHorseLine 49 = .ok (.bipush 41, 2) := by decide +kernel
theorem dX13_isHorseLine_51 : decode cX13_isHorseLine 51 = .ok (.bipush 10, 2) := by decide +kernel
theorem dX13_isHorseLine_53 : decode cX13_isHorseLine 53 = .ok (.invokevirtual 157, 3) := by decide +kernel
theorem dX13_isHorseLine_56 : decode cX13_isHorseLine 56 = .ok (.ifCond .eq 23, 3) := by decide +kernel
theorem dX13_isHorseLine_59 : decode cX13_isHorseLine 59 = .ok (.aload_n 0, 1) := by decide +kernel
theorem dX13_isHorseLine_60 : decode cX13_isHorseLine 60 = .ok (.bipush 7, 2) := by decide +kernel
theorem dX13_isHorseLine_62 : decode cX13_isHorseLine 62 = .ok (.invokevirtual 130, 3) := by decide +kernel
theorem dX13_isHorseLine_65 : decode cX13_isHorseLine 65 = .ok (.ifCond .eq 14, 3) := by decide +kernel
theorem dX13_isHorseLine_68 : decode cX13_isHorseLine 68 = .ok (.aload_n 0, 1) := by decide +kernel
theorem dX13_isHorseLine_69 : decode cX13_isHorseLine 69 = .ok (.bipush 41, 2) := by decide +kernel
theorem dX13_isHorseLine_71 : decode cX13_isHorseLine 71 = .ok (.bipush 11, 2) := by decide +kernel
theorem dX13_isHorseLine_73 : decode cX13_isHorseLine 73 = .ok (.invokevirtual 157, 3) := by decide +kernel
theorem dX13_isHorseLine_76 : decode cX13_isHorseLine 76 = .ok (.ifCond .ne 5, 3) := by decide +kernel
theorem dX13_isHorseLine_79 : decode cX13_isHorseLine 79 = .ok (.iconst 0, 1) := by decide +kernel
theorem dX13_isHorseLine_80 : decode cX13_isHorseLine 80 = .ok (.ireturn, 1) := by decide +kernel
theorem dX13_isHorseLine_81 : decode cX13_isHorseLine 81 = .ok (.aload_n 0, 1) := by decide +kernel
theorem dX13_isHorseLine_82 : decode cX13_isHorseLine 82 = .ok (.bipush 8, 2) := by decide +kernel
theorem dX13_isHorseLine_84 : decode cX13_isHorseLine 84 = .ok (.invokevirtual 127, 3) := by decide +kernel
theorem dX13_isHorseLine_87 : decode cX13_isHorseLine 87 = .ok (.ifCond .eq 12, 3) := by decide +kernel
theorem dX13_isHorseLine_90 : decode cX13_isHorseLine 90 = .ok (.aload_n 0, 1) := by decide +kernel
theorem dX13_isHorseLine_91 : decode cX13_isHorseLine 91 = .ok (.bipush 8, 2) := by decide +kernel
theorem dX13_isHorseLine_93 : decode cX13_isHorseLine 93 = .ok (.bipush 12, 2) := by decide +kernel
theorem dX13_isHorseLine_95 : decode cX13_isHorseLine 95 = .ok (.invokevirtual 157, 3) := by decide +kernel
theorem dX13_isHorseLine_98 : decode cX13_isHorseLine 98 = .ok (.pop, 1) := by decide +kernel
theorem dX13_isHorseLine_99 : decode cX13_isHorseLine 99 = .ok (.iconst 1, 1) := by decide +kernel
theorem dX13_isHorseLine_100 : decode cX13_isHorseLine 100 = .ok (.ireturn, 1) := by decide +kernel
theorem dX13_isLogLine_0 : decode cX13_isLogLine 0 = .ok (.aload_n 0, 1) := by decide +kernel
theorem dX13_isLogLine_1 : decode cX13_isLogLine 1 = .ok (.dup, 1) := by decide +kernel
theorem dX13_isLogLine_2 : decode cX13_isLogLine 2 = .ok (.getfield 124, 3) := by decide +kernel
theorem dX13_isLogLine_5 : decode cX13_isLogLine 5 = .ok (.iconst 1, 1) := by decide +kernel
theorem dX13_isLogLine_6 : decode cX13_isLogLine 6 = .ok (.iadd, 1) := by decide +kernel
theorem dX13_isLogLine_7 : decode cX13_isLogLine 7 = .ok (.putfield 124, 3) := by decide +kernel
theorem dX13_isLogLine_10 : decode cX13_isLogLine 10 = .ok (.aload_n 0, 1) := by decide +kernel
theorem dX13_isLogLine_11 : decode cX13_isLogLine 11 = .ok (.bipush 40, 2) := by decide +kernel
theorem dX13_isLogLine_13 : decode cX13_isLogLine 13 = .ok (.iconst 3, 1) := by decide +kernel
theorem dX13_isLogLine_14 : decode cX13_isLogLine 14 = .ok (.invokevirtual 157, 3) := by decide +kernel
theorem dX13_isLogLine_17 : decode cX13_isLogLine 17 = .ok (.ifCond .eq 27, 3) := by decide +kernel
theorem dX13_isLogLine_20 : decode cX13_isLogLine 20 = .ok (.aload_n 0, 1) := by decide +kernel
theorem dX13_isLogLine_21 : decode cX13_isLogLine 21 = .ok (.bipush 10, 2) := by decide +kernel
theorem dX13_isLogLine_23 : decode cX13_isLogLine 23 = .ok (.invokevirtual 130, 3) := by decide +kernel
theorem dX13_isLogLine_26 : decode cX13_isLogLine 26 = .ok (.ifCond .eq 18, 3) := by decide +kernel
theorem dX13_isLogLine_29 : decode cX13_isLogLine 29 = .ok (.aload_n 0, 1) := by decide +kernel
theorem dX13_isLogLine_30 : decode cX13_isLogLine 30 = .ok (.bipush 41, 2) := by decide +kernel
theorem dX13_isLogLine_32 : decode cX13_isLogLine 32 = .ok (.bipush 13, 2) := by decide +kernel
theorem dX13_isLogLine_34 : decode cX13_isLogLine 34 = .ok (.invokevirtual 157, 3) := by decide +kernel
theorem dX13_isLogLine_37 : decode cX13_isLogLine 37 = .ok (.ifCond .eq 7, 3) := by decide +kernel
theorem dX13_isLogLine_40 : decode cX13_isLogLine 40 = .ok (.iconst 1, 1) := by decide +kernel
theorem dX13_isLogLine_41 : decode cX13_isLogLine 41 = .ok (.goto 4, 3) := by decide +kernel
theorem dX13_isLogLine_44 : decode cX13_isLogLine 44 = .ok (.iconst 0, 1) := by decide +kernel
theorem dX13_isLogLine_45 : decode cX13_isLogLine 45 = .ok (.ireturn, 1) := by decide +kernel
theorem dX13_isHaulLine_0 : decode cX13_isHaulLine 0 = .ok (.aload_n 0, 1) := by decide +kernel
theorem dX13_isHaulLine_1 : decode cX13_isHaulLine 1 = .ok (.getfield 26, 3) := by decide +kernel
theorem dX13_isHaulLine_4 : decode cX13_isHaulLine 4 = .ok (.aload_n 0, 1) := by decide +kernel
theorem dX13_isHaulLine_5 : decode cX13_isHaulLine 5 = .ok (.getfield 124, 3) := by decide +kernel
theorem dX13_isHaulLine_8 : decode cX13_isHaulLine 8 = .ok (.iconst 4, 1) := by decide +kernel
theorem dX13_isHaulLine_9 : decode cX13_isHaulLine 9 = .ok (.iastore, 1) := by decide +kernel
theorem dX13_isHaulLine_10 : decode cX13_isHaulLine 10 = .ok (.aload_n 0, 1) := by decide +kernel
theorem dX13_isHaulLine_11 : decode cX13_isHaulLine 11 = .ok (.dup, 1) := by decide +kernel
theorem dX13_isHaulLine_12 : decode cX13_isHaulLine 12 = .ok (.getfield 124, 3) := by decide +kernel
theorem dX13_isHaulLine_15 : decode cX13_isHaulLine 15 = .ok (.iconst 1, 1) := by decide +kernel
theorem dX13_isHaulLine_16 : decode cX13_isHaulLine 16 = .ok (.iadd, 1) := by decide +kernel
theorem dX13_isHaulLine_17 : decode cX13_isHaulLine 17 = .ok (.putfield 124, 3) := by decide +kernel
theorem dX13_isHaulLine_20 : decode cX13_isHaulLine 20 = .ok (.aload_n 0, 1) := by decide +kernel
theorem dX13_isHaulLine_21 : decode cX13_isHaulLine 21 = .ok (.getfield 39, 3) := by decide +kernel
theorem dX13_isHaulLine_24 : decode cX13_isHaulLine 24 = .ok (.getfield 161, 3) := by decide +kernel
theorem dX13_isHaulLine_27 : decode cX13_isHaulLine 27 = .ok (.bipush 12, 2) := by decide +kernel
theorem dX13_isHaulLine_29 : decode cX13_isHaulLine 29 = .ok (.invokestatic 77, 3) := by decide +kernel
theorem dX13_isHaulLine_32 : decode cX13_isHaulLine 32 = .ok (.istore_n 1, 1) := by decide +kernel
theorem dX13_isHaulLine_33 : decode cX13_isHaulLine 33 = .ok (.aload_n 0, 1) := by decide +kernel
theorem dX13_isHaulLine_34 : decode cX13_isHaulLine 34 = .ok (.getfield 39, 3) := by decide +kernel
theorem dX13_isHaulLine_37 : decode cX13_isHaulLine 37 = .ok (.dup, 1) := by decide +kernel
theorem dX13_isHaulLine_38 : decode cX13_isHaulLine 38 = .ok (.getfield 161, 3) := by decide +kernel
theorem dX13_isHaulLine_41 : decode cX13_isHaulLine 41 = .ok (.iconst 1, 1) := by decide +kernel
theorem dX13_isHaulLine_42 : decode cX13_isHaulLine 42 = .ok (.iadd, 1) := by decide +kernel
theorem dX13_isHaulLine_43 : decode cX13_isHaulLine 43 = .ok (.putfield 161, 3) := by decide +kernel
theorem dX13_isHaulLine_46 : decode cX13_isHaulLine 46 = .ok (.aload_n 0, 1) := by decide +kernel
theorem dX13_isHaulLine_47 : decode cX13_isHaulLine 47 = .ok (.getfield 39, 3) := by decide +kernel
theorem dX13_isHaulLine_50 : decode cX13_isHaulLine 50 = .ok (.getfield 164, 3) := by decide +kernel
theorem dX13_isHaulLine_53 : decode cX13_isHaulLine 53 = .ok (.iload_n 1, 1) := by decide +kernel
theorem dX13_isHaulLine_54 : decode cX13_isHaulLine 54 = .ok (.aload_n 0, 1) := by decide +kernel
theorem dX13_isHaulLine_55 : decode cX13_isHaulLine 55 = .ok (.getfield 39, 3) := by decide +kernel
theorem dX13_isHaulLine_58 : decode cX13_isHaulLine 58 = .ok (.getfield 136, 3) := by decide +kernel
theorem dX13_isHaulLine_61 : decode cX13_isHaulLine 61 = .ok (.iastore, 1) := by decide +kernel
theorem dX13_isHaulLine_62 : decode cX13_isHaulLine 62 = .ok (.aload_n 0, 1) := by decide +kernel
theorem dX13_isHaulLine_63 : decode cX13_isHaulLine 63 = .ok (.bipush 40, 2) := by decide +kernel
theorem dX13_isHaulLine_65 : decode cX13_isHaulLine 65 = .ok (.bipush 14, 2) := by decide +kernel
theorem dX13_isHaulLine_67 : decode cX13_isHaulLine 67 = .ok (.invokevirtual 157, 3) := by decide +kernel
theorem dX13_isHaulLine_70 : decode cX13_isHaulLine 70 = .ok (.ifCond .eq 19, 3) := by decide +kernel
theorem dX13_isHaulLine_73 : decode cX13_isHaulLine 73 = .ok (.aload_n 0, 1) := by decide +kernel
theorem dX13_isHaulLine_74 : decode cX13_isHaulLine 74 = .ok (.bipush 12, 2) := by decide +kernel
theorem dX13_isHaulLine_76 : decode cX13_isHaulLine 76 = .ok (.invokevirtual 130, 3) := by decide +kernel
theorem dX13_isHaulLine_79 : decode cX13_isHaulLine 79 = .ok (.ifCond .eq 10, 3) := by decide +kernel
theorem dX13_isHaulLine_82 : decode cX13_isHaulLine 82 = .ok (.aload_n 0, 1) := by decide +kernel
theorem dX13_isHaulLine_83 : decode cX13_isHaulLine 83 = .ok (.invokevirtual 167, 3) := by decide +kernel
theorem dX13_isHaulLine_86 : decode cX13_isHaulLine 86 = .ok (.ifCond .ne 5, 3) := by decide +kernel
theorem dX13_isHaulLine_89 : decode cX13_isHaulLine 89 = .ok (.iconst 0, 1) := by decide +kernel
theorem dX13_isHaulLine_90 : decode cX13_isHaulLine 90 = .ok (.ireturn, 1) := by decide +kernel
theorem dX13_isHaulLine_91 : decode cX13_isHaulLine 91 = .ok (.aload_n 0, 1) := by decide +kernel
theorem dX13_isHaulLine_92 : decode cX13_isHaulLine 92 = .ok (.getfield 39, 3) := by decide +kernel
theorem dX13_isHaulLine_95 : decode cX13_isHaulLine 95 = .ok (.getfield 170, 3) := by decide +kernel
theorem dX13_isHaulLine_98 : decode cX13_isHaulLine 98 = .ok (.iload_n 1, 1) := by decide +kernel
theorem dX13_isHaulLine_99 : decode cX13_isHaulLine 99 = .ok (.aload_n 0, 1) := by decide +kernel
theorem dX13_isHaulLine_100 : decode cX13_isHaulLine 100 = .ok (.getfield 39, 3) := by decide +kernel
theorem dX13_isHaulLine_103 : decode cX13_isHaulLine 103 = .ok (.getfield 136, 3) := by decide +kernel
theorem dX13_isHaulLine_106 : decode cX13_isHaulLine 106 = .ok (.iastore, 1) := by decide +kernel
theorem dX13_isHaulLine_107 : decode cX13_isHaulLine 107 = .ok (.aload_n 0, 1) := by decide +kernel
theorem dX13_isHaulLine_108 : decode cX13_isHaulLine 108 = .ok (.bipush 13, 2) := by decide +kernel
theorem dX13_isHaulLine_110 : decode cX13_isHaulLine 110 = .ok (.invokevirtual 130, 3) := by decide +kernel
theorem dX13_isHaulLine_113 : decode cX13_isHaulLine 113 = .ok (.ifCond .eq 12, 3) := by decide +kernel
theorem dX13_isHaulLine_116 : decode cX13_isHaulLine 116 = .ok (.aload_n 0, 1) := by decide +kernel
theorem dX13_isHaulLine_117 : decode cX13_isHaulLine 117 = .ok (.invokevirtual 173, 3) := by decide +kernel
theorem dX13_isHaulLine_120 : decode cX13_isHaulLine 120 = .ok (.ifCond .ne 5, 3) := by decide +kernel
theorem dX13_isHaulLine_123 : decode cX13_isHaulLine 123 = .ok (.iconst 0, 1) := by decide +kernel
theorem dX13_isHaulLine_124 : decode cX13_isHaulLine 124 = .ok (.ireturn, 1) := by decide +kernel
theorem dX13_isHaulLine_125 : decode cX13_isHaulLine 125 = .ok (.aload_n 0, 1) := by decide +kernel
theorem dX13_isHaulLine_126 : decode cX13_isHaulLine 126 = .ok (.getfield 39, 3) := by decide +kernel
theorem dX13_isHaulLine_129 : decode cX13_isHaulLine 129 = .ok (.getfield 176, 3) := by decide +kernel
theorem dX13_isHaulLine_132 : decode cX13_isHaulLine 132 = .ok (.iload_n 1, 1) := by decide +kernel
theorem dX13_isHaulLine_133 : decode cX13_isHaulLine 133 = .ok (.aload_n 0, 1) := by decide +kernel
theorem dX13_isHaulLine_134 : decode cX13_isHaulLine 134 = .ok (.getfield 39, 3) := by decide +kernel
theorem dX13_isHaulLine_137 : decode cX13_isHaulLine 137 = .ok (.getfield 136, 3) := by decide +kernel
theorem dX13_isHaulLine_140 : decode cX13_isHaulLine 140 = .ok (.iastore, 1) := by decide +kernel
theorem dX13_isHaulLine_141 : decode cX13_isHaulLine 141 = .ok (.iconst 1, 1) := by decide +kernel
theorem dX13_isHaulLine_142 : decode cX13_isHaulLine 142 = .ok (.ireturn, 1) := by decide +kernel
theorem dX13_isWaitLine_0 : decode cX13_isWaitLine 0 = .ok (.aload_n 0, 1) := by decide +kernel
theorem dX13_isWaitLine_1 : decode cX13_isWaitLine 1 = .ok (.getfield 26, 3) := by decide +kernel
theorem dX13_isWaitLine_4 : decode cX13_isWaitLine 4 = .ok (.aload_n 0, 1) := by decide +kernel
theorem dX13_isWaitLine_5 : decode cX13_isWaitLine 5 = .ok (.getfield 124, 3) := by decide +kernel
theorem dX13_isWaitLine_8 : decode cX13_isWaitLine 8 = .ok (.iconst 5, 1) := by decide +kernel
theorem dX13_isWaitLine_9 : decode cX13_isWaitLine 9 = .ok (.iastore, 1) := by decide +kernel
theorem dX13_isWaitLine_10 : decode cX13_isWaitLine 10 = .ok (.aload_n 0, 1) := by decide +kernel
theorem dX13_isWaitLine_11 : decode cX13_isWaitLine 11 = .ok (.dup, 1) := by decide +kernel
theorem dX13_isWaitLine_12 : decode cX13_isWaitLine 12 = .ok (.getfield 124, 3) := by decide +kernel
theorem dX13_isWaitLine_15 : decode cX13_isWaitLine 15 = .ok (.iconst 1, 1) := by decide +kernel
theorem dX13_isWaitLine_16 : decode cX13_isWaitLine 16 = .ok (.iadd, 1) := by decide +kernel
theorem dX13_isWaitLine_17 : decode cX13_isWaitLine 17 = .ok (.putfield 124, 3) := by decide +kernel
theorem dX13_isWaitLine_20 : decode cX13_isWaitLine 20 = .ok (.aload_n 0, 1) := by decide +kernel
theorem dX13_isWaitLine_21 : decode cX13_isWaitLine 21 = .ok (.getfield 39, 3) := by decide +kernel
theorem dX13_isWaitLine_24 : decode cX13_isWaitLine 24 = .ok (.getfield 179, 3) := by decide +kernel
theorem dX13_isWaitLine_27 : decode cX13_isWaitLine 27 = .ok (.bipush 12, 2) := by decide +kernel
theorem dX13_isWaitLine_29 : decode cX13_isWaitLine 29 = .ok (.invokestatic 77, 3) := by decide +kernel
theorem dX13_isWaitLine_32 : decode cX13_isWaitLine 32 = .ok (.istore_n 1, 1) := by decide +kernel
theorem dX13_isWaitLine_33 : decode cX13_isWaitLine 33 = .ok (.aload_n 0, 1) := by decide +kernel
theorem dX13_isWaitLine_34 : decode cX13_isWaitLine 34 = .ok (.getfield 39, 3) := by decide +kernel
theorem dX13_isWaitLine_37 : decode cX13_isWaitLine 37 = .ok (.dup, 1) := by decide +kernel
theorem dX13_isWaitLine_38 : decode cX13_isWaitLine 38 = .ok (.getfield 179, 3) := by decide +kernel
theorem dX13_isWaitLine_41 : decode cX13_isWaitLine 41 = .ok (.iconst 1, 1) := by decide +kernel
theorem dX13_isWaitLine_42 : decode cX13_isWaitLine 42 = .ok (.iadd, 1) := by decide +kernel
theorem dX13_isWaitLine_43 : decode cX13_isWaitLine 43 = .ok (.putfield 179, 3) := by decide +kernel
theorem dX13_isWaitLine_46 : decode cX13_isWaitLine 46 = .ok (.aload_n 0, 1) := by decide +kernel
theorem dX13_isWaitLine_47 : decode cX13_isWaitLine 47 = .ok (.getfield 39, 3) := by decide +kernel
theorem dX13_isWaitLine_50 : decode cX13_isWaitLine 50 = .ok (.getfield 182, 3) := by decide +kernel
theorem dX13_isWaitLine_53 : decode cX13_isWaitLine 53 = .ok (.iload_n 1, 1) := by decide +kernel
theorem dX13_isWaitLine_54 : decode cX13_isWaitLine 54 = .ok (.aload_n 0, 1) := by decide +kernel
theorem dX13_isWaitLine_55 : decode cX13_isWaitLine 55 = .ok (.getfield 39, 3) := by decide +kernel
theorem dX13_isWaitLine_58 : decode cX13_isWaitLine 58 = .ok (.getfield 136, 3) := by decide +kernel
theorem dX13_isWaitLine_61 : decode cX13_isWaitLine 61 = .ok (.iastore, 1) := by decide +kernel
theorem dX13_isWaitLine_62 : decode cX13_isWaitLine 62 = .ok (.aload_n 0, 1) := by decide +kernel
theorem dX13_isWaitLine_63 : decode cX13_isWaitLine 63 = .ok (.bipush 40, 2) := by decide +kernel
theorem dX13_isWaitLine_65 : decode cX13_isWaitLine 65 = .ok (.bipush 15, 2) := by decide +kernel
theorem dX13_isWaitLine_67 : decode cX13_isWaitLine 67 = .ok (.invokevirtual 157, 3) := by decide +kernel
theorem dX13_isWaitLine_70 : decode cX13_isWaitLine 70 = .ok (.ifCond .eq 39, 3) := by decide +kernel
theorem dX13_isWaitLine_73 : decode cX13_isWaitLine 73 = .ok (.aload_n 0, 1) := by decide +kernel
theorem dX13_isWaitLine_74 : decode cX13_isWaitLine 74 = .ok (.bipush 15, 2) := by decide +kernel
theorem dX13_isWaitLine_76 : decode cX13_isWaitLine 76 = .ok (.invokevirtual 130, 3) := by decide +kernel
theorem dX13_isWaitLine_79 : decode cX13_isWaitLine 79 = .ok (.ifCond .eq 30, 3) := by decide +kernel
theorem dX13_isWaitLine_82 : decode cX13_isWaitLine 82 = .ok (.aload_n 0, 1) := by decide +kernel
theorem dX13_isWaitLine_83 : decode cX13_isWaitLine 83 = .ok (.bipush 40, 2) := by decide +kernel
theorem dX13_isWaitLine_85 : decode cX13_isWaitLine 85 = .ok (.bipush 16, 2) := by decide +kernel
theorem dX13_isWaitLine_87 : decode cX13_isWaitLine 87 = .ok (.invokevirtual 157, 3) := by decide +kernel
theorem dX13_isWaitLine_90 : decode cX13_isWaitLine 90 = .ok (.ifCond .eq 19, 3) := by decide +kernel
theorem dX13_isWaitLine_93 : decode cX13_isWaitLine 93 = .ok (.aload_n 0, 1) := by decide +kernel
theorem dX13_isWaitLine_94 : decode cX13_isWaitLine 94 = .ok (.bipush 13, 2) := by decide +kernel
theorem dX13_isWaitLine_96 : decode cX13_isWaitLine 96 = .ok (.invokevirtual 130, 3) := by decide +kernel
theorem dX13_isWaitLine_99 : decode cX13_isWaitLine 99 = .ok (.ifCond .eq 10, 3) := by decide +kernel
theorem dX13_isWaitLine_102 : decode cX13_isWaitLine 102 = .ok (.aload_n 0, 1) := by decide +kernel
theorem dX13_isWaitLine_103 : decode cX13_isWaitLine 103 = .ok (.invokevirtual 173, 3) := by decide +kernel
theorem dX13_isWaitLine_106 : decode cX13_isWaitLine 106 = .ok (.ifCond .ne 5, 3) := by decide +kernel
theorem dX13_isWaitLine_109 : decode cX13_isWaitLine 109 = .ok (.iconst 0, 1) := by decide +kernel
theorem dX13_isWaitLine_110 : decode cX13_isWaitLine 110 = .ok (.ireturn, 1) := by decide +kernel
theorem dX13_isWaitLine_111 : decode cX13_isWaitLine 111 = .ok (.aload_n 0, 1) := by decide +kernel
theorem dX13_isWaitLine_112 : decode cX13_isWaitLine 112 = .ok (.getfield 39, 3) := by decide +kernel
theorem dX13_isWaitLine_115 : decode cX13_isWaitLine 115 = .ok (.getfield 185, 3) := by decide +kernel
theorem dX13_isWaitLine_118 : decode cX13_isWaitLine 118 = .ok (.iload_n 1, 1) := by decide +kernel
theorem dX13_isWaitLine_119 : decode cX13_isWaitLine 119 = .ok (.aload_n 0, 1) := by decide +kernel
theorem dX13_isWaitLine_120 : decode cX13_isWaitLine 120 = .ok (.getfield 39, 3) := by decide +kernel
theorem dX13_isWaitLine_123 : decode cX13_isWaitLine 123 = .ok (.getfield 136, 3) := by decide +kernel
theorem dX13_isWaitLine_126 : decode cX13_isWaitLine 126 = .ok (.iastore, 1) := by decide +kernel
theorem dX13_isWaitLine_127 : decode cX13_isWaitLine 127 = .ok (.iconst 1, 1) := by decide +kernel
theorem dX13_isWaitLine_128 : decode cX13_isWaitLine 128 = .ok (.ireturn, 1) := by decide +kernel
theorem dX13_isTest_0 : decode cX13_isTest 0 = .ok (.aload_n 0, 1) := by decide +kernel
theorem dX13_isTest_1 : decode cX13_isTest 1 = .ok (.invokevirtual 188, 3) := by decide +kernel
theorem dX13_isTest_4 : decode cX13_isTest 4 = .ok (.ifCond .ne 5, 3) := by decide +kernel
theorem dX13_isTest_7 : decode cX13_isTest 7 = .ok (.iconst 0, 1) := by decide +kernel
theorem dX13_isTest_8 : decode cX13_isTest 8 = .ok (.ireturn, 1) := by decide +kernel
theorem dX13_isTest_9 : decode cX13_isTest 9 = .ok (.aload_n 0, 1) := by decide +kernel
theorem dX13_isTest_10 : decode cX13_isTest 10 = .ok (.bipush 25, 2) := by decide +kernel
theorem dX13_isTest_12 : decode cX13_isTest 12 = .ok (.invokevirtual 130, 3) := by decide +kernel
theorem dX13_isTest_15 : decode cX13_isTest 15 = .ok (.ifCond .eq 21, 3) := by decide +kernel
theorem dX13_isTest_18 : decode cX13_isTest 18 = .ok (.aload_n 0, 1) := by decide +kernel
theorem dX13_isTest_19 : decode cX13_isTest 19 = .ok (.invokevirtual 188, 3) := by decide +kernel
theorem dX13_isTest_22 : decode cX13_isTest 22 = .ok (.ifCond .ne 5, 3) := by decide +kernel
theorem dX13_isTest_25 : decode cX13_isTest 25 = .ok (.iconst 0, 1) := by decide +kernel
theorem dX13_isTest_26 : decode cX13_isTest 26 = .ok (.ireturn, 1) := by decide +kernel
theorem dX13_isTest_27 : decode cX13_isTest 27 = .ok (.aload_n 0, 1) := by decide +kernel
theorem dX13_isTest_28 : decode cX13_isTest 28 = .ok (.bipush 25, 2) := by decide +kernel
theorem dX13_isTest_30 : decode cX13_isTest 30 = .ok (.invokevirtual 191, 3) := by decide +kernel
theorem dX13_isTest_33 : decode cX13_isTest 33 = .ok (.goto (-24), 3) := by decide +kernel
theorem dX13_isTest_36 : decode cX13_isTest 36 = .ok (.iconst 1, 1) := by decide +kernel
theorem dX13_isTest_37 : decode cX13_isTest 37 = .ok (.ireturn, 1) := by decide +kernel
theorem dX13_isBoth_0 : decode cX13_isBoth 0 = .ok (.aload_n 0, 1) := by decide +kernel
theorem dX13_isBoth_1 : decode cX13_isBoth 1 = .ok (.invokevirtual 195, 3) := by decide +kernel
theorem dX13_isBoth_4 : decode cX13_isBoth 4 = .ok (.ifCond .ne 5, 3) := by decide +kernel
theorem dX13_isBoth_7 : decode cX13_isBoth 7 = .ok (.iconst 0, 1) := by decide +kernel
theorem dX13_isBoth_8 : decode cX13_isBoth 8 = .ok (.ireturn, 1) := by decide +kernel
theorem dX13_isBoth_9 : decode cX13_isBoth 9 = .ok (.aload_n 0, 1) := by decide +kernel
theorem dX13_isBoth_10 : decode cX13_isBoth 10 = .ok (.bipush 24, 2) := by decide +kernel
theorem dX13_isBoth_12 : decode cX13_isBoth 12 = .ok (.invokevirtual 130, 3) := by decide +kernel
theorem dX13_isBoth_15 : decode cX13_isBoth 15 = .ok (.ifCond .eq 21, 3) := by decide +kernel
theorem dX13_isBoth_18 : decode cX13_isBoth 18 = .ok (.aload_n 0, 1) := by decide +kernel
theorem dX13_isBoth_19 : decode cX13_isBoth 19 = .ok (.invokevirtual 195, 3) := by decide +kernel
theorem dX13_isBoth_22 : decode cX13_isBoth 22 = .ok (.ifCond .ne 5, 3) := by decide +kernel
theorem dX13_isBoth_25 : decode cX13_isBoth 25 = .ok (.iconst 0, 1) := by decide +kernel
theorem dX13_isBoth_26 : decode cX13_isBoth 26 = .ok (.ireturn, 1) := by decide +kernel
theorem dX13_isBoth_27 : decode cX13_isBoth 27 = .ok (.aload_n 0, 1) := by decide +kernel
theorem dX13_isBoth_28 : decode cX13_isBoth 28 = .ok (.bipush 24, 2) := by decide +kernel
theorem dX13_isBoth_30 : decode cX13_isBoth 30 = .ok (.invokevirtual 191, 3) := by decide +kernel
theorem dX13_isBoth_33 : decode cX13_isBoth 33 = .ok (.goto (-24), 3) := by decide +kernel
theorem dX13_isBoth_36 : decode cX13_isBoth 36 = .ok (.iconst 1, 1) := by decide +kernel
theorem dX13_isBoth_37 : decode cX13_isBoth 37 = .ok (.ireturn, 1) := by decide +kernel
theorem dX13_isDeeper_0 : decode cX13_isDeeper 0 = .ok (.aload_n 0, 1) := by decide +kernel
theorem dX13_isDeeper_1 : decode cX13_isDeeper 1 = .ok (.getfield 198, 3) := by decide +kernel
theorem dX13_isDeeper_4 : decode cX13_isDeeper 4 = .ok (.bipush 8, 2) := by decide +kernel
theorem dX13_isDeeper_6 : decode cX13_isDeeper 6 = .ok (.if_icmp .ne 5, 3) := by decide +kernel
theorem dX13_isDeeper_9 : decode cX13_isDeeper 9 = .ok (.iconst 0, 1) := by decide +kernel
theorem dX13_isDeeper_10 : decode cX13_isDeeper 10 = .ok (.ireturn, 1) := by decide +kernel
theorem dX13_isDeeper_11 : decode cX13_isDeeper 11 = .ok (.aload_n 0, 1) := by decide +kernel
theorem dX13_isDeeper_12 : decode cX13_isDeeper 12 = .ok (.dup, 1) := by decide +kernel
theorem dX13_isDeeper_13 : decode cX13_isDeeper 13 = .ok (.getfield 198, 3) := by decide +kernel
theorem dX13_isDeeper_16 : decode cX13_isDeeper 16 = .ok (.iconst 1, 1) := by decide +kernel
theorem dX13_isDeeper_17 : decode cX13_isDeeper 17 = .ok (.iadd, 1) := by decide +kernel
theorem dX13_isDeeper_18 : decode cX13_isDeeper 18 = .ok (.putfield 198, 3) := by decide +kernel
theorem dX13_isDeeper_21 : decode cX13_isDeeper 21 = .ok (.aload_n 0, 1) := by decide +kernel
theorem dX13_isDeeper_22 : decode cX13_isDeeper 22 = .ok (.dup, 1) := by decide +kernel
theorem dX13_isDeeper_23 : decode cX13_isDeeper 23 = .ok (.getfield 124, 3) := by decide +kernel
theorem dX13_isDeeper_26 : decode cX13_isDeeper 26 = .ok (.iconst 1, 1) := by decide +kernel
theorem dX13_isDeeper_27 : decode cX13_isDeeper 27 = .ok (.iadd, 1) := by decide +kernel
theorem dX13_isDeeper_28 : decode cX13_isDeeper 28 = .ok (.putfield 124, 3) := by decide +kernel
theorem dX13_isDeeper_31 : decode cX13_isDeeper 31 = .ok (.iconst 1, 1) := by decide +kernel
theorem dX13_isDeeper_32 : decode cX13_isDeeper 32 = .ok (.ireturn, 1) := by decide +kernel
theorem dX13_isNamed_0 : decode cX13_isNamed 0 = .ok (.aload_n 0, 1) := by decide +kernel
theorem dX13_isNamed_1 : decode cX13_isNamed 1 = .ok (.aload_n 0, 1) := by decide +kernel
theorem dX13_isNamed_2 : decode cX13_isNamed 2 = .ok (.getfield 17, 3) := by decide +kernel
theorem dX13_isNamed_5 : decode cX13_isNamed 5 = .ok (.aload_n 0, 1) := by decide +kernel
theorem dX13_isNamed_6 : decode cX13_isNamed 6 = .ok (.getfield 124, 3) := by decide +kernel
theorem dX13_isNamed_9 : decode cX13_isNamed 9 = .ok (.iaload, 1) := by decide +kernel
theorem dX13_isNamed_10 : decode cX13_isNamed 10 = .ok (.invokevirtual 191, 3) := by decide +kernel
theorem dX13_isNamed_13 : decode cX13_isNamed 13 = .ok (.aload_n 0, 1) := by decide +kernel
theorem dX13_isNamed_14 : decode cX13_isNamed 14 = .ok (.dup, 1) := by decide +kernel
theorem dX13_isNamed_15 : decode cX13_isNamed 15 = .ok (.getfield 124, 3) := by decide +kernel
theorem dX13_isNamed_18 : decode cX13_isNamed 18 = .ok (.iconst 1, 1) := by decide +kernel
theorem dX13_isNamed_19 : decode cX13_isNamed 19 = .ok (.iadd, 1) := by decide +kernel
theorem dX13_isNamed_20 : decode cX13_isNamed 20 = .ok (.putfield 124, 3) := by decide +kernel
theorem dX13_isNamed_23 : decode cX13_isNamed 23 = .ok (.aload_n 0, 1) := by decide +kernel
theorem dX13_isNamed_24 : decode cX13_isNamed 24 = .ok (.getfield 39, 3) := by decide +kernel
theorem dX13_isNamed_27 : decode cX13_isNamed 27 = .ok (.getfield 201, 3) := by decide +kernel
theorem dX13_isNamed_30 : decode cX13_isNamed 30 = .ok (.aload_n 0, 1) := by decide +kernel
theorem dX13_isNamed_31 : decode cX13_isNamed 31 = .ok (.getfield 39, 3) := by decide +kernel
theorem dX13_isNamed_34 : decode cX13_isNamed 34 = .ok (.getfield 204, 3) := by decide +kernel
theorem dX13_isNamed_37 : decode cX13_isNamed 37 = .ok (.aload_n 0, 1) := by decide +kernel
theorem dX13_isNamed_38 : decode cX13_isNamed 38 = .ok (.getfield 39, 3) := by decide +kernel
theorem dX13_isNamed_41 : decode cX13_isNamed 41 = .ok (.getfield 136, 3) := by decide +kernel
theorem dX13_isNamed_44 : decode cX13_isNamed 44 = .ok (.iastore, 1) := by decide +kernel
theorem dX13_isNamed_45 : decode cX13_isNamed 45 = .ok (.aload_n 0, 1) := by decide +kernel
theorem dX13_isNamed_46 : decode cX13_isNamed 46 = .ok (.getfield 39, 3) := by decide +kernel
theorem dX13_isNamed_49 : decode cX13_isNamed 49 = .ok (.dup, 1) := by decide +kernel
theorem dX13_isNamed_50 : decode cX13_isNamed 50 = .ok (.getfield 204, 3) := by decide +kernel
theorem dX13_isNamed_53 : decode cX13_isNamed 53 = .ok (.iconst 1, 1) := by decide +kernel
theorem dX13_isNamed_54 : decode cX13_isNamed 54 = .ok (.iadd, 1) := by decide +kernel
theorem dX13_isNamed_55 : decode cX13_isNamed 55 = .ok (.putfield 204, 3) := by decide +kernel
theorem dX13_isNamed_58 : decode cX13_isNamed 58 = .ok (.aload_n 0, 1) := by decide +kernel
theorem dX13_isNamed_59 : decode cX13_isNamed 59 = .ok (.aload_n 0, 1) := by decide +kernel
theorem dX13_isNamed_60 : decode cX13_isNamed 60 = .ok (.getfield 124, 3) := by decide +kernel
theorem dX13_isNamed_63 : decode cX13_isNamed 63 = .ok (.invokevirtual 191, 3) := by decide +kernel
theorem dX13_isNamed_66 : decode cX13_isNamed 66 = .ok (.aload_n 0, 1) := by decide +kernel
theorem dX13_isNamed_67 : decode cX13_isNamed 67 = .ok (.bipush 40, 2) := by decide +kernel
theorem dX13_isNamed_69 : decode cX13_isNamed 69 = .ok (.iload_n 1, 1) := by decide +kernel
theorem dX13_isNamed_70 : decode cX13_isNamed 70 = .ok (.invokevirtual 157, 3) := by decide +kernel
theorem dX13_isNamed_73 : decode cX13_isNamed 73 = .ok (.ireturn, 1) := by decide +kernel
theorem dX13_isSingle_0 : decode cX13_isSingle 0 = .ok (.aload_n 0, 1) := by decide +kernel
theorem dX13_isSingle_1 : decode cX13_isSingle 1 = .ok (.bipush 23, 2) := by decide +kernel
theorem dX13_isSingle_3 : decode cX13_isSingle 3 = .ok (.invokevirtual 127, 3) := by decide +kernel
theorem dX13_isSingle_6 : decode cX13_isSingle 6 = .ok (.ifCond .eq 37, 3) := by decide +kernel
theorem dX13_isSingle_9 : decode cX13_isSingle 9 = .ok (.aload_n 0, 1) := by decide +kernel
theorem dX13_isSingle_10 : decode cX13_isSingle 10 = .ok (.invokevirtual 207, 3) := by decide +kernel
theorem dX13_isSingle_13 : decode cX13_isSingle 13 = .ok (.ifCond .eq 10, 3) := by decide +kernel
theorem dX13_isSingle_16 : decode cX13_isSingle 16 = .ok (.aload_n 0, 1) := by decide +kernel
theorem dX13_isSingle_17 : decode cX13_isSingle 17 = .ok (.invokevirtual 195, 3) := by decide +kernel
theorem dX13_isSingle_20 : decode cX13_isSingle 20 = .ok (.ifCond .ne 5, 3) := by decide +kernel
theorem dX13_isSingle_23 : decode cX13_isSingle 23 = .ok (.iconst 0, 1) := by decide +kernel
theorem dX13_isSingle_24 : decode cX13_isSingle 24 = .ok (.ireturn, 1) := by decide +kernel
theorem dX13_isSingle_25 : decode cX13_isSingle 25 = .ok (.aload_n 0, 1) := by decide +kernel
theorem dX13_isSingle_26 : decode cX13_isSingle 26 = .ok (.dup, 1) := by decide +kernel
theorem dX13_isSingle_27 : decode cX13_isSingle 27 = .ok (.getfield 198, 3) := by decide +kernel
theorem dX13_isSingle_30 : decode cX13_isSingle 30 = .ok (.iconst 1, 1) := by decide +kernel
theorem dX13_isSingle_31 : decode cX13_isSingle 31 = .ok (.isub, 1) := by decide +kernel
theorem dX13_isSingle_32 : decode cX13_isSingle 32 = .ok (.putfield 198, 3) := by decide +kernel
theorem dX13_isSingle_35 : decode cX13_isSingle 35 = .ok (.aload_n 0, 1) := by decide +kernel
theorem dX13_isSingle_36 : decode cX13_isSingle 36 = .ok (.bipush 23, 2) := by decide +kernel
theorem dX13_isSingle_38 : decode cX13_isSingle 38 = .ok (.invokevirtual 191, 3) := by decide +kernel
theorem dX13_isSingle_41 : decode cX13_isSingle 41 = .ok (.iconst 1, 1) := by decide +kernel
theorem dX13_isSingle_42 : decode cX13_isSingle 42 = .ok (.ireturn, 1) := by decide +kernel
theorem dX13_isSingle_43 : decode cX13_isSingle 43 = .ok (.aload_n 0, 1) := by decide +kernel
theorem dX13_isSingle_44 : decode cX13_isSingle 44 = .ok (.bipush 91, 2) := by decide +kernel
theorem dX13_isSingle_46 : decode cX13_isSingle 46 = .ok (.invokevirtual 210, 3) := by decide +kernel
theorem dX13_isSingle_49 : decode cX13_isSingle 49 = .ok (.ifCond .eq 36, 3) := by decide +kernel
theorem dX13_isSingle_52 : decode cX13_isSingle 52 = .ok (.aload_n 0, 1) := by decide +kernel
theorem dX13_isSingle_53 : decode cX13_isSingle 53 = .ok (.invokevirtual 207, 3) := by decide +kernel
theorem dX13_isSingle_56 : decode cX13_isSingle 56 = .ok (.ifCond .eq 10, 3) := by decide +kernel
theorem dX13_isSingle_59 : decode cX13_isSingle 59 = .ok (.aload_n 0, 1) := by decide +kernel
theorem dX13_isSingle_60 : decode cX13_isSingle 60 = .ok (.invokevirtual 173, 3) := by decide +kernel
theorem dX13_isSingle_63 : decode cX13_isSingle 63 = .ok (.ifCond .ne 5, 3) := by decide +kernel
theorem dX13_isSingle_66 : decode cX13_isSingle 66 = .ok (.iconst 0, 1) := by decide +kernel
theorem dX13_isSingle_67 : decode cX13_isSingle 67 = .ok (.ireturn, 1) := by decide +kernel
theorem dX13_isSingle_68 : decode cX13_isSingle 68 = .ok (.aload_n 0, 1) := by decide +kernel
theorem dX13_isSingle_69 : decode cX13_isSingle 69 = .ok (.dup, 1) := by decide +kernel
theorem dX13_isSingle_70 : decode cX13_isSingle 70 = .ok (.getfield 198, 3) := by decide +kernel
theorem dX13_isSingle_73 : decode cX13_isSingle 73 = .ok (.iconst 1, 1) := by decide +kernel
theorem dX13_isSingle_74 : decode cX13_isSingle 74 = .ok (.isub, 1) := by decide +kernel
theorem dX13_isSingle_75 : decode cX13_isSingle 75 = .ok (.putfield 198, 3) := by decide +kernel
theorem dX13_isSingle_78 : decode cX13_isSingle 78 = .ok (.aload_n 0, 1) := by decide +kernel
theorem dX13_isSingle_79 : decode cX13_isSingle 79 = .ok (.bipush 93, 2) := by decide +kernel
theorem dX13_isSingle_81 : decode cX13_isSingle 81 = .ok (.invokevirtual 153, 3) := by decide +kernel
theorem dX13_isSingle_84 : decode cX13_isSingle 84 = .ok (.ireturn, 1) := by decide +kernel
theorem dX13_isSingle_85 : decode cX13_isSingle 85 = .ok (.aload_n 0, 1) := by decide +kernel
theorem dX13_isSingle_86 : decode cX13_isSingle 86 = .ok (.invokevirtual 167, 3) := by decide +kernel
theorem dX13_isSingle_89 : decode cX13_isSingle 89 = .ok (.ifCond .ne 5, 3) := by decide +kernel
theorem dX13_isSingle_92 : decode cX13_isSingle 92 = .ok (.iconst 0, 1) := by decide +kernel
theorem dX13_isSingle_93 : decode cX13_isSingle 93 = .ok (.ireturn, 1) := by decide +kernel
theorem dX13_isSingle_94 : decode cX13_isSingle 94 = .ok (.aload_n 0, 1) := by decide +kernel
theorem dX13_isSingle_95 : decode cX13_isSingle 95 = .ok (.bipush 60, 2) := by decide +kernel
theorem dX13_isSingle_97 : decode cX13_isSingle 97 = .ok (.invokevirtual 210, 3) := by decide +kernel
theorem dX13_isSingle_100 : decode cX13_isSingle 100 = .ok (.ifCond .eq 8, 3) := by decide +kernel
theorem dX13_isSingle_103 : decode cX13_isSingle 103 = .ok (.bipush 36, 2) := by decide +kernel
theorem dX13_isSingle_105 : decode cX13_isSingle 105 = .ok (.goto 62, 3) := by decide +kernel
theorem dX13_isSingle_108 : decode cX13_isSingle 108 = .ok (.aload_n 0, 1) := by decide +kernel
theorem dX13_isSingle_109 : decode cX13_isSingle 109 = .ok (.bipush 62, 2) := by decide +kernel
theorem dX13_isSingle_111 : decode cX13_isSingle 111 = .ok (.invokevirtual 210, 3) := by decide +kernel
theorem dX13_isSingle_114 : decode cX13_isSingle 114 = .ok (.ifCond .eq 8, 3) := by decide +kernel
theorem dX13_isSingle_117 : decode cX13_isSingle 117 = .ok (.bipush 37, 2) := by decide +kernel
theorem dX13_isSingle_119 : decode cX13_isSingle 119 = .ok (.goto 48, 3) := by decide +kernel
theorem dX13_isSingle_122 : decode cX13_isSingle 122 = .ok (.aload_n 0, 1) := by decide +kernel
theorem dX13_isSingle_123 : decode cX13_isSingle 123 = .ok (.bipush 61, 2) := by decide +kernel
theorem dX13_isSingle_125 : decode cX13_isSingle 125 = .ok (.invokevirtual 210, 3) := by decide +kernel
theorem dX13_isSingle_128 : decode cX13_isSingle 128 = .ok (.ifCond .eq 8, 3) := by decide +kernel
theorem dX13_isSingle_131 : decode cX13_isSingle 131 = .ok (.bipush 38, 2) := by decide +kernel
theorem dX13_isSingle_133 : decode cX13_isSingle 133 = .ok (.goto 34, 3) := by decide +kernel
theorem dX13_isSingle_136 : decode cX13_isSingle 136 = .ok (.aload_n 0, 1) := by decide +kernel
theorem dX13_isSingle_137 : decode cX13_isSingle 137 = .ok (.sipush 300, 3) := by decide +kernel
theorem dX13_isSingle_140 : decode cX13_isSingle 140 = .ok (.invokevirtual 127, 3) := by decide +kernel
theorem dX13_isSingle_143 : decode cX13_isSingle 143 = .ok (.ifCond .eq 8, 3) := by decide +kernel
theorem dX13_isSingle_146 : decode cX13_isSingle 146 = .ok (.bipush 39, 2) := by decide +kernel
theorem dX13_isSingle_148 : decode cX13_isSingle 148 = .ok (.goto 19, 3) := by decide +kernel
theorem dX13_isSingle_151 : decode cX13_isSingle 151 = .ok (.aload_n 0, 1) := by decide +kernel
theorem dX13_isSingle_152 : decode cX13_isSingle 152 = .ok (.sipush 301, 3) := by decide +kernel
theorem dX13_isSingle_155 : decode cX13_isSingle 155 = .ok (.invokevirtual 127, 3) := by decide +kernel
theorem dX13_isSingle_158 : decode cX13_isSingle 158 = .ok (.ifCond .eq 8, 3) := by decide +kernel
theorem dX13_isSingle_161 : decode cX13_isSingle 161 = .ok (.bipush 40, 2) := by decide +kernel
theorem dX13_isSingle_163 : decode cX13_isSingle 163 = .ok (.goto 4, 3) := by decide +kernel
theorem dX13_isSingle_166 : decode cX13_isSingle 166 = .ok (.iconst (-1), 1) := by decide +kernel
theorem dX13_isSingle_167 : decode cX13_isSingle 167 = .ok (.istore_n 1, 1) := by decide +kernel
theorem dX13_isSingle_168 : decode cX13_isSingle 168 = .ok (.iload_n 1, 1) := by decide +kernel
theorem dX13_isSingle_169 : decode cX13_isSingle 169 = .ok (.iconst (-1), 1) := by decide +kernel
theorem dX13_isSingle_170 : decode cX13_isSingle 170 = .ok (.if_icmp .ne 5, 3) := by decide +kernel
theorem dX13_isSingle_173 : decode cX13_isSingle 173 = .ok (.iconst 0, 1) := by decide +kernel
theorem dX13_isSingle_174 : decode cX13_isSingle 174 = .ok (.ireturn, 1) := by decide +kernel
theorem dX13_isSingle_175 : decode cX13_isSingle 175 = .ok (.aload_n 0, 1) := by decide +kernel
theorem dX13_isSingle_176 : decode cX13_isSingle 176 = .ok (.dup, 1) := by decide +kernel
theorem dX13_isSingle_177 : decode cX13_isSingle 177 = .ok (.getfield 124, 3) := by decide +kernel
theorem dX13_isSingle_180 : decode cX13_isSingle 180 = .ok (.iconst 1, 1) := by decide +kernel
theorem dX13_isSingle_181 : decode cX13_isSingle 181 = .ok (.iadd, 1) := by decide +kernel
theorem dX13_isSingle_182 : decode cX13_isSingle 182 = .ok (.putfield 124, 3) := by decide +kernel
theorem dX13_isSingle_185 : decode cX13_isSingle 185 = .ok (.aload_n 0, 1) := by decide +kernel
theorem dX13_isSingle_186 : decode cX13_isSingle 186 = .ok (.invokevirtual 167, 3) := by decide +kernel
theorem dX13_isSingle_189 : decode cX13_isSingle 189 = .ok (.ifCond .ne 5, 3) := by decide +kernel
theorem dX13_isSingle_192 : decode cX13_isSingle 192 = .ok (.iconst 0, 1) := by decide +kernel
theorem dX13_isSingle_193 : decode cX13_isSingle 193 = .ok (.ireturn, 1) := by decide +kernel
theorem dX13_isSingle_194 : decode cX13_isSingle 194 = .ok (.aload_n 0, 1) := by decide +kernel
theorem dX13_isSingle_195 : decode cX13_isSingle 195 = .ok (.iload_n 1, 1) := by decide +kernel
theorem dX13_isSingle_196 : decode cX13_isSingle 196 = .ok (.invokevirtual 191, 3) := by decide +kernel
theorem dX13_isSingle_199 : decode cX13_isSingle 199 = .ok (.iconst 1, 1) := by decide +kernel
theorem dX13_isSingle_200 : decode cX13_isSingle 200 = .ok (.ireturn, 1) := by decide +kernel
theorem dX13_isSum_0 : decode cX13_isSum 0 = .ok (.aload_n 0, 1) := by decide +kernel
theorem dX13_isSum_1 : decode cX13_isSum 1 = .ok (.invokevirtual 213, 3) := by decide +kernel
theorem dX13_isSum_4 : decode cX13_isSum 4 = .ok (.ifCond .ne 5, 3) := by decide +kernel
theorem dX13_isSum_7 : decode cX13_isSum 7 = .ok (.iconst 0, 1) := by decide +kernel
theorem dX13_isSum_8 : decode cX13_isSum 8 = .ok (.ireturn, 1) := by decide +kernel
theorem dX13_isSum_9 : decode cX13_isSum 9 = .ok (.aload_n 0, 1) := by decide +kernel
theorem dX13_isSum_10 : decode cX13_isSum 10 = .ok (.bipush 43, 2) := by decide +kernel
theorem dX13_isSum_12 : decode cX13_isSum 12 = .ok (.invokevirtual 210, 3) := by decide +kernel
theorem dX13_isSum_15 : decode cX13_isSum 15 = .ok (.ifCond .ne 12, 3) := by decide +kernel
theorem dX13_isSum_18 : decode cX13_isSum 18 = .ok (.aload_n 0, 1) := by decide +kernel
theorem dX13_isSum_19 : decode cX13_isSum 19 = .ok (.bipush 45, 2) := by decide +kernel
theorem dX13_isSum_21 : decode cX13_isSum 21 = .ok (.invokevirtual 210, 3) := by decide +kernel
theorem dX13_isSum_24 : decode cX13_isSum 24 = .ok (.ifCond .eq 47, 3) := by decide +kernel
theorem dX13_isSum_27 : decode cX13_isSum 27 = .ok (.aload_n 0, 1) := by decide +kernel
theorem dX13_isSum_28 : decode cX13_isSum 28 = .ok (.bipush 43, 2) := by decide +kernel
theorem dX13_isSum_30 : decode cX13_isSum 30 = .ok (.invokevirtual 210, 3) := by decide +kernel
theorem dX13_isSum_33 : decode cX13_isSum 33 = .ok (.ifCond .eq 8, 3) := by decide +kernel
theorem dX13_isSum_36 : decode cX13_isSum 36 = .ok (.bipush 32, 2) := by decide +kernel
theorem dX13_isSum_38 : decode cX13_isSum 38 = .ok (.goto 5, 3) := by decide +kernel
theorem dX13_isSum_41 : decode cX13_isSum 41 = .ok (.bipush 33, 2) := by decide +kernel
theorem dX13_isSum_43 : decode cX13_isSum 43 = .ok (.istore_n 1, 1) := by decide +kernel
theorem dX13_isSum_44 : decode cX13_isSum 44 = .ok (.aload_n 0, 1) := by decide +kernel
theorem dX13_isSum_45 : decode cX13_isSum 45 = .ok (.dup, 1) := by decide +kernel
theorem dX13_isSum_46 : decode cX13_isSum 46 = .ok (.getfield 124, 3) := by decide +kernel
theorem dX13_isSum_49 : decode cX13_isSum 49 = .ok (.iconst 1, 1) := by decide +kernel
theorem dX13_isSum_50 : decode cX13_isSum 50 = .ok (.iadd, 1) := by decide +kernel
theorem dX13_isSum_51 : decode cX13_isSum 51 = .ok (.putfield 124, 3) := by decide +kernel
theorem dX13_isSum_54 : decode cX13_isSum 54 = .ok (.aload_n 0, 1) := by decide +kernel
theorem dX13_isSum_55 : decode cX13_isSum 55 = .ok (.invokevirtual 213, 3) := by decide +kernel
theorem dX13_isSum_58 : decode cX13_isSum 58 = .ok (.ifCond .ne 5, 3) := by decide +kernel
theorem dX13_isSum_61 : decode cX13_isSum 61 = .ok (.iconst 0, 1) := by decide +kernel
theorem dX13_isSum_62 : decode cX13_isSum 62 = .ok (.ireturn, 1) := by decide +kernel
theorem dX13_isSum_63 : decode cX13_isSum 63 = .ok (.aload_n 0, 1) := by decide +kernel
theorem dX13_isSum_64 : decode cX13_isSum 64 = .ok (.iload_n 1, 1) := by decide +kernel
theorem dX13_isSum_65 : decode cX13_isSum 65 = .ok (.invokevirtual 191, 3) := by decide +kernel
theorem dX13_isSum_68 : decode cX13_isSum 68 = .ok (.goto (-59), 3) := by decide +kernel
theorem dX13_isSum_71 : decode cX13_isSum 71 = .ok (.iconst 1, 1) := by decide +kernel
theorem dX13_isSum_72 : decode cX13_isSum 72 = .ok (.ireturn, 1) := by decide +kernel
theorem dX13_isProduct_0 : decode cX13_isProduct 0 = .ok (.aload_n 0, 1) := by decide +kernel
theorem dX13_isProduct_1 : decode cX13_isProduct 1 = .ok (.invokevirtual 216, 3) := by decide +kernel
theorem dX13_isProduct_4 : decode cX13_isProduct 4 = .ok (.ifCond .ne 5, 3) := by decide +kernel
theorem dX13_isProduct_7 : decode cX13_isProduct 7 = .ok (.iconst 0, 1) := by decide +kernel
theorem dX13_isProduct_8 : decode cX13_isProduct 8 = .ok (.ireturn, 1) := by decide +kernel
theorem dX13_isProduct_9 : decode cX13_isProduct 9 = .ok (.aload_n 0, 1) := by decide +kernel
theorem dX13_isProduct_10 : decode cX13_isProduct 10 = .ok (.bipush 42, 2) := by decide +kernel
theorem dX13_isProduct_12 : decode cX13_isProduct 12 = .ok (.invokevirtual 210, 3) := by decide +kernel
theorem dX13_isProduct_15 : decode cX13_isProduct 15 = .ok (.ifCond .ne 12, 3) := by decide +kernel
theorem dX13_isProduct_18 : decode cX13_isProduct 18 = .ok (.aload_n 0, 1) := by decide +kernel
theorem dX13_isProduct_19 : decode cX13_isProduct 19 = .ok (.bipush 47, 2) := by decide +kernel
theorem dX13_isProduct_21 : decode cX13_isProduct 21 = .ok (.invokevirtual 210, 3) := by decide +kernel
theorem dX13_isProduct_24 : decode cX13_isProduct 24 = .ok (.ifCond .eq 47, 3) := by decide +kernel
theorem dX13_isProduct_27 : decode cX13_isProduct 27 = .ok (.aload_n 0, 1) := by decide +kernel
theorem dX13_isProduct_28 : decode cX13_isProduct 28 = .ok (.bipush 42, 2) := by decide +kernel
theorem dX13_isProduct_30 : decode cX13_isProduct 30 = .ok (.invokevirtual 210, 3) := by decide +kernel
theorem dX13_isProduct_33 : decode cX13_isProduct 33 = .ok (.ifCond .eq 8, 3) := by decide +kernel
theorem dX13_isProduct_36 : decode cX13_isProduct 36 = .ok (.bipush 34, 2) := by decide +kernel
theorem dX13_isProduct_38 : decode cX13_isProduct 38 = .ok (.goto 5, 3) := by decide +kernel
theorem dX13_isProduct_41 : decode cX13_isProduct 41 = .ok (.bipush 35, 2) := by decide +kernel
theorem dX13_isProduct_43 : decode cX13_isProduct 43 = .ok (.istore_n 1, 1) := by decide +kernel
theorem dX13_isProduct_44 : decode cX13_isProduct 44 = .ok (.aload_n 0, 1) := by decide +kernel
theorem dX13_isProduct_45 : decode cX13_isProduct 45 = .ok (.dup, 1) := by decide +kernel
theorem dX13_isProduct_46 : decode cX13_isProduct 46 = .ok (.getfield 124, 3) := by decide +kernel
theorem dX13_isProduct_49 : decode cX13_isProduct 49 = .ok (.iconst 1, 1) := by decide +kernel
theorem dX13_isProduct_50 : decode cX13_isProduct 50 = .ok (.iadd, 1) := by decide +kernel
theorem dX13_isProduct_51 : decode cX13_isProduct 51 = .ok (.putfield 124, 3) := by decide +kernel
theorem dX13_isProduct_54 : decode cX13_isProduct 54 = .ok (.aload_n 0, 1) := by decide +kernel
theorem dX13_isProduct_55 : decode cX13_isProduct 55 = .ok (.invokevirtual 216, 3) := by decide +kernel
theorem dX13_isProduct_58 : decode cX13_isProduct 58 = .ok (.ifCond .ne 5, 3) := by decide +kernel
theorem dX13_isProduct_61 : decode cX13_isProduct 61 = .ok (.iconst 0, 1) := by decide +kernel
theorem dX13_isProduct_62 : decode cX13_isProduct 62 = .ok (.ireturn, 1) := by decide +kernel
theorem dX13_isProduct_63 : decode cX13_isProduct 63 = .ok (.aload_n 0, 1) := by decide +kernel
theorem dX13_isProduct_64 : decode cX13_isProduct 64 = .ok (.iload_n 1, 1) := by decide +kernel
theorem dX13_isProduct_65 : decode cX13_isProduct 65 = .ok (.invokevirtual 191, 3) := by decide +kernel
theorem dX13_isProduct_68 : decode cX13_isProduct 68 = .ok (.goto (-59), 3) := by decide +kernel
theorem dX13_isProduct_71 : decode cX13_isProduct 71 = .ok (.iconst 1, 1) := by decide +kernel
theorem dX13_isProduct_72 : decode cX13_isProduct 72 = .ok (.ireturn, 1) := by decide +kernel
theorem dX13_isValue_0 : decode cX13_isValue 0 = .ok (.aload_n 0, 1) := by decide +kernel
theorem dX13_isValue_1 : decode cX13_isValue 1 = .ok (.bipush 41, 2) := by decide +kernel
theorem dX13_isValue_3 : decode cX13_isValue 3 = .ok (.invokevirtual 127, 3) := by decide +kernel
theorem dX13_isValue_6 : decode cX13_isValue 6 = .ok (.ifCond .eq 33, 3) := by decide +kernel
theorem dX13_isValue_9 : decode cX13_isValue 9 = .ok (.aload_n 0, 1) := by decide +kernel
theorem dX13_isValue_10 : decode cX13_isValue 10 = .ok (.bipush 30, 2) := by decide +kernel
theorem dX13_isValue_12 : decode cX13_isValue 12 = .ok (.invokevirtual 191, 3) := by decide +kernel
theorem dX13_isValue_15 : decode cX13_isValue 15 = .ok (.aload_n 0, 1) := by decide +kernel
theorem dX13_isValue_16 : decode cX13_isValue 16 = .ok (.aload_n 0, 1) := by decide +kernel
theorem dX13_isValue_17 : decode cX13_isValue 17 = .ok (.aload_n 0, 1) := by decide +kernel
theorem dX13_isValue_18 : decode cX13_isValue 18 = .ok (.getfield 124, 3) := by decide +kernel
theorem dX13_isValue_21 : decode cX13_isValue 21 = .ok (.invokevirtual 219, 3) := by decide +kernel
theorem dX13_isValue_24 : decode cX13_isValue 24 = .ok (.invokevirtual 191, 3) := by decide +kernel
theorem dX13_isValue_27 : decode cX13_isValue 27 = .ok (.aload_n 0, 1) := by decide +kernel
theorem dX13_isValue_28 : decode cX13_isValue 28 = .ok (.dup, 1) := by decide +kernel
theorem dX13_isValue_29 : decode cX13_isValue 29 = .ok (.getfield 124, 3) := by decide +kernel
theorem dX13_isValue_32 : decode cX13_isValue 32 = .ok (.iconst 1, 1) := by decide +kernel
theorem dX13_isValue_33 : decode cX13_isValue 33 = .ok (.iadd, 1) := by decide +kernel
theorem dX13_isValue_34 : decode cX13_isValue 34 = .ok (.putfield 124, 3) := by decide +kernel
theorem dX13_isValue_37 : decode cX13_isValue 37 = .ok (.iconst 1, 1) := by decide +kernel
theorem dX13_isValue_38 : decode cX13_isValue 38 = .ok (.ireturn, 1) := by decide +kernel
theorem dX13_isValue_39 : decode cX13_isValue 39 = .ok (.aload_n 0, 1) := by decide +kernel
theorem dX13_isValue_40 : decode cX13_isValue 40 = .ok (.getfield 17, 3) := by decide +kernel
theorem dX13_isValue_43 : decode cX13_isValue 43 = .ok (.aload_n 0, 1) := by decide +kernel
theorem dX13_isValue_44 : decode cX13_isValue 44 = .ok (.getfield 124, 3) := by decide +kernel
theorem dX13_isValue_47 : decode cX13_isValue 47 = .ok (.iaload, 1) := by decide +kernel
theorem dX13_isValue_48 : decode cX13_isValue 48 = .ok (.bipush 16, 2) := by decide +kernel
theorem dX13_isValue_50 : decode cX13_isValue 50 = .ok (.bipush 19, 2) := by decide +kernel
theorem dX13_isValue_52 : decode cX13_isValue 52 = .ok (.invokestatic 63, 3) := by decide +kernel
theorem dX13_isValue_55 : decode cX13_isValue 55 = .ok (.ifCond .eq 28, 3) := by decide +kernel
theorem dX13_isValue_58 : decode cX13_isValue 58 = .ok (.aload_n 0, 1) := by decide +kernel
theorem dX13_isValue_59 : decode cX13_isValue 59 = .ok (.aload_n 0, 1) := by decide +kernel
theorem dX13_isValue_60 : decode cX13_isValue 60 = .ok (.getfield 17, 3) := by decide +kernel
theorem dX13_isValue_63 : decode cX13_isValue 63 = .ok (.aload_n 0, 1) := by decide +kernel
theorem dX13_isValue_64 : decode cX13_isValue 64 = .ok (.getfield 124, 3) := by decide +kernel
theorem dX13_isValue_67 : decode cX13_isValue 67 = .ok (.iaload, 1) := by decide +kernel
theorem dX13_isValue_68 : decode cX13_isValue 68 = .ok (.invokevirtual 191, 3) := by decide +kernel
theorem dX13_isValue_71 : decode cX13_isValue 71 = .ok (.aload_n 0, 1) := by decide +kernel
theorem dX13_isValue_72 : decode cX13_isValue 72 = .ok (.dup, 1) := by decide +kernel
theorem dX13_isValue_73 : decode cX13_isValue 73 = .ok (.getfield 124, 3) := by decide +kernel
theorem dX13_isValue_76 : decode cX13_isValue 76 = .ok (.iconst 1, 1) := by decide +kernel
theorem dX13_isValue_77 : decode cX13_isValue 77 = .ok (.iadd, 1) := by decide +kernel
theorem dX13_isValue_78 : decode cX13_isValue 78 = .ok (.putfield 124, 3) := by decide +kernel
theorem dX13_isValue_81 : decode cX13_isValue 81 = .ok (.iconst 1, 1) := by decide +kernel
theorem dX13_isValue_82 : decode cX13_isValue 82 = .ok (.ireturn, 1) := by decide +kernel
theorem dX13_isValue_83 : decode cX13_isValue 83 = .ok (.aload_n 0, 1) := by decide +kernel
theorem dX13_isValue_84 : decode cX13_isValue 84 = .ok (.getfield 17, 3) := by decide +kernel
theorem dX13_isValue_87 : decode cX13_isValue 87 = .ok (.aload_n 0, 1) := by decide +kernel
theorem dX13_isValue_88 : decode cX13_isValue 88 = .ok (.getfield 124, 3) := by decide +kernel
theorem dX13_isValue_91 : decode cX13_isValue 91 = .ok (.iaload, 1) := by decide +kernel
theorem dX13_isValue_92 : decode cX13_isValue 92 = .ok (.invokestatic 73, 3) := by decide +kernel
theorem dX13_isValue_95 : decode cX13_isValue 95 = .ok (.ifCond .eq 32, 3) := by decide +kernel
theorem dX13_isValue_98 : decode cX13_isValue 98 = .ok (.aload_n 0, 1) := by decide +kernel
theorem dX13_isValue_99 : decode cX13_isValue 99 = .ok (.aload_n 0, 1) := by decide +kernel
theorem dX13_isValue_100 : decode cX13_isValue 100 = .ok (.iconst 3, 1) := by decide +kernel
theorem dX13_isValue_101 : decode cX13_isValue 101 = .ok (.invokevirtual 127, 3) := by decide +kernel
theorem dX13_isValue_104 : decode cX13_isValue 104 = .ok (.ifCond .ne 12, 3) := by decide +kernel
theorem dX13_isValue_107 : decode cX13_isValue 107 = .ok (.aload_n 0, 1) := by decide +kernel
theorem dX13_isValue_108 : decode cX13_isValue 108 = .ok (.bipush 22, 2) := by decide +kernel
theorem dX13_isValue_110 : decode cX13_isValue 110 = .ok (.invokevirtual 127, 3) := by decide +kernel
theorem dX13_isValue_113 : decode cX13_isValue 113 = .ok (.ifCond .eq 8, 3) := by decide +kernel
theorem dX13_isValue_116 : decode cX13_isValue 116 = .ok (.bipush 18, 2) := by decide +kernel
theorem dX13_isValue_118 : decode cX13_isValue 118 = .ok (.goto 5, 3) := by decide +kernel
theorem dX13_isValue_121 : decode cX13_isValue 121 = .ok (.bipush 17, 2) := by decide +kernel
theorem dX13_isValue_123 : decode cX13_isValue 123 = .ok (.invokevirtual 222, 3) := by decide +kernel
theorem dX13_isValue_126 : decode cX13_isValue 126 = .ok (.ireturn, 1) := by decide +kernel
theorem dX13_isValue_127 : decode cX13_isValue 127 = .ok (.aload_n 0, 1) := by decide +kernel
theorem dX13_isValue_128 : decode cX13_isValue 128 = .ok (.bipush 45, 2) := by decide +kernel
theorem dX13_isValue_130 : decode cX13_isValue 130 = .ok (.invokevirtual 210, 3) := by decide +kernel
theorem dX13_isValue_133 : decode cX13_isValue 133 = .ok (.ifCond .eq 37, 3) := by decide +kernel
theorem dX13_isValue_136 : decode cX13_isValue 136 = .ok (.aload_n 0, 1) := by decide +kernel
theorem dX13_isValue_137 : decode cX13_isValue 137 = .ok (.invokevirtual 207, 3) := by decide +kernel
theorem dX13_isValue_140 : decode cX13_isValue 140 = .ok (.ifCond .eq 10, 3) := by decide +kernel
theorem dX13_isValue_143 : decode cX13_isValue 143 = .ok (.aload_n 0, 1) := by decide +kernel
theorem dX13_isValue_144 : decode cX13_isValue 144 = .ok (.invokevirtual 216, 3) := by decide +kernel
theorem dX13_isValue_147 : decode cX13_isValue 147 = .ok (.ifCond .ne 5, 3) := by decide +kernel
theorem dX13_isValue_150 : decode cX13_isValue 150 = .ok (.iconst 0, 1) := by decide +kernel
theorem dX13_isValue_151 : decode cX13_isValue 151 = .ok (.ireturn, 1) := by decide +kernel
theorem dX13_isValue_152 : decode cX13_isValue 152 = .ok (.aload_n 0, 1) := by decide +kernel
theorem dX13_isValue_153 : decode cX13_isValue 153 = .ok (.dup, 1) := by decide +kernel
theorem dX13_isValue_154 : decode cX13_isValue 154 = .ok (.getfield 198, 3) := by decide +kernel
theorem dX13_isValue_157 : decode cX13_isValue 157 = .ok (.iconst 1, 1) := by decide +kernel
theorem dX13_isValue_158 : decode cX13_isValue 158 = .ok (.isub, 1) := by decide +kernel
theorem dX13_isValue_159 : decode cX13_isValue 159 = .ok (.putfield 198, 3) := by decide +kernel
theorem dX13_isValue_162 : decode cX13_isValue 162 = .ok (.aload_n 0, 1) := by decide +kernel
theorem dX13_isValue_163 : decode cX13_isValue 163 = .ok (.bipush 31, 2) := by decide +kernel
theorem dX13_isValue_165 : decode cX13_isValue 165 = .ok (.invokevirtual 191, 3) := by decide +kernel
theorem dX13_isValue_168 : decode cX13_isValue 168 = .ok (.iconst 1, 1) := by decide +kernel
theorem dX13_isValue_169 : decode cX13_isValue 169 = .ok (.ireturn, 1) := by decide +kernel
theorem dX13_isValue_170 : decode cX13_isValue 170 = .ok (.aload_n 0, 1) := by decide +kernel
theorem dX13_isValue_171 : decode cX13_isValue 171 = .ok (.getfield 17, 3) := by decide +kernel
theorem dX13_isValue_174 : decode cX13_isValue 174 = .ok (.aload_n 0, 1) := by decide +kernel
theorem dX13_isValue_175 : decode cX13_isValue 175 = .ok (.getfield 124, 3) := by decide +kernel
theorem dX13_isValue_178 : decode cX13_isValue 178 = .ok (.iaload, 1) := by decide +kernel
theorem dX13_isValue_179 : decode cX13_isValue 179 = .ok (.istore_n 1, 1) := by decide +kernel
theorem dX13_isValue_180 : decode cX13_isValue 180 = .ok (.aload_n 0, 1) := by decide +kernel
theorem dX13_isValue_181 : decode cX13_isValue 181 = .ok (.bipush 26, 2) := by decide +kernel
theorem dX13_isValue_183 : decode cX13_isValue 183 = .ok (.invokevirtual 130, 3) := by decide +kernel
theorem dX13_isValue_186 : decode cX13_isValue 186 = .ok (.ifCond .ne 12, 3) := by decide +kernel
theorem dX13_isValue_189 : decode cX13_isValue 189 = .ok (.aload_n 0, 1) := by decide +kernel
theorem dX13_isValue_190 : decode cX13_isValue 190 = .ok (.bipush 27, 2) := by decide +kernel
theorem dX13_isValue_192 : decode cX13_isValue 192 = .ok (.invokevirtual 130, 3) := by decide +kernel
theorem dX13_isValue_195 : decode cX13_isValue 195 = .ok (.ifCond .eq 7, 3) := by decide +kernel
theorem dX13_isValue_198 : decode cX13_isValue 198 = .ok (.iconst 1, 1) := by decide +kernel
theorem dX13_isValue_199 : decode cX13_isValue 199 = .ok (.goto 4, 3) := by decide +kernel
theorem dX13_isValue_202 : decode cX13_isValue 202 = .ok (.iconst 0, 1) := by decide +kernel
theorem dX13_isValue_203 : decode cX13_isValue 203 = .ok (.istore_n 2, 1) := by decide +kernel
theorem dX13_isValue_204 : decode cX13_isValue 204 = .ok (.aload_n 0, 1) := by decide +kernel
theorem dX13_isValue_205 : decode cX13_isValue 205 = .ok (.bipush 40, 2) := by decide +kernel
theorem dX13_isValue_207 : decode cX13_isValue 207 = .ok (.invokevirtual 210, 3) := by decide +kernel
theorem dX13_isValue_210 : decode cX13_isValue 210 = .ok (.ifCond .eq 37, 3) := by decide +kernel
theorem dX13_isValue_213 : decode cX13_isValue 213 = .ok (.aload_n 0, 1) := by decide +kernel
theorem dX13_isValue_214 : decode cX13_isValue 214 = .ok (.invokevirtual 207, 3) := by decide +kernel
theorem dX13_isValue_217 : decode cX13_isValue 217 = .ok (.ifCond .eq 30, 3) := by decide +kernel
theorem dX13_isValue_220 : decode cX13_isValue 220 = .ok (.aload_n 0, 1) := by decide +kernel
theorem dX13_isValue_221 : decode cX13_isValue 221 = .ok (.invokevirtual 167, 3) := by decide +kernel
theorem dX13_isValue_224 : decode cX13_isValue 224 = .ok (.ifCond .eq 23, 3) := by decide +kernel
theorem dX13_isValue_227 : decode cX13_isValue 227 = .ok (.iload_n 2, 1) := by decide +kernel
theorem dX13_isValue_228 : decode cX13_isValue 228 = .ok (.ifCond .eq 21, 3) := by decide +kernel
theorem dX13_isValue_231 : decode cX13_isValue 231 = .ok (.aload_n 0, 1) := by decide +kernel
theorem dX13_isValue_232 : decode cX13_isValue 232 = .ok (.bipush 44, 2) := by decide +kernel
theorem dX13_isValue_234 : decode cX13_isValue 234 = .ok (.invokevirtual 153, 3) := by decide +kernel
theorem dX13_isValue_237 : decode cX13_isValue 237 = .ok (.ifCond .eq 10, 3) := by decide +kernel
theorem dX13_isValue_240 : decode cX13_isValue 240 = .ok (.aload_n 0, 1) := by decide +kernel
theorem dX13_isValue_241 : decode cX13_isValue 241 = .ok (.invokevirtual 167, 3) := by decide +kernel
theorem dX13_isValue_244 : decode cX13_isValue 244 = .ok (.ifCond .ne 5, 3) := by decide +kernel
theorem dX13_isValue_247 : decode cX13_isValue 247 = .ok (.iconst 0, 1) := by decide +kernel
theorem dX13_isValue_248 : decode cX13_isValue 248 = .ok (.ireturn, 1) := by decide +kernel
theorem dX13_isValue_249 : decode cX13_isValue 249 = .ok (.aload_n 0, 1) := by decide +kernel
theorem dX13_isValue_250 : decode cX13_isValue 250 = .ok (.dup, 1) := by decide +kernel
theorem dX13_isValue_251 : decode cX13_isValue 251 = .ok (.getfield 198, 3) := by decide +kernel
theorem dX13_isValue_254 : decode cX13_isValue 254 = .ok (.iconst 1, 1) := by decide +kernel
theorem dX13_isValue_255 : decode cX13_isValue 255 = .ok (.isub, 1) := by decide +kernel
theorem dX13_isValue_256 : decode cX13_isValue 256 = .ok (.putfield 198, 3) := by decide +kernel
theorem dX13_isValue_259 : decode cX13_isValue 259 = .ok (.iload_n 2, 1) := by decide +kernel
theorem dX13_isValue_260 : decode cX13_isValue 260 = .ok (.ifCond .eq 8, 3) := by decide +kernel
theorem dX13_isValue_263 : decode cX13_isValue 263 = .ok (.aload_n 0, 1) := by decide +kernel
theorem dX13_isValue_264 : decode cX13_isValue 264 = .ok (.iload_n 1, 1) := by decide +kernel
theorem dX13_isValue_265 : decode cX13_isValue 265 = .ok (.invokevirtual 191, 3) := by decide +kernel
theorem dX13_isValue_268 : decode cX13_isValue 268 = .ok (.aload_n 0, 1) := by decide +kernel
theorem dX13_isValue_269 : decode cX13_isValue 269 = .ok (.bipush 41, 2) := by decide +kernel
theorem dX13_isValue_271 : decode cX13_isValue 271 = .ok (.invokevirtual 153, 3) := by decide +kernel
theorem dX13_isValue_274 : decode cX13_isValue 274 = .ok (.ireturn, 1) := by decide +kernel
theorem dX13_numberAt_0 : decode cX13_numberAt 0 = .ok (.iconst 0, 1) := by decide +kernel
theorem dX13_numberAt_1 : decode cX13_numberAt 1 = .ok (.istore_n 2, 1) := by decide +kernel
theorem dX13_numberAt_2 : decode cX13_numberAt 2 = .ok (.iconst 0, 1) := by decide +kernel
theorem dX13_numberAt_3 : decode cX13_numberAt 3 = .ok (.istore_n 3, 1) := by decide +kernel
theorem dX13_numberAt_4 : decode cX13_numberAt 4 = .ok (.iload_n 3, 1) := by decide +kernel
theorem dX13_numberAt_5 : decode cX13_numberAt 5 = .ok (.aload_n 0, 1) := by decide +kernel
theorem dX13_numberAt_6 : decode cX13_numberAt 6 = .ok (.getfield 23, 3) := by decide +kernel
theorem dX13_numberAt_9 : decode cX13_numberAt 9 = .ok (.iload_n 1, 1) := by decide +kernel
theorem dX13_numberAt_10 : decode cX13_numberAt 10 = .ok (.iaload, 1) := by decide +kernel
theorem dX13_numberAt_11 : decode cX13_numberAt 11 = .ok (.if_icmp .ge 31, 3) := by decide +kernel
theorem dX13_numberAt_14 : decode cX13_numberAt 14 = .ok (.bipush 10, 2) := by decide +kernel
theorem dX13_numberAt_16 : decode cX13_numberAt 16 = .ok (.iload_n 2, 1) := by decide +kernel
theorem dX13_numberAt_17 : decode cX13_numberAt 17 = .ok (.imul, 1) := by decide +kernel
theorem dX13_numberAt_18 : decode cX13_numberAt 18 = .ok (.aload_n 0, 1) := by decide +kernel
theorem dX13_numberAt_19 : decode cX13_numberAt 19 = .ok (.getfield 9, 3) := by decide +kernel
theorem dX13_numberAt_22 : decode cX13_numberAt 22 = .ok (.aload_n 0, 1) := by decide +kernel
theorem dX13_numberAt_23 : decode cX13_numberAt 23 = .ok (.getfield 20, 3) := by decide +kernel
theorem dX13_numberAt_26 : decode cX13_numberAt 26 = .ok (.iload_n 1, 1) := by decide +kernel
theorem dX13_numberAt_27 : decode cX13_numberAt 27 = .ok (.iaload, 1) := by decide +kernel
theorem dX13_numberAt_28 : decode cX13_numberAt 28 = .ok (.iload_n 3, 1) := by decide +kernel
theorem dX13_numberAt_29 : decode cX13_numberAt 29 = .ok (.iadd, 1) := by decide +kernel
theorem dX13_numberAt_30 : decode cX13_numberAt 30 = .ok (.iaload, 1) := by decide +kernel
theorem dX13_numberAt_31 : decode cX13_numberAt 31 = .ok (.iadd, 1) := by decide +kernel
theorem dX13_numberAt_32 : decode cX13_numberAt 32 = .ok (.bipush 48, 2) := by decide +kernel
theorem dX13_numberAt_34 : decode cX13_numberAt 34 = .ok (.isub, 1) := by decide +kernel
theorem dX13_numberAt_35 : decode cX13_numberAt 35 = .ok (.istore_n 2, 1) := by decide +kernel
theorem dX13_numberAt_36 : decode cX13_numberAt 36 = .ok (.iinc 3 1, 3) := by decide +kernel
theorem dX13_numberAt_39 : decode cX13_numberAt 39 = .ok (.goto (-35), 3) := by decide +kernel
theorem dX13_numberAt_42 : decode cX13_numberAt 42 = .ok (.iload_n 2, 1) := by decide +kernel
theorem dX13_numberAt_43 : decode cX13_numberAt 43 = .ok (.ireturn, 1) := by decide +kernel
theorem dX13_isSame_0 : decode cX13_isSame 0 = .ok (.aload_n 0, 1) := by decide +kernel
theorem dX13_isSame_1 : decode cX13_isSame 1 = .ok (.getfield 23, 3) := by decide +kernel
theorem dX13_isSame_4 : decode cX13_isSame 4 = .ok (.iload_n 1, 1) := by decide +kernel
theorem dX13_isSame_5 : decode cX13_isSame 5 = .ok (.iaload, 1) := by decide +kernel
theorem dX13_isSame_6 : decode cX13_isSame 6 = .ok (.aload_n 0, 1) := by decide +kernel
theorem dX13_isSame_7 : decode cX13_isSame 7 = .ok (.getfield 23, 3) := by decide +kernel
theorem dX13_isSame_10 : decode cX13_isSame 10 = .ok (.iload_n 2, 1) := by decide +kernel
theorem dX13_isSame_11 : decode cX13_isSame 11 = .ok (.iaload, 1) := by decide +kernel
theorem dX13_isSame_12 : decode cX13_isSame 12 = .ok (.if_icmp .eq 5, 3) := by decide +kernel
theorem dX13_isSame_15 : decode cX13_isSame 15 = .ok (.iconst 0, 1) := by decide +kernel
theorem dX13_isSame_16 : decode cX13_isSame 16 = .ok (.ireturn, 1) := by decide +kernel
theorem dX13_isSame_17 : decode cX13_isSame 17 = .ok (.iconst 0, 1) := by decide +kernel
theorem dX13_isSame_18 : decode cX13_isSame 18 = .ok (.istore_n 3, 1) := by decide +kernel
theorem dX13_isSame_19 : decode cX13_isSame 19 = .ok (.iload_n 3, 1) := by decide +kernel
theorem dX13_isSame_20 : decode cX13_isSame 20 = .ok (.aload_n 0, 1) := by decide +kernel
theorem dX13_isSame_21 : decode cX13_isSame 21 = .ok (.getfield 23, 3) := by decide +kernel
theorem dX13_isSame_24 : decode cX13_isSame 24 = .ok (.iload_n 1, 1) := by decide +kernel
theorem dX13_isSame_25 : decode cX13_isSame 25 = .ok (.iaload, 1) := by decide +kernel
theorem dX13_isSame_26 : decode cX13_isSame 26 = .ok (.if_icmp .ge 40, 3) := by decide +kernel
theorem dX13_isSame_29 : decode cX13_isSame 29 = .ok (.aload_n 0, 1) := by decide +kernel
theorem dX13_isSame_30 : decode cX13_isSame 30 = .ok (.getfield 9, 3) := by decide +kernel
theorem dX13_isSame_33 : decode cX13_isSame 33 = .ok (.aload_n 0, 1) := by decide +kernel
theorem dX13_isSame_34 : decode cX13_isSame 34 = .ok (.getfield 20, 3) := by decide +kernel
theorem dX13_isSame_37 : decode cX13_isSame 37 = .ok (.iload_n 1, 1) := by decide +kernel
theorem dX13_isSame_38 : decode cX13_isSame 38 = .ok (.iaload, 1) := by decide +kernel
theorem dX13_isSame_39 : decode cX13_isSame 39 = .ok (.iload_n 3, 1) := by decide +kernel
theorem dX13_isSame_40 : decode cX13_isSame 40 = .ok (.iadd, 1) := by decide +kernel
theorem dX13_isSame_41 : decode cX13_isSame 41 = .ok (.iaload, 1) := by decide +kernel
theorem dX13_isSame_42 : decode cX13_isSame 42 = .ok (.aload_n 0, 1) := by decide +kernel
theorem dX13_isSame_43 : decode cX13_isSame 43 = .ok (.getfield 9, 3) := by decide +kernel
theorem dX13_isSame_46 : decode cX13_isSame 46 = .ok (.aload_n 0, 1) := by decide +kernel
theorem dX13_isSame_47 : decode cX13_isSame 47 = .ok (.getfield 20, 3) := by decide +kernel
theorem dX13_isSame_50 : decode cX13_isSame 50 = .ok (.iload_n 2, 1) := by decide +kernel
theorem dX13_isSame_51 : decode cX13_isSame 51 = .ok (.iaload, 1) := by decide +kernel
theorem dX13_isSame_52 : decode cX13_isSame 52 = .ok (.iload_n 3, 1) := by decide +kernel
theorem dX13_isSame_53 : decode cX13_isSame 53 = .ok (.iadd, 1) := by decide +kernel
theorem dX13_isSame_54 : decode cX13_isSame 54 = .ok (.iaload, 1) := by decide +kernel
theorem dX13_isSame_55 : decode cX13_isSame 55 = .ok (.if_icmp .eq 5, 3) := by decide +kernel
theorem dX13_isSame_58 : decode cX13_isSame 58 = .ok (.iconst 0, 1) := by decide +kernel
theorem dX13_isSame_59 : decode cX13_isSame 59 = .ok (.ireturn, 1) := by decide +kernel
theorem dX13_isSame_60 : decode cX13_isSame 60 = .ok (.iinc 3 1, 3) := by decide +kernel
theorem dX13_isSame_63 : decode cX13_isSame 63 = .ok (.goto (-44), 3) := by decide +kernel
theorem dX13_isSame_66 : decode cX13_isSame 66 = .ok (.iconst 1, 1) := by decide +kernel
theorem dX13_isSame_67 : decode cX13_isSame 67 = .ok (.ireturn, 1) := by decide +kernel
theorem dX13_told_0 : decode cX13_told 0 = .ok (.iconst 0, 1) := by decide +kernel
theorem dX13_told_1 : decode cX13_told 1 = .ok (.istore_n 3, 1) := by decide +kernel
theorem dX13_told_2 : decode cX13_told 2 = .ok (.iconst 0, 1) := by decide +kernel
theorem dX13_told_3 : decode cX13_told 3 = .ok (.istore 4, 2) := by decide +kernel
theorem dX13_told_5 : decode cX13_told 5 = .ok (.iload 4, 2) := by decide +kernel
theorem dX13_told_7 : decode cX13_told 7 = .ok (.iload_n 1, 1) := by decide +kernel
theorem dX13_told_8 : decode cX13_told 8 = .ok (.if_icmp .ge 38, 3) := by decide +kernel
theorem dX13_told_11 : decode cX13_told 11 = .ok (.aload_n 0, 1) := by decide +kernel
theorem dX13_told_12 : decode cX13_told 12 = .ok (.getfield 26, 3) := by decide +kernel
theorem dX13_told_15 : decode cX13_told 15 = .ok (.iload 4, 2) := by decide +kernel
theorem dX13_told_17 : decode cX13_told 17 = .ok (.iaload, 1) := by decide +kernel
theorem dX13_told_18 : decode cX13_told 18 = .ok (.iload_n 2, 1) := by decide +kernel
theorem dX13_told_19 : decode cX13_told 19 = .ok (.if_icmp .eq 6, 3) := by decide +kernel
theorem dX13_told_22 : decode cX13_told 22 = .ok (.goto 18, 3) := by decide +kernel
theorem dX13_told_25 : decode cX13_told 25 = .ok (.aload_n 0, 1) := by decide +kernel
theorem dX13_told_26 : decode cX13_told 26 = .ok (.iload 4, 2) := by decide +kernel
theorem dX13_told_28 : decode cX13_told 28 = .ok (.iload_n 1, 1) := by decide +kernel
theorem dX13_told_29 : decode cX13_told 29 = .ok (.invokevirtual 225, 3) := by decide +kernel
theorem dX13_told_32 : decode cX13_told 32 = .ok (.ifCond .eq 5, 3) := by decide +kernel
theorem dX13_told_35 : decode cX13_told 35 = .ok (.iload_n 3, 1) := by decide +kernel
theorem dX13_told_36 : decode cX13_told 36 = .ok (.ireturn, 1) := by decide +kernel
theorem dX13_told_37 : decode cX13_told 37 = .ok (.iinc 3 1, 3) := by decide +kernel
theorem dX13_told_40 : decode cX13_told 40 = .ok (.iinc 4 1, 3) := by decide +kernel
theorem dX13_told_43 : decode cX13_told 43 = .ok (.goto (-38), 3) := by decide +kernel
theorem dX13_told_46 : decode cX13_told 46 = .ok (.iconst (-1), 1) := by decide +kernel
theorem dX13_told_47 : decode cX13_told 47 = .ok (.ireturn, 1) := by decide +kernel
theorem dX13_look_0 : decode cX13_look 0 = .ok (.aload_n 0, 1) := by decide +kernel
theorem dX13_look_1 : decode cX13_look 1 = .ok (.getfield 29, 3) := by decide +kernel
theorem dX13_look_4 : decode cX13_look 4 = .ok (.iload_n 1, 1) := by decide +kernel
theorem dX13_look_5 : decode cX13_look 5 = .ok (.aload_n 0, 1) := by decide +kernel
theorem dX13_look_6 : decode cX13_look 6 = .ok (.iload_n 1, 1) := by decide +kernel
theorem dX13_look_7 : decode cX13_look 7 = .ok (.iload_n 2, 1) := by decide +kernel
theorem dX13_look_8 : decode cX13_look 8 = .ok (.invokevirtual 228, 3) := by decide +kernel
theorem dX13_look_11 : decode cX13_look 11 = .ok (.iastore, 1) := by decide +kernel
theorem dX13_look_12 : decode cX13_look 12 = .ok (.aload_n 0, 1) := by decide +kernel
theorem dX13_look_13 : decode cX13_look 13 = .ok (.getfield 29, 3) := by decide +kernel
theorem dX13_look_16 : decode cX13_look 16 = .ok (.iload_n 1, 1) := by decide +kernel
theorem dX13_look_17 : decode cX13_look 17 = .ok (.iaload, 1) := by decide +kernel
theorem dX13_look_18 : decode cX13_look 18 = .ok (.iconst (-1), 1) := by decide +kernel
theorem dX13_look_19 : decode cX13_look 19 = .ok (.if_icmp .ne 7, 3) := by decide +kernel
theorem dX13_look_22 : decode cX13_look 22 = .ok (.iconst 3, 1) := by decide +kernel
theorem dX13_look_23 : decode cX13_look 23 = .ok (.goto 4, 3) := by decide +kernel
theorem dX13_look_26 : decode cX13_look 26 = .ok (.iconst 0, 1) := by decide +kernel
theorem dX13_look_27 : decode cX13_look 27 = .ok (.ireturn, 1) := by decide +kernel
theorem dX13_isNew_0 : decode cX13_isNew 0 = .ok (.aload_n 0, 1) := by decide +kernel
theorem dX13_isNew_1 : decode cX13_isNew 1 = .ok (.iload_n 1, 1) := by decide +kernel
theorem dX13_isNew_2 : decode cX13_isNew 2 = .ok (.aload_n 0, 1) := by decide +kernel
theorem dX13_isNew_3 : decode cX13_isNew 3 = .ok (.getfield 26, 3) := by decide +kernel
theorem dX13_isNew_6 : decode cX13_isNew 6 = .ok (.iload_n 1, 1) := by decide +kernel
theorem dX13_isNew_7 : decode cX13_isNew 7 = .ok (.iaload, 1) := by decide +kernel
theorem dX13_isNew_8 : decode cX13_isNew 8 = .ok (.invokevirtual 228, 3) := by decide +kernel
theorem dX13_isNew_11 : decode cX13_isNew 11 = .ok (.iconst (-1), 1) := by decide +kernel
theorem dX13_isNew_12 : decode cX13_isNew 12 = .ok (.if_icmp .eq 7, 3) := by decide +kernel
theorem dX13_isNew_15 : decode cX13_isNew 15 = .ok (.iconst 2, 1) := by decide +kernel
theorem dX13_isNew_16 : decode cX13_isNew 16 = .ok (.goto 13, 3) := by decide +kernel
theorem dX13_isNew_19 : decode cX13_isNew 19 = .ok (.iload_n 2, 1) := by decide +kernel
theorem dX13_isNew_20 : decode cX13_isNew 20 = .ok (.iload_n 3, 1) := by decide +kernel
theorem dX13_isNew_21 : decode cX13_isNew 21 = .ok (.if_icmp .ne 7, 3) := by decide +kernel
theorem dX13_isNew_24 : decode cX13_isNew 24 = .ok (.iconst 4, 1) := by decide +kernel
theorem dX13_isNew_25 : decode cX13_isNew 25 = .ok (.goto 4, 3) := by decide +kernel
theorem dX13_isNew_28 : decode cX13_isNew 28 = .ok (.iconst 0, 1) := by decide +kernel
theorem dX13_isNew_29 : decode cX13_isNew 29 = .ok (.ireturn, 1) := by decide +kernel
theorem dX13_inRange_0 : decode cX13_inRange 0 = .ok (.aload_n 0, 1) := by decide +kernel
theorem dX13_inRange_1 : decode cX13_inRange 1 = .ok (.iload_n 1, 1) := by decide +kernel
theorem dX13_inRange_2 : decode cX13_inRange 2 = .ok (.invokevirtual 219, 3) := by decide +kernel
theorem dX13_inRange_5 : decode cX13_inRange 5 = .ok (.iload_n 2, 1) := by decide +kernel
theorem dX13_inRange_6 : decode cX13_inRange 6 = .ok (.iload_n 3, 1) := by decide +kernel
theorem dX13_inRange_7 : decode cX13_inRange 7 = .ok (.invokestatic 63, 3) := by decide +kernel
theorem dX13_inRange_10 : decode cX13_inRange 10 = .ok (.ifCond .eq 7, 3) := by decide +kernel
theorem dX13_inRange_13 : decode cX13_inRange 13 = .ok (.iconst 0, 1) := by decide +kernel
theorem dX13_inRange_14 : decode cX13_inRange 14 = .ok (.goto 4, 3) := by decide +kernel
theorem dX13_inRange_17 : decode cX13_inRange 17 = .ok (.iconst 5, 1) := by decide +kernel
theorem dX13_inRange_18 : decode cX13_inRange 18 = .ok (.ireturn, 1) := by decide +kernel
theorem dX13_errorOf_0 : decode cX13_errorOf 0 = .ok (.aload_n 0, 1) := by decide +kernel
theorem dX13_errorOf_1 : decode cX13_errorOf 1 = .ok (.getfield 39, 3) := by decide +kernel
theorem dX13_errorOf_4 : decode cX13_errorOf 4 = .ok (.astore_n 2, 1) := by decide +kernel
theorem dX13_errorOf_5 : decode cX13_errorOf 5 = .ok (.iconst 0, 1) := by decide +kernel
theorem dX13_errorOf_6 : decode cX13_errorOf 6 = .ok (.istore_n 3, 1) := by decide +kernel
theorem dX13_errorOf_7 : decode cX13_errorOf 7 = .ok (.aload_n 0, 1) := by decide +kernel
theorem dX13_errorOf_8 : decode cX13_errorOf 8 = .ok (.getfield 26, 3) := by decide +kernel
theorem dX13_errorOf_11 : decode cX13_errorOf 11 = .ok (.iload_n 1, 1) := by decide +kernel
theorem dX13_errorOf_12 : decode cX13_errorOf 12 = .ok (.iaload, 1) := by decide +kernel
theorem dX13_errorOf_13 : decode cX13_errorOf 13 = .ok (.tableswitch 321 1 18 #[87, 119, 151, 183, 206, 321, 321, 321, 321, 321, 321, 321, 321, 229, 255, 281, 307, 314], 87) := by decide +kernel
theorem dX13_errorOf_100 : decode cX13_errorOf 100 = .ok (.aload_n 0, 1) := by decide +kernel
theorem dX13_errorOf_101 : decode cX13_errorOf 101 = .ok (.iload_n 1, 1) := by decide +kernel
theorem dX13_errorOf_102 : decode cX13_errorOf 102 = .ok (.aload_n 2, 1) := by decide +kernel
theorem dX13_errorOf_103 : decode cX13_errorOf 103 = .ok (.getfield 60, 3) := by decide +kernel
theorem dX13_errorOf_106 : decode cX13_errorOf 106 = .ok (.bipush 8, 2) := by decide +kernel
theorem dX13_errorOf_108 : decode cX13_errorOf 108 = .ok (.invokevirtual 231, 3) := by decide +kernel
theorem dX13_errorOf_111 : decode cX13_errorOf 111 = .ok (.istore_n 3, 1) := by decide +kernel
theorem dX13_errorOf_112 : decode cX13_errorOf 112 = .ok (.aload_n 2, 1) := by decide +kernel
theorem dX13_errorOf_113 : decode cX13_errorOf 113 = .ok (.dup, 1) := by decide +kernel
theorem dX13_errorOf_114 : decode cX13_errorOf 114 = .ok (.getfield 60, 3) := by decide +kernel
theorem dX13_errorOf_117 : decode cX13_errorOf 117 = .ok (.iload_n 3, 1) := by decide +kernel
theorem dX13_errorOf_118 : decode cX13_errorOf 118 = .ok (.ifCond .ne 7, 3) := by decide +kernel
theorem dX13_errorOf_121 : decode cX13_errorOf 121 = .ok (.iconst 1, 1) := by decide +kernel
theorem dX13_errorOf_122 : decode cX13_errorOf 122 = .ok (.goto 4, 3) := by decide +kernel
theorem dX13_errorOf_125 : decode cX13_errorOf 125 = .ok (.iconst 0, 1) := by decide +kernel
theorem dX13_errorOf_126 : decode cX13_errorOf 126 = .ok (.iadd, 1) := by decide +kernel
theorem dX13_errorOf_127 : decode cX13_errorOf 127 = .ok (.putfield 60, 3) := by decide +kernel
theorem dX13_errorOf_130 : decode cX13_errorOf 130 = .ok (.iload_n 3, 1) := by decide +kernel
theorem dX13_errorOf_131 : decode cX13_errorOf 131 = .ok (.ireturn, 1) := by decide +kernel
theorem dX13_errorOf_132 : decode cX13_errorOf 132 = .ok (.aload_n 0, 1) := by decide +kernel
theorem dX13_errorOf_133 : decode cX13_errorOf 133 = .ok (.iload_n 1, 1) := by decide +kernel
theorem dX13_errorOf_134 : decode cX13_errorOf 134 = .ok (.aload_n 2, 1) := by decide +kernel
theorem dX13_errorOf_135 : decode cX13_errorOf 135 = .ok (.getfield 67, 3) := by decide +kernel
theorem dX13_errorOf_138 : decode cX13_errorOf 138 = .ok (.bipush 6, 2) := by decide +kernel
theorem dX13_errorOf_140 : decode cX13_errorOf 140 = .ok (.invokevirtual 231, 3) := by decide +kernel
theorem dX13_errorOf_143 : decode cX13_errorOf 143 = .ok (.istore_n 3, 1) := by decide +kernel
theorem dX13_errorOf_144 : decode cX13_errorOf 144 = .ok (.aload_n 2, 1) := by decide +kernel
theorem dX13_errorOf_145 : decode cX13_errorOf 145 = .ok (.dup, 1) := by decide +kernel
theorem dX13_errorOf_146 : decode cX13_errorOf 146 = .ok (.getfield 67, 3) := by decide +kernel
theorem dX13_errorOf_149 : decode cX13_errorOf 149 = .ok (.iload_n 3, 1) := by decide +kernel
theorem dX13_errorOf_150 : decode cX13_errorOf 150 = .ok (.ifCond .ne 7, 3) := by decide +kernel
theorem dX13_errorOf_153 : decode cX13_errorOf 153 = .ok (.iconst 1, 1) := by decide +kernel
theorem dX13_errorOf_154 : decode cX13_errorOf 154 = .ok (.goto 4, 3) := by decide +kernel
theorem dX13_errorOf_157 : decode cX13_errorOf 157 = .ok (.iconst 0, 1) := by decide +kernel
theorem dX13_errorOf_158 : decode cX13_errorOf 158 = .ok (.iadd, 1) := by decide +kernel
theorem dX13_errorOf_159 : decode cX13_errorOf 159 = .ok (.putfield 67, 3) := by decide +kernel
theorem dX13_errorOf_162 : decode cX13_errorOf 162 = .ok (.iload_n 3, 1) := by decide +kernel
theorem dX13_errorOf_163 : decode cX13_errorOf 163 = .ok (.ireturn, 1) := by decide +kernel
theorem dX13_errorOf_164 : decode cX13_errorOf 164 = .ok (.aload_n 0, 1) := by decide +kernel
theorem dX13_errorOf_165 : decode cX13_errorOf 165 = .ok (.iload_n 1, 1) := by decide +kernel
theorem dX13_errorOf_166 : decode cX13_errorOf 166 = .ok (.aload_n 2, 1) := by decide +kernel
theorem dX13_errorOf_167 : decode cX13_errorOf 167 = .ok (.getfield 70, 3) := by decide +kernel
theorem dX13_errorOf_170 : decode cX13_errorOf 170 = .ok (.bipush 20, 2) := by decide +kernel
theorem dX13_errorOf_172 : decode cX13_errorOf 172 = .ok (.invokevirtual 231, 3) := by decide +kernel
theorem dX13_errorOf_175 : decode cX13_errorOf 175 = .ok (.istore_n 3, 1) := by decide +kernel
theorem dX13_errorOf_176 : decode cX13_errorOf 176 = .ok (.aload_n 2, 1) := by decide +kernel
theorem dX13_errorOf_177 : decode cX13_errorOf 177 = .ok (.dup, 1) := by decide +kernel
theorem dX13_errorOf_178 : decode cX13_errorOf 178 = .ok (.getfield 70, 3) := by decide +kernel
theorem dX13_errorOf_181 : decode cX13_errorOf 181 = .ok (.iload_n 3, 1) := by decide +kernel
theorem dX13_errorOf_182 : decode cX13_errorOf 182 = .ok (.ifCond .ne 7, 3) := by decide +kernel
theorem dX13_errorOf_185 : decode cX13_errorOf 185 = .ok (.iconst 1, 1) := by decide +kernel
theorem dX13_errorOf_186 : decode cX13_errorOf 186 = .ok (.goto 4, 3) := by decide +kernel
theorem dX13_errorOf_189 : decode cX13_errorOf 189 = .ok (.iconst 0, 1) := by decide +kernel
theorem dX13_errorOf_190 : decode cX13_errorOf 190 = .ok (.iadd, 1) := by decide +kernel
theorem dX13_errorOf_191 : decode cX13_errorOf 191 = .ok (.putfield 70, 3) := by decide +kernel
theorem dX13_errorOf_194 : decode cX13_errorOf 194 = .ok (.iload_n 3, 1) := by decide +kernel
theorem dX13_errorOf_195 : decode cX13_errorOf 195 = .ok (.ireturn, 1) := by decide +kernel
theorem dX13_errorOf_196 : decode cX13_errorOf 196 = .ok (.aload_n 2, 1) := by decide +kernel
theorem dX13_errorOf_197 : decode cX13_errorOf 197 = .ok (.getfield 235, 3) := by decide +kernel
theorem dX13_errorOf_200 : decode cX13_errorOf 200 = .ok (.bipush 12, 2) := by decide +kernel
theorem dX13_errorOf_202 : decode cX13_errorOf 202 = .ok (.if_icmp .ne 5, 3) := by decide +kernel
theorem dX13_errorOf_205 : decode cX13_errorOf 205 = .ok (.iconst 4, 1) := by decide +kernel
theorem dX13_errorOf_206 : decode cX13_errorOf 206 = .ok (.ireturn, 1) := by decide +kernel
theorem dX13_errorOf_207 : decode cX13_errorOf 207 = .ok (.aload_n 2, 1) := by decide +kernel
theorem dX13_errorOf_208 : decode cX13_errorOf 208 = .ok (.dup, 1) := by decide +kernel
theorem dX13_errorOf_209 : decode cX13_errorOf 209 = .ok (.getfield 235, 3) := by decide +kernel
theorem dX13_errorOf_212 : decode cX13_errorOf 212 = .ok (.iconst 1, 1) := by decide +kernel
theorem dX13_errorOf_213 : decode cX13_errorOf 213 = .ok (.iadd, 1) := by decide +kernel
theorem dX13_errorOf_214 : decode cX13_errorOf 214 = .ok (.putfield 235, 3) := by decide +kernel
theorem dX13_errorOf_217 : decode cX13_errorOf 217 = .ok (.iconst 0, 1) := by decide +kernel
theorem dX13_errorOf_218 : decode cX13_errorOf 218 = .ok (.ireturn, 1) := by decide +kernel
theorem dX13_errorOf_219 : decode cX13_errorOf 219 = .ok (.aload_n 2, 1) := by decide +kernel
theorem dX13_errorOf_220 : decode cX13_errorOf 220 = .ok (.getfield 238, 3) := by decide +kernel
theorem dX13_errorOf_223 : decode cX13_errorOf 223 = .ok (.bipush 12, 2) := by decide +kernel
theorem dX13_errorOf_225 : decode cX13_errorOf 225 = .ok (.if_icmp .ne 5, 3) := by decide +kernel
theorem dX13_errorOf_228 : decode cX13_errorOf 228 = .ok (.iconst 4, 1) := by decide +kernel
theorem dX13_errorOf_229 : decode cX13_errorOf 229 = .ok (.ireturn, 1) := by decide +kernel
theorem dX13_errorOf_230 : decode cX13_errorOf 230 = .ok (.aload_n 2, 1) := by decide +kernel
theorem dX13_errorOf_231 : decode cX13_errorOf 231 = .ok (.dup, 1) := by decide +kernel
theorem dX13_errorOf_232 : decode cX13_errorOf 232 = .ok (.getfield 238, 3) := by decide +kernel
theorem dX13_errorOf_235 : decode cX13_errorOf 235 = .ok (.iconst 1, 1) := by decide +kernel
theorem dX13_errorOf_236 : decode cX13_errorOf 236 = .ok (.iadd, 1) := by decide +kernel
theorem dX13_errorOf_237 : decode cX13_errorOf 237 = .ok (.putfield 238, 3) := by decide +kernel
theorem dX13_errorOf_240 : decode cX13_errorOf 240 = .ok (.iconst 0, 1) := by decide +kernel
theorem dX13_errorOf_241 : decode cX13_errorOf 241 = .ok (.ireturn, 1) := by decide +kernel
theorem dX13_errorOf_242 : decode cX13_errorOf 242 = .ok (.aload_n 0, 1) := by decide +kernel
theorem dX13_errorOf_243 : decode cX13_errorOf 243 = .ok (.iload_n 1, 1) := by decide +kernel
theorem dX13_errorOf_244 : decode cX13_errorOf 244 = .ok (.iconst 2, 1) := by decide +kernel
theorem dX13_errorOf_245 : decode cX13_errorOf 245 = .ok (.invokevirtual 241, 3) := by decide +kernel
theorem dX13_errorOf_248 : decode cX13_errorOf 248 = .ok (.istore_n 3, 1) := by decide +kernel
theorem dX13_errorOf_249 : decode cX13_errorOf 249 = .ok (.aload_n 2, 1) := by decide +kernel
theorem dX13_errorOf_250 : decode cX13_errorOf 250 = .ok (.getfield 244, 3) := by decide +kernel
theorem dX13_errorOf_253 : decode cX13_errorOf 253 = .ok (.aload_n 2, 1) := by decide +kernel
theorem dX13_errorOf_254 : decode cX13_errorOf 254 = .ok (.getfield 235, 3) := by decide +kernel
theorem dX13_errorOf_257 : decode cX13_errorOf 257 = .ok (.iconst 1, 1) := by decide +kernel
theorem dX13_errorOf_258 : decode cX13_errorOf 258 = .ok (.isub, 1) := by decide +kernel
theorem dX13_errorOf_259 : decode cX13_errorOf 259 = .ok (.aload_n 0, 1) := by decide +kernel
theorem dX13_errorOf_260 : decode cX13_errorOf 260 = .ok (.getfield 29, 3) := by decide +kernel
theorem dX13_errorOf_263 : decode cX13_errorOf 263 = .ok (.iload_n 1, 1) := by decide +kernel
theorem dX13_errorOf_264 : decode cX13_errorOf 264 = .ok (.iaload, 1) := by decide +kernel
theorem dX13_errorOf_265 : decode cX13_errorOf 265 = .ok (.iastore, 1) := by decide +kernel
theorem dX13_errorOf_266 : decode cX13_errorOf 266 = .ok (.iload_n 3, 1) := by decide +kernel
theorem dX13_errorOf_267 : decode cX13_errorOf 267 = .ok (.ireturn, 1) := by decide +kernel
theorem dX13_errorOf_268 : decode cX13_errorOf 268 = .ok (.aload_n 0, 1) := by decide +kernel
theorem dX13_errorOf_269 : decode cX13_errorOf 269 = .ok (.iload_n 1, 1) := by decide +kernel
theorem dX13_errorOf_270 : decode cX13_errorOf 270 = .ok (.iconst 2, 1) := by decide +kernel
theorem dX13_errorOf_271 : decode cX13_errorOf 271 = .ok (.invokevirtual 241, 3) := by decide +kernel
theorem dX13_errorOf_274 : decode cX13_errorOf 274 = .ok (.istore_n 3, 1) := by decide +kernel
theorem dX13_errorOf_275 : decode cX13_errorOf 275 = .ok (.aload_n 2, 1) := by decide +kernel
theorem dX13_errorOf_276 : decode cX13_errorOf 276 = .ok (.getfield 247, 3) := by decide +kernel
theorem dX13_errorOf_279 : decode cX13_errorOf 279 = .ok (.aload_n 2, 1) := by decide +kernel
theorem dX13_errorOf_280 : decode cX13_errorOf 280 = .ok (.getfield 238, 3) := by decide +kernel
theorem dX13_errorOf_283 : decode cX13_errorOf 283 = .ok (.iconst 1, 1) := by decide +kernel
theorem dX13_errorOf_284 : decode cX13_errorOf 284 = .ok (.isub, 1) := by decide +kernel
theorem dX13_errorOf_285 : decode cX13_errorOf 285 = .ok (.aload_n 0, 1) := by decide +kernel
theorem dX13_errorOf_286 : decode cX13_errorOf 286 = .ok (.getfield 29, 3) := by decide +kernel
theorem dX13_errorOf_289 : decode cX13_errorOf 289 = .ok (.iload_n 1, 1) := by decide +kernel
theorem dX13_errorOf_290 : decode cX13_errorOf 290 = .ok (.iaload, 1) := by decide +kernel
theorem dX13_errorOf_291 : decode cX13_errorOf 291 = .ok (.iastore, 1) := by decide +kernel
theorem dX13_errorOf_292 : decode cX13_errorOf 292 = .ok (.iload_n 3, 1) := by decide +kernel
theorem dX13_errorOf_293 : decode cX13_errorOf 293 = .ok (.ireturn, 1) := by decide +kernel
theorem dX13_errorOf_294 : decode cX13_errorOf 294 = .ok (.aload_n 0, 1) := by decide +kernel
theorem dX13_errorOf_295 : decode cX13_errorOf 295 = .ok (.iload_n 1, 1) := by decide +kernel
theorem dX13_errorOf_296 : decode cX13_errorOf 296 = .ok (.iconst 1, 1) := by decide +kernel
theorem dX13_errorOf_297 : decode cX13_errorOf 297 = .ok (.invokevirtual 241, 3) := by decide +kernel
theorem dX13_errorOf_300 : decode cX13_errorOf 300 = .ok (.istore_n 3, 1) := by decide +kernel
theorem dX13_errorOf_301 : decode cX13_errorOf 301 = .ok (.aload_n 2, 1) := by decide +kernel
theorem dX13_errorOf_302 : decode cX13_errorOf 302 = .ok (.getfield 250, 3) := by decide +kernel
theorem dX13_errorOf_305 : decode cX13_errorOf 305 = .ok (.aload_n 2, 1) := by decide +kernel
theorem dX13_errorOf_306 : decode cX13_errorOf 306 = .ok (.getfield 238, 3) := by decide +kernel
theorem dX13_errorOf_309 : decode cX13_errorOf 309 = .ok (.iconst 1, 1) := by decide +kernel
theorem dX13_errorOf_310 : decode cX13_errorOf 310 = .ok (.isub, 1) := by decide +kernel
theorem dX13_errorOf_311 : decode cX13_errorOf 311 = .ok (.aload_n 0, 1) := by decide +kernel
theorem dX13_errorOf_312 : decode cX13_errorOf 312 = .ok (.getfield 29, 3) := by decide +kernel
theorem dX13_errorOf_315 : decode cX13_errorOf 315 = .ok (.iload_n 1, 1) := by decide +kernel
theorem dX13_errorOf_316 : decode cX13_errorOf 316 = .ok (.iaload, 1) := by decide +kernel
theorem dX13_errorOf_317 : decode cX13_errorOf 317 = .ok (.iastore, 1) := by decide +kernel
theorem dX13_errorOf_318 : decode cX13_errorOf 318 = .ok (.iload_n 3, 1) := by decide +kernel
theorem dX13_errorOf_319 : decode cX13_errorOf 319 = .ok (.ireturn, 1) := by decide +kernel
theorem dX13_errorOf_320 : decode cX13_errorOf 320 = .ok (.aload_n 0, 1) := by decide +kernel
theorem dX13_errorOf_321 : decode cX13_errorOf 321 = .ok (.iload_n 1, 1) := by decide +kernel
theorem dX13_errorOf_322 : decode cX13_errorOf 322 = .ok (.iconst 2, 1) := by decide +kernel
theorem dX13_errorOf_323 : decode cX13_errorOf 323 = .ok (.invokevirtual 241, 3) := by decide +kernel
theorem dX13_errorOf_326 : decode cX13_errorOf 326 = .ok (.ireturn, 1) := by decide +kernel
theorem dX13_errorOf_327 : decode cX13_errorOf 327 = .ok (.aload_n 0, 1) := by decide +kernel
theorem dX13_errorOf_328 : decode cX13_errorOf 328 = .ok (.iload_n 1, 1) := by decide +kernel
theorem dX13_errorOf_329 : decode cX13_errorOf 329 = .ok (.iconst 1, 1) := by decide +kernel
theorem dX13_errorOf_330 : decode cX13_errorOf 330 = .ok (.invokevirtual 241, 3) := by decide +kernel
theorem dX13_errorOf_333 : decode cX13_errorOf 333 = .ok (.ireturn, 1) := by decide +kernel
theorem dX13_errorOf_334 : decode cX13_errorOf 334 = .ok (.aload_n 0, 1) := by decide +kernel
theorem dX13_errorOf_335 : decode cX13_errorOf 335 = .ok (.iload_n 1, 1) := by decide +kernel
theorem dX13_errorOf_336 : decode cX13_errorOf 336 = .ok (.invokevirtual 253, 3) := by decide +kernel
theorem dX13_errorOf_339 : decode cX13_errorOf 339 = .ok (.ireturn, 1) := by decide +kernel
theorem dX13_numberOf_0 : decode cX13_numberOf 0 = .ok (.aload_n 0, 1) := by decide +kernel
theorem dX13_numberOf_1 : decode cX13_numberOf 1 = .ok (.getfield 39, 3) := by decide +kernel
theorem dX13_numberOf_4 : decode cX13_numberOf 4 = .ok (.astore_n 2, 1) := by decide +kernel
theorem dX13_numberOf_5 : decode cX13_numberOf 5 = .ok (.aload_n 0, 1) := by decide +kernel
theorem dX13_numberOf_6 : decode cX13_numberOf 6 = .ok (.getfield 26, 3) := by decide +kernel
theorem dX13_numberOf_9 : decode cX13_numberOf 9 = .ok (.iload_n 1, 1) := by decide +kernel
theorem dX13_numberOf_10 : decode cX13_numberOf 10 = .ok (.iaload, 1) := by decide +kernel
theorem dX13_numberOf_11 : decode cX13_numberOf 11 = .ok (.tableswitch 256 6 13 #[45, 70, 117, 142, 167, 192, 217, 231], 45) := by decide +kernel
theorem dX13_numberOf_56 : decode cX13_numberOf 56 = .ok (.aload_n 2, 1) := by decide +kernel
theorem dX13_numberOf_57 : decode cX13_numberOf 57 = .ok (.getfield 256, 3) := by decide +kernel
theorem dX13_numberOf_60 : decode cX13_numberOf 60 = .ok (.aload_n 2, 1) := by decide +kernel
theorem dX13_numberOf_61 : decode cX13_numberOf 61 = .ok (.getfield 60, 3) := by decide +kernel
theorem dX13_numberOf_64 : decode cX13_numberOf 64 = .ok (.iconst 1, 1) := by decide +kernel
theorem dX13_numberOf_65 : decode cX13_numberOf 65 = .ok (.isub, 1) := by decide +kernel
theorem dX13_numberOf_66 : decode cX13_numberOf 66 = .ok (.aload_n 0, 1) := by decide +kernel
theorem dX13_numberOf_67 : decode cX13_numberOf 67 = .ok (.iload_n 1, 1) := by decide +kernel
theorem dX13_numberOf_68 : decode cX13_numberOf 68 = .ok (.invokevirtual 219, 3) := by decide +kernel
theorem dX13_numberOf_71 : decode cX13_numberOf 71 = .ok (.iastore, 1) := by decide +kernel
theorem dX13_numberOf_72 : decode cX13_numberOf 72 = .ok (.aload_n 0, 1) := by decide +kernel
theorem dX13_numberOf_73 : decode cX13_numberOf 73 = .ok (.iload_n 1, 1) := by decide +kernel
theorem dX13_numberOf_74 : decode cX13_numberOf 74 = .ok (.iconst 1, 1) := by decide +kernel
theorem dX13_numberOf_75 : decode cX13_numberOf 75 = .ok (.bipush 9, 2) := by decide +kernel
theorem dX13_numberOf_77 : decode cX13_numberOf 77 = .ok (.invokevirtual 258, 3) := by decide +kernel
theorem dX13_numberOf_80 : decode cX13_numberOf 80 = .ok (.ireturn, 1) := by decide +kernel
theorem dX13_numberOf_81 : decode cX13_numberOf 81 = .ok (.aload_n 2, 1) := by decide +kernel
theorem dX13_numberOf_82 : decode cX13_numberOf 82 = .ok (.getfield 261, 3) := by decide +kernel
theorem dX13_numberOf_85 : decode cX13_numberOf 85 = .ok (.aload_n 2, 1) := by decide +kernel
theorem dX13_numberOf_86 : decode cX13_numberOf 86 = .ok (.getfield 60, 3) := by decide +kernel
theorem dX13_numberOf_89 : decode cX13_numberOf 89 = .ok (.iconst 1, 1) := by decide +kernel
theorem dX13_numberOf_90 : decode cX13_numberOf 90 = .ok (.isub, 1) := by decide +kernel
theorem dX13_numberOf_91 : decode cX13_numberOf 91 = .ok (.aload_n 0, 1) := by decide +kernel
theorem dX13_numberOf_92 : decode cX13_numberOf 92 = .ok (.getfield 26, 3) := by decide +kernel
theorem dX13_numberOf_95 : decode cX13_numberOf 95 = .ok (.iload_n 1, 1) := by decide +kernel
theorem dX13_numberOf_96 : decode cX13_numberOf 96 = .ok (.iconst 1, 1) := by decide +kernel
theorem dX13_numberOf_97 : decode cX13_numberOf 97 = .ok (.isub, 1) := by decide +kernel
theorem dX13_numberOf_98 : decode cX13_numberOf 98 = .ok (.iaload, 1) := by decide +kernel
theorem dX13_numberOf_99 : decode cX13_numberOf 99 = .ok (.bipush 19, 2) := by decide +kernel
theorem dX13_numberOf_101 : decode cX13_numberOf 101 = .ok (.if_icmp .ne 12, 3) := by decide +kernel
theorem dX13_numberOf_104 : decode cX13_numberOf 104 = .ok (.aload_n 0, 1) := by decide +kernel
theorem dX13_numberOf_105 : decode cX13_numberOf 105 = .ok (.iload_n 1, 1) := by decide +kernel
theorem dX13_numberOf_106 : decode cX13_numberOf 106 = .ok (.invokevirtual 219, 3) := by decide +kernel
theorem dX13_numberOf_109 : decode cX13_numberOf 109 = .ok (.ineg, 1) := by decide +kernel
theorem dX13_numberOf_110 : decode cX13_numberOf 110 = .ok (.goto 8, 3) := by decide +kernel
theorem dX13_numberOf_113 : decode cX13_numberOf 113 = .ok (.aload_n 0, 1) := by decide +kernel
theorem dX13_numberOf_114 : decode cX13_numberOf 114 = .ok (.iload_n 1, 1) := by decide +kernel
theorem dX13_numberOf_115 : decode cX13_numberOf 115 = .ok (.invokevirtual 219, 3) := by decide +kernel
theorem dX13_numberOf_118 : decode cX13_numberOf 118 = .ok (.iastore, 1) := by decide +kernel
theorem dX13_numberOf_119 : decode cX13_numberOf 119 = .ok (.aload_n 0, 1) := by decide +kernel
theorem dX13_numberOf_120 : decode cX13_numberOf 120 = .ok (.iload_n 1, 1) := by decide +kernel
theorem dX13_numberOf_121 : decode cX13_numberOf 121 = .ok (.iconst 0, 1) := by decide +kernel
theorem dX13_numberOf_122 : decode cX13_numberOf 122 = .ok (.bipush 9, 2) := by decide +kernel
theorem dX13_numberOf_124 : decode cX13_numberOf 124 = .ok (.invokevirtual 258, 3) := by decide +kernel
theorem dX13_numberOf_127 : decode cX13_numberOf 127 = .ok (.ireturn, 1) := by decide +kernel
theorem dX13_numberOf_128 : decode cX13_numberOf 128 = .ok (.aload_n 2, 1) := by decide +kernel
theorem dX13_numberOf_129 : decode cX13_numberOf 129 = .ok (.getfield 264, 3) := by decide +kernel
theorem dX13_numberOf_132 : decode cX13_numberOf 132 = .ok (.aload_n 2, 1) := by decide +kernel
theorem dX13_numberOf_133 : decode cX13_numberOf 133 = .ok (.getfield 60, 3) := by decide +kernel
theorem dX13_numberOf_136 : decode cX13_numberOf 136 = .ok (.iconst 1, 1) := by decide +kernel
theorem dX13_numberOf_137 : decode cX13_numberOf 137 = .ok (.isub, 1) := by decide +kernel
theorem dX13_numberOf_138 : decode cX13_numberOf 138 = .ok (.aload_n 0, 1) := by decide +kernel
theorem dX13_numberOf_139 : decode cX13_numberOf 139 = .ok (.iload_n 1, 1) := by decide +kernel
theorem dX13_numberOf_140 : decode cX13_numberOf 140 = .ok (.invokevirtual 219, 3) := by decide +kernel
theorem dX13_numberOf_143 : decode cX13_numberOf 143 = .ok (.iastore, 1) := by decide +kernel
theorem dX13_numberOf_144 : decode cX13_numberOf 144 = .ok (.aload_n 0, 1) := by decide +kernel
theorem dX13_numberOf_145 : decode cX13_numberOf 145 = .ok (.iload_n 1, 1) := by decide +kernel
theorem dX13_numberOf_146 : decode cX13_numberOf 146 = .ok (.iconst 0, 1) := by decide +kernel
theorem dX13_numberOf_147 : decode cX13_numberOf 147 = .ok (.bipush 9, 2) := by decide +kernel
theorem dX13_numberOf_149 : decode cX13_numberOf 149 = .ok (.invokevirtual 258, 3) := by decide +kernel
theorem dX13_numberOf_152 : decode cX13_numberOf 152 = .ok (.ireturn, 1) := by decide +kernel
theorem dX13_numberOf_153 : decode cX13_numberOf 153 = .ok (.aload_n 2, 1) := by decide +kernel
theorem dX13_numberOf_154 : decode cX13_numberOf 154 = .ok (.getfield 267, 3) := by decide +kernel
theorem dX13_numberOf_157 : decode cX13_numberOf 157 = .ok (.aload_n 2, 1) := by decide +kernel
theorem dX13_numberOf_158 : decode cX13_numberOf 158 = .ok (.getfield 67, 3) := by decide +kernel
theorem dX13_numberOf_161 : decode cX13_numberOf 161 = .ok (.iconst 1, 1) := by decide +kernel
theorem dX13_numberOf_162 : decode cX13_numberOf 162 = .ok (.isub, 1) := by decide +kernel
theorem dX13_numberOf_163 : decode cX13_numberOf 163 = .ok (.aload_n 0, 1) := by decide +kernel
theorem dX13_numberOf_164 : decode cX13_numberOf 164 = .ok (.iload_n 1, 1) := by decide +kernel
theorem dX13_numberOf_165 : decode cX13_numberOf 165 = .ok (.invokevirtual 219, 3) := by decide +kernel
theorem dX13_numberOf_168 : decode cX13_numberOf 168 = .ok (.iastore, 1) := by decide +kernel
theorem dX13_numberOf_169 : decode cX13_numberOf 169 = .ok (.aload_n 0, 1) := by decide +kernel
theorem dX13_numberOf_170 : decode cX13_numberOf 170 = .ok (.iload_n 1, 1) := by decide +kernel
theorem dX13_numberOf_171 : decode cX13_numberOf 171 = .ok (.iconst 1, 1) := by decide +kernel
theorem dX13_numberOf_172 : decode cX13_numberOf 172 = .ok (.bipush 99, 2) := by decide +kernel
theorem dX13_numberOf_174 : decode cX13_numberOf 174 = .ok (.invokevirtual 258, 3) := by decide +kernel
theorem dX13_numberOf_177 : decode cX13_numberOf 177 = .ok (.ireturn, 1) := by decide +kernel
theorem dX13_numberOf_178 : decode cX13_numberOf 178 = .ok (.aload_n 2, 1) := by decide +kernel
theorem dX13_numberOf_179 : decode cX13_numberOf 179 = .ok (.getfield 270, 3) := by decide +kernel
theorem dX13_numberOf_182 : decode cX13_numberOf 182 = .ok (.aload_n 2, 1) := by decide +kernel
theorem dX13_numberOf_183 : decode cX13_numberOf 183 = .ok (.getfield 67, 3) := by decide +kernel
theorem dX13_numberOf_186 : decode cX13_numberOf 186 = .ok (.iconst 1, 1) := by decide +kernel
theorem dX13_numberOf_187 : decode cX13_numberOf 187 = .ok (.isub, 1) := by decide +kernel
theorem dX13_numberOf_188 : decode cX13_numberOf 188 = .ok (.aload_n 0, 1) := by decide +kernel
theorem dX13_numberOf_189 : decode cX13_numberOf 189 = .ok (.iload_n 1, 1) := by decide +kernel
theorem dX13_numberOf_190 : decode cX13_numberOf 190 = .ok (.invokevirtual 219, 3) := by decide +kernel
theorem dX13_numberOf_193 : decode cX13_numberOf 193 = .ok (.iastore, 1) := by decide +kernel
theorem dX13_numberOf_194 : decode cX13_numberOf 194 = .ok (.aload_n 0, 1) := by decide +kernel
theorem dX13_numberOf_195 : decode cX13_numberOf 195 = .ok (.iload_n 1, 1) := by decide +kernel
theorem dX13_numberOf_196 : decode cX13_numberOf 196 = .ok (.iconst 1, 1) := by decide +kernel
theorem dX13_numberOf_197 : decode cX13_numberOf 197 = .ok (.bipush 9, 2) := by decide +kernel
theorem dX13_numberOf_199 : decode cX13_numberOf 199 = .ok (.invokevirtual 258, 3) := by decide +kernel
theorem dX13_numberOf_202 : decode cX13_numberOf 202 = .ok (.ireturn, 1) := by decide +kernel
theorem dX13_numberOf_203 : decode cX13_numberOf 203 = .ok (.aload_n 2, 1) := by decide +kernel
theorem dX13_numberOf_204 : decode cX13_numberOf 204 = .ok (.getfield 273, 3) := by decide +kernel
theorem dX13_numberOf_207 : decode cX13_numberOf 207 = .ok (.aload_n 2, 1) := by decide +kernel
theorem dX13_numberOf_208 : decode cX13_numberOf 208 = .ok (.getfield 67, 3) := by decide +kernel
theorem dX13_numberOf_211 : decode cX13_numberOf 211 = .ok (.iconst 1, 1) := by decide +kernel
theorem dX13_numberOf_212 : decode cX13_numberOf 212 = .ok (.isub, 1) := by decide +kernel
theorem dX13_numberOf_213 : decode cX13_numberOf 213 = .ok (.aload_n 0, 1) := by decide +kernel
theorem dX13_numberOf_214 : decode cX13_numberOf 214 = .ok (.iload_n 1, 1) := by decide +kernel
theorem dX13_numberOf_215 : decode cX13_numberOf 215 = .ok (.invokevirtual 219, 3) := by decide +kernel
theorem dX13_numberOf_218 : decode cX13_numberOf 218 = .ok (.iastore, 1) := by decide +kernel
theorem dX13_numberOf_219 : decode cX13_numberOf 219 = .ok (.aload_n 0, 1) := by decide +kernel
theorem dX13_numberOf_220 : decode cX13_numberOf 220 = .ok (.iload_n 1, 1) := by decide +kernel
theorem dX13_numberOf_221 : decode cX13_numberOf 221 = .ok (.iconst 1, 1) := by decide +kernel
theorem dX13_numberOf_222 : decode cX13_numberOf 222 = .ok (.bipush 99, 2) := by decide +kernel
theorem dX13_numberOf_224 : decode cX13_numberOf 224 = .ok (.invokevirtual 258, 3) := by decide +kernel
theorem dX13_numberOf_227 : decode cX13_numberOf 227 = .ok (.ireturn, 1) := by decide +kernel
theorem dX13_numberOf_228 : decode cX13_numberOf 228 = .ok (.aload_n 2, 1) := by decide +kernel
theorem dX13_numberOf_229 : decode cX13_numberOf 229 = .ok (.getfield 276, 3) := by decide +kernel
theorem dX13_numberOf_232 : decode cX13_numberOf 232 = .ok (.aload_n 2, 1) := by decide +kernel
theorem dX13_numberOf_233 : decode cX13_numberOf 233 = .ok (.getfield 67, 3) := by decide +kernel
theorem dX13_numberOf_236 : decode cX13_numberOf 236 = .ok (.iconst 1, 1) := by decide +kernel
theorem dX13_numberOf_237 : decode cX13_numberOf 237 = .ok (.isub, 1) := by decide +kernel
theorem dX13_numberOf_238 : decode cX13_numberOf 238 = .ok (.iconst 1, 1) := by decide +kernel
theorem dX13_numberOf_239 : decode cX13_numberOf 239 = .ok (.iastore, 1) := by decide +kernel
theorem dX13_numberOf_240 : decode cX13_numberOf 240 = .ok (.iconst 0, 1) := by decide +kernel
theorem dX13_numberOf_241 : decode cX13_numberOf 241 = .ok (.ireturn, 1) := by decide +kernel
theorem dX13_numberOf_242 : decode cX13_numberOf 242 = .ok (.aload_n 2, 1) := by decide +kernel
theorem dX13_numberOf_243 : decode cX13_numberOf 243 = .ok (.getfield 279, 3) := by decide +kernel
theorem dX13_numberOf_246 : decode cX13_numberOf 246 = .ok (.aload_n 2, 1) := by decide +kernel
theorem dX13_numberOf_247 : decode cX13_numberOf 247 = .ok (.getfield 70, 3) := by decide +kernel
theorem dX13_numberOf_250 : decode cX13_numberOf 250 = .ok (.iconst 1, 1) := by decide +kernel
theorem dX13_numberOf_251 : decode cX13_numberOf 251 = .ok (.isub, 1) := by decide +kernel
theorem dX13_numberOf_252 : decode cX13_numberOf 252 = .ok (.aload_n 0, 1) := by decide +kernel
theorem dX13_numberOf_253 : decode cX13_numberOf 253 = .ok (.iload_n 1, 1) := by decide +kernel
theorem dX13_numberOf_254 : decode cX13_numberOf 254 = .ok (.invokevirtual 219, 3) := by decide +kernel
theorem dX13_numberOf_257 : decode cX13_numberOf 257 = .ok (.iastore, 1) := by decide +kernel
theorem dX13_numberOf_258 : decode cX13_numberOf 258 = .ok (.aload_n 0, 1) := by decide +kernel
theorem dX13_numberOf_259 : decode cX13_numberOf 259 = .ok (.iload_n 1, 1) := by decide +kernel
theorem dX13_numberOf_260 : decode cX13_numberOf 260 = .ok (.iconst 1, 1) := by decide +kernel
theorem dX13_numberOf_261 : decode cX13_numberOf 261 = .ok (.bipush 60, 2) := by decide +kernel
theorem dX13_numberOf_263 : decode cX13_numberOf 263 = .ok (.invokevirtual 258, 3) := by decide +kernel
theorem dX13_numberOf_266 : decode cX13_numberOf 266 = .ok (.ireturn, 1) := by decide +kernel
theorem dX13_numberOf_267 : decode cX13_numberOf 267 = .ok (.iconst 0, 1) := by decide +kernel
theorem dX13_numberOf_268 : decode cX13_numberOf 268 = .ok (.ireturn, 1) := by decide +kernel
theorem dX13_read_0 : decode cX13_read 0 = .ok (.aload_n 0, 1) := by decide +kernel
theorem dX13_read_1 : decode cX13_read 1 = .ok (.new 32, 3) := by decide +kernel
theorem dX13_read_4 : decode cX13_read 4 = .ok (.dup, 1) := by decide +kernel
theorem dX13_read_5 : decode cX13_read 5 = .ok (.invokespecial 34, 3) := by decide +kernel
theorem dX13_read_8 : decode cX13_read 8 = .ok (.putfield 39, 3) := by decide +kernel
theorem dX13_read_11 : decode cX13_read 11 = .ok (.aload_n 0, 1) := by decide +kernel
theorem dX13_read_12 : decode cX13_read 12 = .ok (.invokevirtual 282, 3) := by decide +kernel
theorem dX13_read_15 : decode cX13_read 15 = .ok (.aload_n 0, 1) := by decide +kernel
theorem dX13_read_16 : decode cX13_read 16 = .ok (.iconst 0, 1) := by decide +kernel
theorem dX13_read_17 : decode cX13_read 17 = .ok (.putfield 124, 3) := by decide +kernel
theorem dX13_read_20 : decode cX13_read 20 = .ok (.aload_n 0, 1) := by decide +kernel
theorem dX13_read_21 : decode cX13_read 21 = .ok (.iconst 0, 1) := by decide +kernel
theorem dX13_read_22 : decode cX13_read 22 = .ok (.putfield 198, 3) := by decide +kernel
theorem dX13_read_25 : decode cX13_read 25 = .ok (.aload_n 0, 1) := by decide +kernel
theorem dX13_read_26 : decode cX13_read 26 = .ok (.invokevirtual 285, 3) := by decide +kernel
theorem dX13_read_29 : decode cX13_read 29 = .ok (.ifCond .ne 18, 3) := by decide +kernel
theorem dX13_read_32 : decode cX13_read 32 = .ok (.aload_n 0, 1) := by decide +kernel
theorem dX13_read_33 : decode cX13_read 33 = .ok (.aload_n 0, 1) := by decide +kernel
theorem dX13_read_34 : decode cX13_read 34 = .ok (.getfield 20, 3) := by decide +kernel
theorem dX13_read_37 : decode cX13_read 37 = .ok (.aload_n 0, 1) := by decide +kernel
theorem dX13_read_38 : decode cX13_read 38 = .ok (.getfield 124, 3) := by decide +kernel
theorem dX13_read_41 : decode cX13_read 41 = .ok (.iaload, 1) := by decide +kernel
theorem dX13_read_42 : decode cX13_read 42 = .ok (.putfield 13, 3) := by decide +kernel
theorem dX13_read_45 : decode cX13_read 45 = .ok (.iconst 1, 1) := by decide +kernel
theorem dX13_read_46 : decode cX13_read 46 = .ok (.ireturn, 1) := by decide +kernel
theorem dX13_read_47 : decode cX13_read 47 = .ok (.aload_n 0, 1) := by decide +kernel
theorem dX13_read_48 : decode cX13_read 48 = .ok (.getfield 124, 3) := by decide +kernel
theorem dX13_read_51 : decode cX13_read 51 = .ok (.istore_n 1, 1) := by decide +kernel
theorem dX13_read_52 : decode cX13_read 52 = .ok (.aload_n 0, 1) := by decide +kernel
theorem dX13_read_53 : decode cX13_read 53 = .ok (.iconst 0, 1) := by decide +kernel
theorem dX13_read_54 : decode cX13_read 54 = .ok (.putfield 124, 3) := by decide +kernel
theorem dX13_read_57 : decode cX13_read 57 = .ok (.aload_n 0, 1) := by decide +kernel
theorem dX13_read_58 : decode cX13_read 58 = .ok (.getfield 124, 3) := by decide +kernel
theorem dX13_read_61 : decode cX13_read 61 = .ok (.iload_n 1, 1) := by decide +kernel
theorem dX13_read_62 : decode cX13_read 62 = .ok (.if_icmp .ge 47, 3) := by decide +kernel
theorem dX13_read_65 : decode cX13_read 65 = .ok (.aload_n 0, 1) := by decide +kernel
theorem dX13_read_66 : decode cX13_read 66 = .ok (.aload_n 0, 1) := by decide +kernel
theorem dX13_read_67 : decode cX13_read 67 = .ok (.getfield 124, 3) := by decide +kernel
theorem dX13_read_70 : decode cX13_read 70 = .ok (.invokevirtual 288, 3) := by decide +kernel
theorem dX13_read_73 : decode cX13_read 73 = .ok (.istore_n 2, 1) := by decide +kernel
theorem dX13_read_74 : decode cX13_read 74 = .ok (.iload_n 2, 1) := by decide +kernel
theorem dX13_read_75 : decode cX13_read 75 = .ok (.ifCond .ne 6, 3) := by decide +kernel
theorem dX13_read_78 : decode cX13_read 78 = .ok (.goto 18, 3) := by decide +kernel
theorem dX13_read_81 : decode cX13_read 81 = .ok (.aload_n 0, 1) := by decide +kernel
theorem dX13_read_82 : decode cX13_read 82 = .ok (.aload_n 0, 1) := by decide +kernel
theorem dX13_read_83 : decode cX13_read 83 = .ok (.getfield 20, 3) := by decide +kernel
theorem dX13_read_86 : decode cX13_read 86 = .ok (.aload_n 0, 1) := by decide +kernel
theorem dX13_read_87 : decode cX13_read 87 = .ok (.getfield 124, 3) := by decide +kernel
theorem dX13_read_90 : decode cX13_read 90 = .ok (.iaload, 1) := by decide +kernel
theorem dX13_read_91 : decode cX13_read 91 = .ok (.putfield 13, 3) := by decide +kernel
theorem dX13_read_94 : decode cX13_read 94 = .ok (.iload_n 2, 1) := by decide +kernel
theorem dX13_read_95 : decode cX13_read 95 = .ok (.ireturn, 1) := by decide +kernel
theorem dX13_read_96 : decode cX13_read 96 = .ok (.aload_n 0, 1) := by decide +kernel
theorem dX13_read_97 : decode cX13_read 97 = .ok (.dup, 1) := by decide +kernel
theorem dX13_read_98 : decode cX13_read 98 = .ok (.getfield 124, 3) := by decide +kernel
theorem dX13_read_101 : decode cX13_read 101 = .ok (.iconst 1, 1) := by decide +kernel
theorem dX13_read_102 : decode cX13_read 102 = .ok (.iadd, 1) := by decide +kernel
theorem dX13_read_103 : decode cX13_read 103 = .ok (.putfield 124, 3) := by decide +kernel
theorem dX13_read_106 : decode cX13_read 106 = .ok (.goto (-49), 3) := by decide +kernel
theorem dX13_read_109 : decode cX13_read 109 = .ok (.iconst 0, 1) := by decide +kernel
theorem dX13_read_110 : decode cX13_read 110 = .ok (.istore_n 2, 1) := by decide +kernel
theorem dX13_read_111 : decode cX13_read 111 = .ok (.iload_n 2, 1) := by decide +kernel
theorem dX13_read_112 : decode cX13_read 112 = .ok (.aload_n 0, 1) := by decide +kernel
theorem dX13_read_113 : decode cX13_read 113 = .ok (.getfield 39, 3) := by decide +kernel
theorem dX13_read_116 : decode cX13_read 116 = .ok (.getfield 204, 3) := by decide +kernel
theorem dX13_read_119 : decode cX13_read 119 = .ok (.if_icmp .ge 48, 3) := by decide +kernel
theorem dX13_read_122 : decode cX13_read 122 = .ok (.aload_n 0, 1) := by decide +kernel
theorem dX13_read_123 : decode cX13_read 123 = .ok (.getfield 39, 3) := by decide +kernel
theorem dX13_read_126 : decode cX13_read 126 = .ok (.getfield 133, 3) := by decide +kernel
theorem dX13_read_129 : decode cX13_read 129 = .ok (.aload_n 0, 1) := by decide +kernel
theorem dX13_read_130 : decode cX13_read 130 = .ok (.getfield 39, 3) := by decide +kernel
theorem dX13_read_133 : decode cX13_read 133 = .ok (.getfield 201, 3) := by decide +kernel
theorem dX13_read_136 : decode cX13_read 136 = .ok (.iload_n 2, 1) := by decide +kernel
theorem dX13_read_137 : decode cX13_read 137 = .ok (.iaload, 1) := by decide +kernel
theorem dX13_read_138 : decode cX13_read 138 = .ok (.aload_n 0, 1) := by decide +kernel
theorem dX13_read_139 : decode cX13_read 139 = .ok (.getfield 29, 3) := by decide +kernel
theorem dX13_read_142 : decode cX13_read 142 = .ok (.aload_n 0, 1) := by decide +kernel
theorem dX13_read_143 : decode cX13_read 143 = .ok (.getfield 39, 3) := by decide +kernel
theorem dX13_read_146 : decode cX13_read 146 = .ok (.getfield 133, 3) := by decide +kernel
theorem dX13_read_149 : decode cX13_read 149 = .ok (.aload_n 0, 1) := by decide +kernel
theorem dX13_read_150 : decode cX13_read 150 = .ok (.getfield 39, 3) := by decide +kernel
theorem dX13_read_153 : decode cX13_read 153 = .ok (.getfield 201, 3) := by decide +kernel
theorem dX13_read_156 : decode cX13_read 156 = .ok (.iload_n 2, 1) := by decide +kernel
theorem dX13_read_157 : decode cX13_read 157 = .ok (.iaload, 1) := by decide +kernel
theorem dX13_read_158 : decode cX13_read 158 = .ok (.iaload, 1) := by decide +kernel
theorem dX13_read_159 : decode cX13_read 159 = .ok (.iaload, 1) := by decide +kernel
theorem dX13_read_160 : decode cX13_read 160 = .ok (.iastore, 1) := by decide +kernel
theorem dX13_read_161 : decode cX13_read 161 = .ok (.iinc 2 1, 3) := by decide +kernel
theorem dX13_read_164 : decode cX13_read 164 = .ok (.goto (-53), 3) := by decide +kernel
theorem dX13_read_167 : decode cX13_read 167 = .ok (.iconst 0, 1) := by decide +kernel
theorem dX13_read_168 : decode cX13_read 168 = .ok (.ireturn, 1) := by decide +kernel
theorem dX13_feed_0 : decode cX13_feed 0 = .ok (.aload_n 0, 1) := by decide +kernel
theorem dX13_feed_1 : decode cX13_feed 1 = .ok (.iconst 0, 1) := by decide +kernel
theorem dX13_feed_2 : decode cX13_feed 2 = .ok (.putfield 57, 3) := by decide +kernel
theorem dX13_feed_5 : decode cX13_feed 5 = .ok (.aload_n 0, 1) := by decide +kernel
theorem dX13_feed_6 : decode cX13_feed 6 = .ok (.getfield 86, 3) := by decide +kernel
theorem dX13_feed_9 : decode cX13_feed 9 = .ok (.sipush 1980, 3) := by decide +kernel
theorem dX13_feed_12 : decode cX13_feed 12 = .ok (.if_icmp .le 9, 3) := by decide +kernel
theorem dX13_feed_15 : decode cX13_feed 15 = .ok (.aload_n 0, 1) := by decide +kernel
theorem dX13_feed_16 : decode cX13_feed 16 = .ok (.iconst 1, 1) := by decide +kernel
theorem dX13_feed_17 : decode cX13_feed 17 = .ok (.invokevirtual 291, 3) := by decide +kernel
theorem dX13_feed_20 : decode cX13_feed 20 = .ok (.ireturn, 1) := by decide +kernel
theorem dX13_feed_21 : decode cX13_feed 21 = .ok (.iconst 5, 1) := by decide +kernel
theorem dX13_feed_22 : decode cX13_feed 22 = .ok (.newarray .int, 2) := by decide +kernel
theorem dX13_feed_24 : decode cX13_feed 24 = .ok (.dup, 1) := by decide +kernel
theorem dX13_feed_25 : decode cX13_feed 25 = .ok (.iconst 0, 1) := by decide +kernel
theorem dX13_feed_26 : decode cX13_feed 26 = .ok (.iload_n 1, 1) := by decide +kernel
theorem dX13_feed_27 : decode cX13_feed 27 = .ok (.iastore, 1) := by decide +kernel
theorem dX13_feed_28 : decode cX13_feed 28 = .ok (.dup, 1) := by decide +kernel
theorem dX13_feed_29 : decode cX13_feed 29 = .ok (.iconst 1, 1) := by decide +kernel
theorem dX13_feed_30 : decode cX13_feed 30 = .ok (.iload_n 2, 1) := by decide +kernel
theorem dX13_feed_31 : decode cX13_feed 31 = .ok (.iastore, 1) := by decide +kernel
theorem dX13_feed_32 : decode cX13_feed 32 = .ok (.dup, 1) := by decide +kernel
theorem dX13_feed_33 : decode cX13_feed 33 = .ok (.iconst 2, 1) := by decide +kernel
theorem dX13_feed_34 : decode cX13_feed 34 = .ok (.iload_n 3, 1) := by decide +kernel
theorem dX13_feed_35 : decode cX13_feed 35 = .ok (.iastore, 1) := by decide +kernel
theorem dX13_feed_36 : decode cX13_feed 36 = .ok (.dup, 1) := by decide +kernel
theorem dX13_feed_37 : decode cX13_feed 37 = .ok (.iconst 3, 1) := by decide +kernel
theorem dX13_feed_38 : decode cX13_feed 38 = .ok (.iload 4, 2) := by decide +kernel
theorem dX13_feed_40 : decode cX13_feed 40 = .ok (.iastore, 1) := by decide +kernel
theorem dX13_feed_41 : decode cX13_feed 41 = .ok (.dup, 1) := by decide +kernel
theorem dX13_feed_42 : decode cX13_feed 42 = .ok (.iconst 4, 1) := by decide +kernel
theorem dX13_feed_43 : decode cX13_feed 43 = .ok (.iload 5, 2) := by decide +kernel
theorem dX13_feed_45 : decode cX13_feed 45 = .ok (.iastore, 1) := by decide +kernel
theorem dX13_feed_46 : decode cX13_feed 46 = .ok (.astore 6, 2) := by decide +kernel
theorem dX13_feed_48 : decode cX13_feed 48 = .ok (.iconst 0, 1) := by decide +kernel
theorem dX13_feed_49 : decode cX13_feed 49 = .ok (.istore 7, 2) := by decide +kernel
theorem dX13_feed_51 : decode cX13_feed 51 = .ok (.iload 7, 2) := by decide +kernel
theorem dX13_feed_53 : decode cX13_feed 53 = .ok (.bipush 20, 2) := by decide +kernel
theorem dX13_feed_55 : decode cX13_feed 55 = .ok (.if_icmp .ge 43, 3) := by decide +kernel
theorem dX13_feed_58 : decode cX13_feed 58 = .ok (.aload_n 0, 1) := by decide +kernel
theorem dX13_feed_59 : decode cX13_feed 59 = .ok (.getfield 9, 3) := by decide +kernel
theorem dX13_feed_62 : decode cX13_feed 62 = .ok (.aload_n 0, 1) := by decide +kernel
theorem dX13_feed_63 : decode cX13_feed 63 = .ok (.getfield 86, 3) := by decide +kernel
theorem dX13_feed_66 : decode cX13_feed 66 = .ok (.iload 7, 2) := by decide +kernel
theorem dX13_feed_68 : decode cX13_feed 68 = .ok (.iadd, 1) := by decide +kernel
theorem dX13_feed_69 : decode cX13_feed 69 = .ok (.aload 6, 2) := by decide +kernel
theorem dX13_feed_71 : decode cX13_feed 71 = .ok (.iload 7, 2) := by decide +kernel
theorem dX13_feed_73 : decode cX13_feed 73 = .ok (.iconst 4, 1) := by decide +kernel
theorem dX13_feed_74 : decode cX13_feed 74 = .ok (.idiv, 1) := by decide +kernel
theorem dX13_feed_75 : decode cX13_feed 75 = .ok (.iaload, 1) := by decide +kernel
theorem dX13_feed_76 : decode cX13_feed 76 = .ok (.bipush 24, 2) := by decide +kernel
theorem dX13_feed_78 : decode cX13_feed 78 = .ok (.bipush 8, 2) := by decide +kernel
theorem dX13_feed_80 : decode cX13_feed 80 = .ok (.iload 7, 2) := by decide +kernel
theorem dX13_feed_82 : decode cX13_feed 82 = .ok (.iconst 4, 1) := by decide +kernel
theorem dX13_feed_83 : decode cX13_feed 83 = .ok (.irem, 1) := by decide +kernel
theorem dX13_feed_84 : decode cX13_feed 84 = .ok (.imul, 1) := by decide +kernel
theorem dX13_feed_85 : decode cX13_feed 85 = .ok (.isub, 1) := by decide +kernel
theorem dX13_feed_86 : decode cX13_feed 86 = .ok (.ishr, 1) := by decide +kernel
theorem dX13_feed_87 : decode cX13_feed 87 = .ok (.sipush 255, 3) := by decide +kernel
theorem dX13_feed_90 : decode cX13_feed 90 = .ok (.iand, 1) := by decide +kernel
theorem dX13_feed_91 : decode cX13_feed 91 = .ok (.iastore, 1) := by decide +kernel
theorem dX13_feed_92 : decode cX13_feed 92 = .ok (.iinc 7 1, 3) := by decide +kernel
theorem dX13_feed_95 : decode cX13_feed 95 = .ok (.goto (-44), 3) := by decide +kernel
theorem dX13_feed_98 : decode cX13_feed 98 = .ok (.aload_n 0, 1) := by decide +kernel
theorem dX13_feed_99 : decode cX13_feed 99 = .ok (.dup, 1) := by decide +kernel
theorem dX13_feed_100 : decode cX13_feed 100 = .ok (.getfield 86, 3) := by decide +kernel
theorem dX13_feed_103 : decode cX13_feed 103 = .ok (.bipush 20, 2) := by decide +kernel
theorem dX13_feed_105 : decode cX13_feed 105 = .ok (.iadd, 1) := by decide +kernel
theorem dX13_feed_106 : decode cX13_feed 106 = .ok (.putfield 86, 3) := by decide +kernel
theorem dX13_feed_109 : decode cX13_feed 109 = .ok (.aload_n 0, 1) := by decide +kernel
theorem dX13_feed_110 : decode cX13_feed 110 = .ok (.getfield 86, 3) := by decide +kernel
theorem dX13_feed_113 : decode cX13_feed 113 = .ok (.ireturn, 1) := by decide +kernel
theorem dX13_trim_0 : decode cX13_trim 0 = .ok (.aload_n 0, 1) := by decide +kernel
theorem dX13_trim_1 : decode cX13_trim 1 = .ok (.iconst 0, 1) := by decide +kernel
theorem dX13_trim_2 : decode cX13_trim 2 = .ok (.putfield 57, 3) := by decide +kernel
theorem dX13_trim_5 : decode cX13_trim 5 = .ok (.iload_n 1, 1) := by decide +kernel
theorem dX13_trim_6 : decode cX13_trim 6 = .ok (.iconst 0, 1) := by decide +kernel
theorem dX13_trim_7 : decode cX13_trim 7 = .ok (.aload_n 0, 1) := by decide +kernel
theorem dX13_trim_8 : decode cX13_trim 8 = .ok (.getfield 86, 3) := by decide +kernel
theorem dX13_trim_11 : decode cX13_trim 11 = .ok (.invokestatic 63, 3) := by decide +kernel
theorem dX13_trim_14 : decode cX13_trim 14 = .ok (.ifCond .ne 9, 3) := by decide +kernel
theorem dX13_trim_17 : decode cX13_trim 17 = .ok (.aload_n 0, 1) := by decide +kernel
theorem dX13_trim_18 : decode cX13_trim 18 = .ok (.iconst 1, 1) := by decide +kernel
theorem dX13_trim_19 : decode cX13_trim 19 = .ok (.invokevirtual 291, 3) := by decide +kernel
theorem dX13_trim_22 : decode cX13_trim 22 = .ok (.ireturn, 1) := by decide +kernel
theorem dX13_trim_23 : decode cX13_trim 23 = .ok (.aload_n 0, 1) := by decide +kernel
theorem dX13_trim_24 : decode cX13_trim 24 = .ok (.iload_n 1, 1) := by decide +kernel
theorem dX13_trim_25 : decode cX13_trim 25 = .ok (.putfield 86, 3) := by decide +kernel
theorem dX13_trim_28 : decode cX13_trim 28 = .ok (.iload_n 1, 1) := by decide +kernel
theorem dX13_trim_29 : decode cX13_trim 29 = .ok (.ireturn, 1) := by decide +kernel
theorem dX13_teach_0 : decode cX13_teach 0 = .ok (.aload_n 0, 1) := by decide +kernel
theorem dX13_teach_1 : decode cX13_teach 1 = .ok (.iconst 0, 1) := by decide +kernel
theorem dX13_teach_2 : decode cX13_teach 2 = .ok (.putfield 57, 3) := by decide +kernel
theorem dX13_teach_5 : decode cX13_teach 5 = .ok (.aload_n 0, 1) := by decide +kernel
theorem dX13_teach_6 : decode cX13_teach 6 = .ok (.iconst (-1), 1) := by decide +kernel
theorem dX13_teach_7 : decode cX13_teach 7 = .ok (.putfield 13, 3) := by decide +kernel
theorem dX13_teach_10 : decode cX13_teach 10 = .ok (.aload_n 0, 1) := by decide +kernel
theorem dX13_teach_11 : decode cX13_teach 11 = .ok (.invokevirtual 294, 3) := by decide +kernel
theorem dX13_teach_14 : decode cX13_teach 14 = .ok (.istore_n 1, 1) := by decide +kernel
theorem dX13_teach_15 : decode cX13_teach 15 = .ok (.aload_n 0, 1) := by decide +kernel
theorem dX13_teach_16 : decode cX13_teach 16 = .ok (.iconst 0, 1) := by decide +kernel
theorem dX13_teach_17 : decode cX13_teach 17 = .ok (.putfield 86, 3) := by decide +kernel
theorem dX13_teach_20 : decode cX13_teach 20 = .ok (.iload_n 1, 1) := by decide +kernel
theorem dX13_teach_21 : decode cX13_teach 21 = .ok (.ifCond .le 5, 3) := by decide +kernel
theorem dX13_teach_24 : decode cX13_teach 24 = .ok (.iload_n 1, 1) := by decide +kernel
theorem dX13_teach_25 : decode cX13_teach 25 = .ok (.ireturn, 1) := by decide +kernel
theorem dX13_teach_26 : decode cX13_teach 26 = .ok (.aload_n 0, 1) := by decide +kernel
theorem dX13_teach_27 : decode cX13_teach 27 = .ok (.aload_n 0, 1) := by decide +kernel
theorem dX13_teach_28 : decode cX13_teach 28 = .ok (.getfield 39, 3) := by decide +kernel
theorem dX13_teach_31 : decode cX13_teach 31 = .ok (.putfield 35, 3) := by decide +kernel
theorem dX13_teach_34 : decode cX13_teach 34 = .ok (.aload_n 0, 1) := by decide +kernel
theorem dX13_teach_35 : decode cX13_teach 35 = .ok (.getfield 47, 3) := by decide +kernel
theorem dX13_teach_38 : decode cX13_teach 38 = .ok (.invokevirtual 54, 3) := by decide +kernel
theorem dX13_teach_41 : decode cX13_teach 41 = .ok (.iconst 0, 1) := by decide +kernel
theorem dX13_teach_42 : decode cX13_teach 42 = .ok (.ireturn, 1) := by decide +kernel
theorem dX13_errorAt_0 : decode cX13_errorAt 0 = .ok (.aload_n 0, 1) := by decide +kernel
theorem dX13_errorAt_1 : decode cX13_errorAt 1 = .ok (.iconst 0, 1) := by decide +kernel
theorem dX13_errorAt_2 : decode cX13_errorAt 2 = .ok (.putfield 57, 3) := by decide +kernel
theorem dX13_errorAt_5 : decode cX13_errorAt 5 = .ok (.aload_n 0, 1) := by decide +kernel
theorem dX13_errorAt_6 : decode cX13_errorAt 6 = .ok (.getfield 13, 3) := by decide +kernel
theorem dX13_errorAt_9 : decode cX13_errorAt 9 = .ok (.ireturn, 1) := by decide +kernel
theorem dX13_counted_0 : decode cX13_counted 0 = .ok (.iconst 0, 1) := by decide +kernel
theorem dX13_counted_1 : decode cX13_counted 1 = .ok (.istore_n 2, 1) := by decide +kernel
theorem dX13_counted_2 : decode cX13_counted 2 = .ok (.iconst 0, 1) := by decide +kernel
theorem dX13_counted_3 : decode cX13_counted 3 = .ok (.istore_n 3, 1) := by decide +kernel
theorem dX13_counted_4 : decode cX13_counted 4 = .ok (.iconst 0, 1) := by decide +kernel
theorem dX13_counted_5 : decode cX13_counted 5 = .ok (.istore 4, 2) := by decide +kernel
theorem dX13_counted_7 : decode cX13_counted 7 = .ok (.iload 4, 2) := by decide +kernel
theorem dX13_counted_9 : decode cX13_counted 9 = .ok (.aload_n 0, 1) := by decide +kernel
theorem dX13_counted_10 : decode cX13_counted 10 = .ok (.getfield 35, 3) := by decide +kernel
theorem dX13_counted_13 : decode cX13_counted 13 = .ok (.getfield 67, 3) := by decide +kernel
theorem dX13_counted_16 : decode cX13_counted 16 = .ok (.if_icmp .ge 44, 3) := by decide +kernel
theorem dX13_counted_19 : decode cX13_counted 19 = .ok (.iload_n 2, 1) := by decide +kernel
theorem dX13_counted_20 : decode cX13_counted 20 = .ok (.aload_n 0, 1) := by decide +kernel
theorem dX13_counted_21 : decode cX13_counted 21 = .ok (.getfield 47, 3) := by decide +kernel
theorem dX13_counted_24 : decode cX13_counted 24 = .ok (.getfield 297, 3) := by decide +kernel
theorem dX13_counted_27 : decode cX13_counted 27 = .ok (.iload 4, 2) := by decide +kernel
theorem dX13_counted_29 : decode cX13_counted 29 = .ok (.iaload, 1) := by decide +kernel
theorem dX13_counted_30 : decode cX13_counted 30 = .ok (.iconst (-1), 1) := by decide +kernel
theorem dX13_counted_31 : decode cX13_counted 31 = .ok (.if_icmp .ne 7, 3) := by decide +kernel
theorem dX13_counted_34 : decode cX13_counted 34 = .ok (.iconst 0, 1) := by decide +kernel
theorem dX13_counted_35 : decode cX13_counted 35 = .ok (.goto 4, 3) := by decide +kernel
theorem dX13_counted_38 : decode cX13_counted 38 = .ok (.iconst 1, 1) := by decide +kernel
theorem dX13_counted_39 : decode cX13_counted 39 = .ok (.iadd, 1) := by decide +kernel
theorem dX13_counted_40 : decode cX13_counted 40 = .ok (.istore_n 2, 1) := by decide +kernel
theorem dX13_counted_41 : decode cX13_counted 41 = .ok (.iload_n 3, 1) := by decide +kernel
theorem dX13_counted_42 : decode cX13_counted 42 = .ok (.aload_n 0, 1) := by decide +kernel
theorem dX13_counted_43 : decode cX13_counted 43 = .ok (.getfield 47, 3) := by decide +kernel
theorem dX13_counted_46 : decode cX13_counted 46 = .ok (.getfield 300, 3) := by decide +kernel
theorem dX13_counted_49 : decode cX13_counted 49 = .ok (.iload 4, 2) := by decide +kernel
theorem dX13_counted_51 : decode cX13_counted 51 = .ok (.iaload, 1) := by decide +kernel
theorem dX13_counted_52 : decode cX13_counted 52 = .ok (.iadd, 1) := by decide +kernel
theorem dX13_counted_53 : decode cX13_counted 53 = .ok (.istore_n 3, 1) := by decide +kernel
theorem dX13_counted_54 : decode cX13_counted 54 = .ok (.iinc 4 1, 3) := by decide +kernel
theorem dX13_counted_57 : decode cX13_counted 57 = .ok (.goto (-50), 3) := by decide +kernel
theorem dX13_counted_60 : decode cX13_counted 60 = .ok (.bipush 13, 2) := by decide +kernel
theorem dX13_counted_62 : decode cX13_counted 62 = .ok (.newarray .int, 2) := by decide +kernel
theorem dX13_counted_64 : decode cX13_counted 64 = .ok (.dup, 1) := by decide +kernel
theorem dX13_counted_65 : decode cX13_counted 65 = .ok (.iconst 0, 1) := by decide +kernel
theorem dX13_counted_66 : decode cX13_counted 66 = .ok (.aload_n 0, 1) := by decide +kernel
theorem dX13_counted_67 : decode cX13_counted 67 = .ok (.getfield 47, 3) := by decide +kernel
theorem dX13_counted_70 : decode cX13_counted 70 = .ok (.getfield 301, 3) := by decide +kernel
theorem dX13_counted_73 : decode cX13_counted 73 = .ok (.iastore, 1) := by decide +kernel
theorem dX13_counted_74 : decode cX13_counted 74 = .ok (.dup, 1) := by decide +kernel
theorem dX13_counted_75 : decode cX13_counted 75 = .ok (.iconst 1, 1) := by decide +kernel
theorem dX13_counted_76 : decode cX13_counted 76 = .ok (.aload_n 0, 1) := by decide +kernel
theorem dX13_counted_77 : decode cX13_counted 77 = .ok (.getfield 47, 3) := by decide +kernel
theorem dX13_counted_80 : decode cX13_counted 80 = .ok (.getfield 304, 3) := by decide +kernel
theorem dX13_counted_83 : decode cX13_counted 83 = .ok (.iastore, 1) := by decide +kernel
theorem dX13_counted_84 : decode cX13_counted 84 = .ok (.dup, 1) := by decide +kernel
theorem dX13_counted_85 : decode cX13_counted 85 = .ok (.iconst 2, 1) := by decide +kernel
theorem dX13_counted_86 : decode cX13_counted 86 = .ok (.aload_n 0, 1) := by decide +kernel
theorem dX13_counted_87 : decode cX13_counted 87 = .ok (.getfield 35, 3) := by decide +kernel
theorem dX13_counted_90 : decode cX13_counted 90 = .ok (.getfield 60, 3) := by decide +kernel
theorem dX13_counted_93 : decode cX13_counted 93 = .ok (.iastore, 1) := by decide +kernel
theorem dX13_counted_94 : decode cX13_counted 94 = .ok (.dup, 1) := by decide +kernel
theorem dX13_counted_95 : decode cX13_counted 95 = .ok (.iconst 3, 1) := by decide +kernel
theorem dX13_counted_96 : decode cX13_counted 96 = .ok (.aload_n 0, 1) := by decide +kernel
theorem dX13_counted_97 : decode cX13_counted 97 = .ok (.getfield 35, 3) := by decide +kernel
theorem dX13_counted_100 : decode cX13_counted 100 = .ok (.getfield 67, 3) := by decide +kernel
theorem dX13_counted_103 : decode cX13_counted 103 = .ok (.iastore, 1) := by decide +kernel
theorem dX13_counted_104 : decode cX13_counted 104 = .ok (.dup, 1) := by decide +kernel
theorem dX13_counted_105 : decode cX13_counted 105 = .ok (.iconst 4, 1) := by decide +kernel
theorem dX13_counted_106 : decode cX13_counted 106 = .ok (.aload_n 0, 1) := by decide +kernel
theorem dX13_counted_107 : decode cX13_counted 107 = .ok (.getfield 35, 3) := by decide +kernel
theorem dX13_counted_110 : decode cX13_counted 110 = .ok (.getfield 70, 3) := by decide +kernel
theorem dX13_counted_113 : decode cX13_counted 113 = .ok (.iastore, 1) := by decide +kernel
theorem dX13_counted_114 : decode cX13_counted 114 = .ok (.dup, 1) := by decide +kernel
theorem dX13_counted_115 : decode cX13_counted 115 = .ok (.iconst 5, 1) := by decide +kernel
theorem dX13_counted_116 : decode cX13_counted 116 = .ok (.aload_n 0, 1) := by decide +kernel
theorem dX13_counted_117 : decode cX13_counted 117 = .ok (.getfield 47, 3) := by decide +kernel
theorem dX13_counted_120 : decode cX13_counted 120 = .ok (.iconst 0, 1) := by decide +kernel
theorem dX13_counted_121 : decode cX13_counted 121 = .ok (.iconst (-1), 1) := by decide +kernel
theorem dX13_counted_122 : decode cX13_counted 122 = .ok (.invokevirtual 307, 3) := by decide +kernel
theorem dX13_counted_125 : decode cX13_counted 125 = .ok (.iastore, 1) := by decide +kernel
theorem dX13_counted_126 : decode cX13_counted 126 = .ok (.dup, 1) := by decide +kernel
theorem dX13_counted_127 : decode cX13_counted 127 = .ok (.bipush 6, 2) := by decide +kernel
theorem dX13_counted_129 : decode cX13_counted 129 = .ok (.aload_n 0, 1) := by decide +kernel
theorem dX13_counted_130 : decode cX13_counted 130 = .ok (.getfield 47, 3) := by decide +kernel
theorem dX13_counted_133 : decode cX13_counted 133 = .ok (.iconst 3, 1) := by decide +kernel
theorem dX13_counted_134 : decode cX13_counted 134 = .ok (.iconst (-1), 1) := by decide +kernel
theorem dX13_counted_135 : decode cX13_counted 135 = .ok (.invokevirtual 307, 3) := by decide +kernel
theorem dX13_counted_138 : decode cX13_counted 138 = .ok (.iastore, 1) := by decide +kernel
theorem dX13_counted_139 : decode cX13_counted 139 = .ok (.dup, 1) := by decide +kernel
theorem dX13_counted_140 : decode cX13_counted 140 = .ok (.bipush 7, 2) := by decide +kernel
theorem dX13_counted_142 : decode cX13_counted 142 = .ok (.aload_n 0, 1) := by decide +kernel
theorem dX13_counted_143 : decode cX13_counted 143 = .ok (.getfield 47, 3) := by decide +kernel
theorem dX13_counted_146 : decode cX13_counted 146 = .ok (.iconst 3, 1) := by decide +kernel
theorem dX13_counted_147 : decode cX13_counted 147 = .ok (.iconst (-1), 1) := by decide +kernel
theorem dX13_counted_148 : decode cX13_counted 148 = .ok (.invokevirtual 310, 3) := by decide +kernel
theorem dX13_counted_151 : decode cX13_counted 151 = .ok (.iastore, 1) := by decide +kernel
theorem dX13_counted_152 : decode cX13_counted 152 = .ok (.dup, 1) := by decide +kernel
theorem dX13_counted_153 : decode cX13_counted 153 = .ok (.bipush 8, 2) := by decide +kernel
theorem dX13_counted_155 : decode cX13_counted 155 = .ok (.aload_n 0, 1) := by decide +kernel
theorem dX13_counted_156 : decode cX13_counted 156 = .ok (.getfield 47, 3) := by decide +kernel
theorem dX13_counted_159 : decode cX13_counted 159 = .ok (.iconst 2, 1) := by decide +kernel
theorem dX13_counted_160 : decode cX13_counted 160 = .ok (.iconst (-1), 1) := by decide +kernel
theorem dX13_counted_161 : decode cX13_counted 161 = .ok (.invokevirtual 310, 3) := by decide +kernel
theorem dX13_counted_164 : decode cX13_counted 164 = .ok (.iastore, 1) := by decide +kernel
theorem dX13_counted_165 : decode cX13_counted 165 = .ok (.dup, 1) := by decide +kernel
theorem dX13_counted_166 : decode cX13_counted 166 = .ok (.bipush 9, 2) := by decide +kernel
theorem dX13_counted_168 : decode cX13_counted 168 = .ok (.iload_n 2, 1) := by decide +kernel
theorem dX13_counted_169 : decode cX13_counted 169 = .ok (.iastore, 1) := by decide +kernel
theorem dX13_counted_170 : decode cX13_counted 170 = .ok (.dup, 1) := by decide +kernel
theorem dX13_counted_171 : decode cX13_counted 171 = .ok (.bipush 10, 2) := by decide +kernel
theorem dX13_counted_173 : decode cX13_counted 173 = .ok (.iload_n 3, 1) := by decide +kernel
theorem dX13_counted_174 : decode cX13_counted 174 = .ok (.iastore, 1) := by decide +kernel
theorem dX13_counted_175 : decode cX13_counted 175 = .ok (.dup, 1) := by decide +kernel
theorem dX13_counted_176 : decode cX13_counted 176 = .ok (.bipush 11, 2) := by decide +kernel
theorem dX13_counted_178 : decode cX13_counted 178 = .ok (.aload_n 0, 1) := by decide +kernel
theorem dX13_counted_179 : decode cX13_counted 179 = .ok (.getfield 47, 3) := by decide +kernel
theorem dX13_counted_182 : decode cX13_counted 182 = .ok (.getfield 312, 3) := by decide +kernel
theorem dX13_counted_185 : decode cX13_counted 185 = .ok (.iastore, 1) := by decide +kernel
theorem dX13_counted_186 : decode cX13_counted 186 = .ok (.dup, 1) := by decide +kernel
theorem dX13_counted_187 : decode cX13_counted 187 = .ok (.bipush 12, 2) := by decide +kernel
theorem dX13_counted_189 : decode cX13_counted 189 = .ok (.aload_n 0, 1) := by decide +kernel
theorem dX13_counted_190 : decode cX13_counted 190 = .ok (.getfield 86, 3) := by decide +kernel
theorem dX13_counted_193 : decode cX13_counted 193 = .ok (.iastore, 1) := by decide +kernel
theorem dX13_counted_194 : decode cX13_counted 194 = .ok (.astore 4, 2) := by decide +kernel
theorem dX13_counted_196 : decode cX13_counted 196 = .ok (.aload 4, 2) := by decide +kernel
theorem dX13_counted_198 : decode cX13_counted 198 = .ok (.iload_n 1, 1) := by decide +kernel
theorem dX13_counted_199 : decode cX13_counted 199 = .ok (.iaload, 1) := by decide +kernel
theorem dX13_counted_200 : decode cX13_counted 200 = .ok (.ireturn, 1) := by decide +kernel
theorem dX13_count_0 : decode cX13_count 0 = .ok (.aload_n 0, 1) := by decide +kernel
theorem dX13_count_1 : decode cX13_count 1 = .ok (.iconst 0, 1) := by decide +kernel
theorem dX13_count_2 : decode cX13_count 2 = .ok (.putfield 57, 3) := by decide +kernel
theorem dX13_count_5 : decode cX13_count 5 = .ok (.iload_n 1, 1) := by decide +kernel
theorem dX13_count_6 : decode cX13_count 6 = .ok (.iconst 0, 1) := by decide +kernel
theorem dX13_count_7 : decode cX13_count 7 = .ok (.bipush 12, 2) := by decide +kernel
theorem dX13_count_9 : decode cX13_count 9 = .ok (.invokestatic 63, 3) := by decide +kernel
theorem dX13_count_12 : decode cX13_count 12 = .ok (.ifCond .eq 11, 3) := by decide +kernel
theorem dX13_count_15 : decode cX13_count 15 = .ok (.aload_n 0, 1) := by decide +kernel
theorem dX13_count_16 : decode cX13_count 16 = .ok (.iload_n 1, 1) := by decide +kernel
theorem dX13_count_17 : decode cX13_count 17 = .ok (.invokevirtual 315, 3) := by decide +kernel
theorem dX13_count_20 : decode cX13_count 20 = .ok (.goto 8, 3) := by decide +kernel
theorem dX13_count_23 : decode cX13_count 23 = .ok (.aload_n 0, 1) := by decide +kernel
theorem dX13_count_24 : decode cX13_count 24 = .ok (.iconst 1, 1) := by decide +kernel
theorem dX13_count_25 : decode cX13_count 25 = .ok (.invokevirtual 291, 3) := by decide +kernel
theorem dX13_count_28 : decode cX13_count 28 = .ok (.ireturn, 1) := by decide +kernel
theorem dX13_stretchTold_0 : decode cX13_stretchTold 0 = .ok (.iconst 0, 1) := by decide +kernel
theorem dX13_stretchTold_1 : decode cX13_stretchTold 1 = .ok (.istore_n 3, 1) := by decide +kernel
theorem dX13_stretchTold_2 : decode cX13_stretchTold 2 = .ok (.iconst 0, 1) := by decide +kernel
theorem dX13_stretchTold_3 : decode cX13_stretchTold 3 = .ok (.istore 4, 2) := by decide +kernel
theorem dX13_stretchTold_5 : decode cX13_stretchTold 5 = .ok (.iload 4, 2) := by decide +kernel
theorem dX13_stretchTold_7 : decode cX13_stretchTold 7 = .ok (.aload_n 0, 1) := by decide +kernel
theorem dX13_stretchTold_8 : decode cX13_stretchTold 8 = .ok (.getfield 35, 3) := by decide +kernel
theorem dX13_stretchTold_11 : decode cX13_stretchTold 11 = .ok (.getfield 67, 3) := by decide +kernel
theorem dX13_stretchTold_14 : decode cX13_stretchTold 14 = .ok (.if_icmp .ge 31, 3) := by decide +kernel
theorem dX13_stretchTold_17 : decode cX13_stretchTold 17 = .ok (.iload_n 3, 1) := by decide +kernel
theorem dX13_stretchTold_18 : decode cX13_stretchTold 18 = .ok (.aload_n 0, 1) := by decide +kernel
theorem dX13_stretchTold_19 : decode cX13_stretchTold 19 = .ok (.getfield 47, 3) := by decide +kernel
theorem dX13_stretchTold_22 : decode cX13_stretchTold 22 = .ok (.getfield 297, 3) := by decide +kernel
theorem dX13_stretchTold_25 : decode cX13_stretchTold 25 = .ok (.iload 4, 2) := by decide +kernel
theorem dX13_stretchTold_27 : decode cX13_stretchTold 27 = .ok (.iaload, 1) := by decide +kernel
theorem dX13_stretchTold_28 : decode cX13_stretchTold 28 = .ok (.iload_n 1, 1) := by decide +kernel
theorem dX13_stretchTold_29 : decode cX13_stretchTold 29 = .ok (.if_icmp .ne 7, 3) := by decide +kernel
theorem dX13_stretchTold_32 : decode cX13_stretchTold 32 = .ok (.iconst 1, 1) := by decide +kernel
theorem dX13_stretchTold_33 : decode cX13_stretchTold 33 = .ok (.goto 4, 3) := by decide +kernel
theorem dX13_stretchTold_36 : decode cX13_stretchTold 36 = .ok (.iconst 0, 1) := by decide +kernel
theorem dX13_stretchTold_37 : decode cX13_stretchTold 37 = .ok (.iadd, 1) := by decide +kernel
theorem dX13_stretchTold_38 : decode cX13_stretchTold 38 = .ok (.istore_n 3, 1) := by decide +kernel
theorem dX13_stretchTold_39 : decode cX13_stretchTold 39 = .ok (.iinc 4 1, 3) := by decide +kernel
theorem dX13_stretchTold_42 : decode cX13_stretchTold 42 = .ok (.goto (-37), 3) := by decide +kernel
theorem dX13_stretchTold_45 : decode cX13_stretchTold 45 = .ok (.iconst 5, 1) := by decide +kernel
theorem dX13_stretchTold_46 : decode cX13_stretchTold 46 = .ok (.newarray .int, 2) := by decide +kernel
theorem dX13_stretchTold_48 : decode cX13_stretchTold 48 = .ok (.dup, 1) := by decide +kernel
theorem dX13_stretchTold_49 : decode cX13_stretchTold 49 = .ok (.iconst 0, 1) := by decide +kernel
theorem dX13_stretchTold_50 : decode cX13_stretchTold 50 = .ok (.aload_n 0, 1) := by decide +kernel
theorem dX13_stretchTold_51 : decode cX13_stretchTold 51 = .ok (.getfield 35, 3) := by decide +kernel
theorem dX13_stretchTold_54 : decode cX13_stretchTold 54 = .ok (.getfield 256, 3) := by decide +kernel
theorem dX13_stretchTold_57 : decode cX13_stretchTold 57 = .ok (.iload_n 1, 1) := by decide +kernel
theorem dX13_stretchTold_58 : decode cX13_stretchTold 58 = .ok (.iaload, 1) := by decide +kernel
theorem dX13_stretchTold_59 : decode cX13_stretchTold 59 = .ok (.iastore, 1) := by decide +kernel
theorem dX13_stretchTold_60 : decode cX13_stretchTold 60 = .ok (.dup, 1) := by decide +kernel
theorem dX13_stretchTold_61 : decode cX13_stretchTold 61 = .ok (.iconst 1, 1) := by decide +kernel
theorem dX13_stretchTold_62 : decode cX13_stretchTold 62 = .ok (.aload_n 0, 1) := by decide +kernel
theorem dX13_stretchTold_63 : decode cX13_stretchTold 63 = .ok (.getfield 35, 3) := by decide +kernel
theorem dX13_stretchTold_66 : decode cX13_stretchTold 66 = .ok (.getfield 261, 3) := by decide +kernel
theorem dX13_stretchTold_69 : decode cX13_stretchTold 69 = .ok (.iload_n 1, 1) := by decide +kernel
theorem dX13_stretchTold_70 : decode cX13_stretchTold 70 = .ok (.iaload, 1) := by decide +kernel
theorem dX13_stretchTold_71 : decode cX13_stretchTold 71 = .ok (.iastore, 1) := by decide +kernel
theorem dX13_stretchTold_72 : decode cX13_stretchTold 72 = .ok (.dup, 1) := by decide +kernel
theorem dX13_stretchTold_73 : decode cX13_stretchTold 73 = .ok (.iconst 2, 1) := by decide +kernel
theorem dX13_stretchTold_74 : decode cX13_stretchTold 74 = .ok (.aload_n 0, 1) := by decide +kernel
theorem dX13_stretchTold_75 : decode cX13_stretchTold 75 = .ok (.getfield 47, 3) := by decide +kernel
theorem dX13_stretchTold_78 : decode cX13_stretchTold 78 = .ok (.getfield 318, 3) := by decide +kernel
theorem dX13_stretchTold_81 : decode cX13_stretchTold 81 = .ok (.iload_n 1, 1) := by decide +kernel
theorem dX13_stretchTold_82 : decode cX13_stretchTold 82 = .ok (.iaload, 1) := by decide +kernel
theorem dX13_stretchTold_83 : decode cX13_stretchTold 83 = .ok (.iastore, 1) := by decide +kernel
theorem dX13_stretchTold_84 : decode cX13_stretchTold 84 = .ok (.dup, 1) := by decide +kernel
theorem dX13_stretchTold_85 : decode cX13_stretchTold 85 = .ok (.iconst 3, 1) := by decide +kernel
theorem dX13_stretchTold_86 : decode cX13_stretchTold 86 = .ok (.iload_n 3, 1) := by decide +kernel
theorem dX13_stretchTold_87 : decode cX13_stretchTold 87 = .ok (.iastore, 1) := by decide +kernel
theorem dX13_stretchTold_88 : decode cX13_stretchTold 88 = .ok (.dup, 1) := by decide +kernel
theorem dX13_stretchTold_89 : decode cX13_stretchTold 89 = .ok (.iconst 4, 1) := by decide +kernel
theorem dX13_stretchTold_90 : decode cX13_stretchTold 90 = .ok (.aload_n 0, 1) := by decide +kernel
theorem dX13_stretchTold_91 : decode cX13_stretchTold 91 = .ok (.getfield 47, 3) := by decide +kernel
theorem dX13_stretchTold_94 : decode cX13_stretchTold 94 = .ok (.iconst 2, 1) := by decide +kernel
theorem dX13_stretchTold_95 : decode cX13_stretchTold 95 = .ok (.iload_n 1, 1) := by decide +kernel
theorem dX13_stretchTold_96 : decode cX13_stretchTold 96 = .ok (.invokevirtual 310, 3) := by decide +kernel
theorem dX13_stretchTold_99 : decode cX13_stretchTold 99 = .ok (.iastore, 1) := by decide +kernel
theorem dX13_stretchTold_100 : decode cX13_stretchTold 100 = .ok (.astore 4, 2) := by decide +kernel
theorem dX13_stretchTold_102 : decode cX13_stretchTold 102 = .ok (.aload 4, 2) := by decide +kernel
theorem dX13_stretchTold_104 : decode cX13_stretchTold 104 = .ok (.iload_n 2, 1) := by decide +kernel
theorem dX13_stretchTold_105 : decode cX13_stretchTold 105 = .ok (.iaload, 1) := by decide +kernel
theorem dX13_stretchTold_106 : decode cX13_stretchTold 106 = .ok (.ireturn, 1) := by decide +kernel
theorem dX13_stretch_0 : decode cX13_stretch 0 = .ok (.aload_n 0, 1) := by decide +kernel
theorem dX13_stretch_1 : decode cX13_stretch 1 = .ok (.iconst 0, 1) := by decide +kernel
theorem dX13_stretch_2 : decode cX13_stretch 2 = .ok (.putfield 57, 3) := by decide +kernel
theorem dX13_stretch_5 : decode cX13_stretch 5 = .ok (.aload_n 0, 1) := by decide +kernel
theorem dX13_stretch_6 : decode cX13_stretch 6 = .ok (.iload_n 1, 1) := by decide +kernel
theorem dX13_stretch_7 : decode cX13_stretch 7 = .ok (.invokevirtual 319, 3) := by decide +kernel
theorem dX13_stretch_10 : decode cX13_stretch 10 = .ok (.ifCond .eq 21, 3) := by decide +kernel
theorem dX13_stretch_13 : decode cX13_stretch 13 = .ok (.iload_n 2, 1) := by decide +kernel
theorem dX13_stretch_14 : decode cX13_stretch 14 = .ok (.iconst 0, 1) := by decide +kernel
theorem dX13_stretch_15 : decode cX13_stretch 15 = .ok (.iconst 4, 1) := by decide +kernel
theorem dX13_stretch_16 : decode cX13_stretch 16 = .ok (.invokestatic 63, 3) := by decide +kernel
theorem dX13_stretch_19 : decode cX13_stretch 19 = .ok (.ifCond .eq 12, 3) := by decide +kernel
theorem dX13_stretch_22 : decode cX13_stretch 22 = .ok (.aload_n 0, 1) := by decide +kernel
theorem dX13_stretch_23 : decode cX13_stretch 23 = .ok (.iload_n 1, 1) := by decide +kernel
theorem dX13_stretch_24 : decode cX13_stretch 24 = .ok (.iload_n 2, 1) := by decide +kernel
theorem dX13_stretch_25 : decode cX13_stretch 25 = .ok (.invokevirtual 322, 3) := by decide +kernel
theorem dX13_stretch_28 : decode cX13_stretch 28 = .ok (.goto 8, 3) := by decide +kernel
theorem dX13_stretch_31 : decode cX13_stretch 31 = .ok (.aload_n 0, 1) := by decide +kernel
theorem dX13_stretch_32 : decode cX13_stretch 32 = .ok (.iconst 1, 1) := by decide +kernel
theorem dX13_stretch_33 : decode cX13_stretch 33 = .ok (.invokevirtual 291, 3) := by decide +kernel
theorem dX13_stretch_36 : decode cX13_stretch 36 = .ok (.ireturn, 1) := by decide +kernel
theorem dX13_horseTold_0 : decode cX13_horseTold 0 = .ok (.bipush 10, 2) := by decide +kernel
theorem dX13_horseTold_2 : decode cX13_horseTold 2 = .ok (.newarray .int, 2) := by decide +kernel
theorem dX13_horseTold_4 : decode cX13_horseTold 4 = .ok (.dup, 1) := by decide +kernel
theorem dX13_horseTold_5 : decode cX13_horseTold 5 = .ok (.iconst 0, 1) := by decide +kernel
theorem dX13_horseTold_6 : decode cX13_horseTold 6 = .ok (.aload_n 0, 1) := by decide +kernel
theorem dX13_horseTold_7 : decode cX13_horseTold 7 = .ok (.getfield 35, 3) := by decide +kernel
theorem dX13_horseTold_10 : decode cX13_horseTold 10 = .ok (.getfield 267, 3) := by decide +kernel
theorem dX13_horseTold_13 : decode cX13_horseTold 13 = .ok (.iload_n 1, 1) := by decide +kernel
theorem dX13_horseTold_14 : decode cX13_horseTold 14 = .ok (.iaload, 1) := by decide +kernel
theorem dX13_horseTold_15 : decode cX13_horseTold 15 = .ok (.iastore, 1) := by decide +kernel
theorem dX13_horseTold_16 : decode cX13_horseTold 16 = .ok (.dup, 1) := by decide +kernel
theorem dX13_horseTold_17 : decode cX13_horseTold 17 = .ok (.iconst 1, 1) := by decide +kernel
theorem dX13_horseTold_18 : decode cX13_horseTold 18 = .ok (.aload_n 0, 1) := by decide +kernel
theorem dX13_horseTold_19 : decode cX13_horseTold 19 = .ok (.getfield 47, 3) := by decide +kernel
theorem dX13_horseTold_22 : decode cX13_horseTold 22 = .ok (.getfield 300, 3) := by decide +kernel
theorem dX13_horseTold_25 : decode cX13_horseTold 25 = .ok (.iload_n 1, 1) := by decide +kernel
theorem dX13_horseTold_26 : decode cX13_horseTold 26 = .ok (.iaload, 1) := by decide +kernel
theorem dX13_horseTold_27 : decode cX13_horseTold 27 = .ok (.iastore, 1) := by decide +kernel
theorem dX13_horseTold_28 : decode cX13_horseTold 28 = .ok (.dup, 1) := by decide +kernel
theorem dX13_horseTold_29 : decode cX13_horseTold 29 = .ok (.iconst 2, 1) := by decide +kernel
theorem dX13_horseTold_30 : decode cX13_horseTold 30 = .ok (.aload_n 0, 1) := by decide +kernel
theorem dX13_horseTold_31 : decode cX13_horseTold 31 = .ok (.getfield 47, 3) := by decide +kernel
theorem dX13_horseTold_34 : decode cX13_horseTold 34 = .ok (.getfield 325, 3) := by decide +kernel
theorem dX13_horseTold_37 : decode cX13_horseTold 37 = .ok (.iload_n 1, 1) := by decide +kernel
theorem dX13_horseTold_38 : decode cX13_horseTold 38 = .ok (.iaload, 1) := by decide +kernel
theorem dX13_horseTold_39 : decode cX13_horseTold 39 = .ok (.iastore, 1) := by decide +kernel
theorem dX13_horseTold_40 : decode cX13_horseTold 40 = .ok (.dup, 1) := by decide +kernel
theorem dX13_horseTold_41 : decode cX13_horseTold 41 = .ok (.iconst 3, 1) := by decide +kernel
theorem dX13_horseTold_42 : decode cX13_horseTold 42 = .ok (.aload_n 0, 1) := by decide +kernel
theorem dX13_horseTold_43 : decode cX13_horseTold 43 = .ok (.getfield 35, 3) := by decide +kernel
theorem dX13_horseTold_46 : decode cX13_horseTold 46 = .ok (.getfield 276, 3) := by decide +kernel
theorem dX13_horseTold_49 : decode cX13_horseTold 49 = .ok (.iload_n 1, 1) := by decide +kernel
theorem dX13_horseTold_50 : decode cX13_horseTold 50 = .ok (.iaload, 1) := by decide +kernel
theorem dX13_horseTold_51 : decode cX13_horseTold 51 = .ok (.iastore, 1) := by decide +kernel
theorem dX13_horseTold_52 : decode cX13_horseTold 52 = .ok (.dup, 1) := by decide +kernel
theorem dX13_horseTold_53 : decode cX13_horseTold 53 = .ok (.iconst 4, 1) := by decide +kernel
theorem dX13_horseTold_54 : decode cX13_horseTold 54 = .ok (.aload_n 0, 1) := by decide +kernel
theorem dX13_horseTold_55 : decode cX13_horseTold 55 = .ok (.getfield 47, 3) := by decide +kernel
theorem dX13_horseTold_58 : decode cX13_horseTold 58 = .ok (.getfield 297, 3) := by decide +kernel
theorem dX13_horseTold_61 : decode cX13_horseTold 61 = .ok (.iload_n 1, 1) := by decide +kernel
theorem dX13_horseTold_62 : decode cX13_horseTold 62 = .ok (.iaload, 1) := by decide +kernel
theorem dX13_horseTold_63 : decode cX13_horseTold 63 = .ok (.iastore, 1) := by decide +kernel
theorem dX13_horseTold_64 : decode cX13_horseTold 64 = .ok (.dup, 1) := by decide +kernel
theorem dX13_horseTold_65 : decode cX13_horseTold 65 = .ok (.iconst 5, 1) := by decide +kernel
theorem dX13_horseTold_66 : decode cX13_horseTold 66 = .ok (.aload_n 0, 1) := by decide +kernel
theorem dX13_horseTold_67 : decode cX13_horseTold 67 = .ok (.getfield 47, 3) := by decide +kernel
theorem dX13_horseTold_70 : decode cX13_horseTold 70 = .ok (.getfield 326, 3) := by decide +kernel
theorem dX13_horseTold_73 : decode cX13_horseTold 73 = .ok (.iload_n 1, 1) := by decide +kernel
theorem dX13_horseTold_74 : decode cX13_horseTold 74 = .ok (.iaload, 1) := by decide +kernel
theorem dX13_horseTold_75 : decode cX13_horseTold 75 = .ok (.iastore, 1) := by decide +kernel
theorem dX13_horseTold_76 : decode cX13_horseTold 76 = .ok (.dup, 1) := by decide +kernel
theorem dX13_horseTold_77 : decode cX13_horseTold 77 = .ok (.bipush 6, 2) := by decide +kernel
theorem dX13_horseTold_79 : decode cX13_horseTold 79 = .ok (.aload_n 0, 1) := by decide +kernel
theorem dX13_horseTold_80 : decode cX13_horseTold 80 = .ok (.getfield 47, 3) := by decide +kernel
theorem dX13_horseTold_83 : decode cX13_horseTold 83 = .ok (.getfield 329, 3) := by decide +kernel
theorem dX13_horseTold_86 : decode cX13_horseTold 86 = .ok (.iload_n 1, 1) := by decide +kernel
theorem dX13_horseTold_87 : decode cX13_horseTold 87 = .ok (.iaload, 1) := by decide +kernel
theorem dX13_horseTold_88 : decode cX13_horseTold 88 = .ok (.iastore, 1) := by decide +kernel
theorem dX13_horseTold_89 : decode cX13_horseTold 89 = .ok (.dup, 1) := by decide +kernel
theorem dX13_horseTold_90 : decode cX13_horseTold 90 = .ok (.bipush 7, 2) := by decide +kernel
theorem dX13_horseTold_92 : decode cX13_horseTold 92 = .ok (.aload_n 0, 1) := by decide +kernel
theorem dX13_horseTold_93 : decode cX13_horseTold 93 = .ok (.getfield 47, 3) := by decide +kernel
theorem dX13_horseTold_96 : decode cX13_horseTold 96 = .ok (.iload_n 1, 1) := by decide +kernel
theorem dX13_horseTold_97 : decode cX13_horseTold 97 = .ok (.invokevirtual 332, 3) := by decide +kernel
theorem dX13_horseTold_100 : decode cX13_horseTold 100 = .ok (.iastore, 1) := by decide +kernel
theorem dX13_horseTold_101 : decode cX13_horseTold 101 = .ok (.dup, 1) := by decide +kernel
theorem dX13_horseTold_102 : decode cX13_horseTold 102 = .ok (.bipush 8, 2) := by decide +kernel
theorem dX13_horseTold_104 : decode cX13_horseTold 104 = .ok (.aload_n 0, 1) := by decide +kernel
theorem dX13_horseTold_105 : decode cX13_horseTold 105 = .ok (.getfield 47, 3) := by decide +kernel
theorem dX13_horseTold_108 : decode cX13_horseTold 108 = .ok (.getfield 335, 3) := by decide +kernel
theorem dX13_horseTold_111 : decode cX13_horseTold 111 = .ok (.iload_n 1, 1) := by decide +kernel
theorem dX13_horseTold_112 : decode cX13_horseTold 112 = .ok (.iaload, 1) := by decide +kernel
theorem dX13_horseTold_113 : decode cX13_horseTold 113 = .ok (.iastore, 1) := by decide +kernel
theorem dX13_horseTold_114 : decode cX13_horseTold 114 = .ok (.dup, 1) := by decide +kernel
theorem dX13_horseTold_115 : decode cX13_horseTold 115 = .ok (.bipush 9, 2) := by decide +kernel
theorem dX13_horseTold_117 : decode cX13_horseTold 117 = .ok (.aload_n 0, 1) := by decide +kernel
theorem dX13_horseTold_118 : decode cX13_horseTold 118 = .ok (.getfield 47, 3) := by decide +kernel
theorem dX13_horseTold_121 : decode cX13_horseTold 121 = .ok (.getfield 338, 3) := by decide +kernel
theorem dX13_horseTold_124 : decode cX13_horseTold 124 = .ok (.iload_n 1, 1) := by decide +kernel
theorem dX13_horseTold_125 : decode cX13_horseTold 125 = .ok (.iaload, 1) := by decide +kernel
theorem dX13_horseTold_126 : decode cX13_horseTold 126 = .ok (.iastore, 1) := by decide +kernel
theorem dX13_horseTold_127 : decode cX13_horseTold 127 = .ok (.astore_n 3, 1) := by decide +kernel
theorem dX13_horseTold_128 : decode cX13_horseTold 128 = .ok (.aload_n 3, 1) := by decide +kernel
theorem dX13_horseTold_129 : decode cX13_horseTold 129 = .ok (.iload_n 2, 1) := by decide +kernel
theorem dX13_horseTold_130 : decode cX13_horseTold 130 = .ok (.iaload, 1) := by decide +kernel
theorem dX13_horseTold_131 : decode cX13_horseTold 131 = .ok (.ireturn, 1) := by decide +kernel
theorem dX13_horse_0 : decode cX13_horse 0 = .ok (.aload_n 0, 1) := by decide +kernel
theorem dX13_horse_1 : decode cX13_horse 1 = .ok (.iconst 0, 1) := by decide +kernel
theorem dX13_horse_2 : decode cX13_horse 2 = .ok (.putfield 57, 3) := by decide +kernel
theorem dX13_horse_5 : decode cX13_horse 5 = .ok (.aload_n 0, 1) := by decide +kernel
theorem dX13_horse_6 : decode cX13_horse 6 = .ok (.iload_n 1, 1) := by decide +kernel
theorem dX13_horse_7 : decode cX13_horse 7 = .ok (.invokevirtual 341, 3) := by decide +kernel
theorem dX13_horse_10 : decode cX13_horse 10 = .ok (.ifCond .eq 22, 3) := by decide +kernel
theorem dX13_horse_13 : decode cX13_horse 13 = .ok (.iload_n 2, 1) := by decide +kernel
theorem dX13_horse_14 : decode cX13_horse 14 = .ok (.iconst 0, 1) := by decide +kernel
theorem dX13_horse_15 : decode cX13_horse 15 = .ok (.bipush 9, 2) := by decide +kernel
theorem dX13_horse_17 : decode cX13_horse 17 = .ok (.invokestatic 63, 3) := by decide +kernel
theorem dX13_horse_20 : decode cX13_horse 20 = .ok (.ifCond .eq 12, 3) := by decide +kernel
theorem dX13_horse_23 : decode cX13_horse 23 = .ok (.aload_n 0, 1) := by decide +kernel
theorem dX13_horse_24 : decode cX13_horse 24 = .ok (.iload_n 1, 1) := by decide +kernel
theorem dX13_horse_25 : decode cX13_horse 25 = .ok (.iload_n 2, 1) := by decide +kernel
theorem dX13_horse_26 : decode cX13_horse 26 = .ok (.invokevirtual 344, 3) := by decide +kernel
theorem dX13_horse_29 : decode cX13_horse 29 = .ok (.goto 8, 3) := by decide +kernel
theorem dX13_horse_32 : decode cX13_horse 32 = .ok (.aload_n 0, 1) := by decide +kernel
theorem dX13_horse_33 : decode cX13_horse 33 = .ok (.iconst 1, 1) := by decide +kernel
theorem dX13_horse_34 : decode cX13_horse 34 = .ok (.invokevirtual 291, 3) := by decide +kernel
theorem dX13_horse_37 : decode cX13_horse 37 = .ok (.ireturn, 1) := by decide +kernel
theorem dX13_logTold_0 : decode cX13_logTold 0 = .ok (.iload_n 2, 1) := by decide +kernel
theorem dX13_logTold_1 : decode cX13_logTold 1 = .ok (.ifCond .ne 15, 3) := by decide +kernel
theorem dX13_logTold_4 : decode cX13_logTold 4 = .ok (.aload_n 0, 1) := by decide +kernel
theorem dX13_logTold_5 : decode cX13_logTold 5 = .ok (.getfield 35, 3) := by decide +kernel
theorem dX13_logTold_8 : decode cX13_logTold 8 = .ok (.getfield 279, 3) := by decide +kernel
theorem dX13_logTold_11 : decode cX13_logTold 11 = .ok (.iload_n 1, 1) := by decide +kernel
theorem dX13_logTold_12 : decode cX13_logTold 12 = .ok (.iaload, 1) := by decide +kernel
theorem dX13_logTold_13 : decode cX13_logTold 13 = .ok (.goto 46, 3) := by decide +kernel
theorem dX13_logTold_16 : decode cX13_logTold 16 = .ok (.iload_n 2, 1) := by decide +kernel
theorem dX13_logTold_17 : decode cX13_logTold 17 = .ok (.iconst 1, 1) := by decide +kernel
theorem dX13_logTold_18 : decode cX13_logTold 18 = .ok (.if_icmp .ne 15, 3) := by decide +kernel
theorem dX13_logTold_21 : decode cX13_logTold 21 = .ok (.aload_n 0, 1) := by decide +kernel
theorem dX13_logTold_22 : decode cX13_logTold 22 = .ok (.getfield 47, 3) := by decide +kernel
theorem dX13_logTold_25 : decode cX13_logTold 25 = .ok (.getfield 347, 3) := by decide +kernel
theorem dX13_logTold_28 : decode cX13_logTold 28 = .ok (.iload_n 1, 1) := by decide +kernel
theorem dX13_logTold_29 : decode cX13_logTold 29 = .ok (.iaload, 1) := by decide +kernel
theorem dX13_logTold_30 : decode cX13_logTold 30 = .ok (.goto 29, 3) := by decide +kernel
theorem dX13_logTold_33 : decode cX13_logTold 33 = .ok (.iload_n 2, 1) := by decide +kernel
theorem dX13_logTold_34 : decode cX13_logTold 34 = .ok (.iconst 2, 1) := by decide +kernel
theorem dX13_logTold_35 : decode cX13_logTold 35 = .ok (.if_icmp .ne 15, 3) := by decide +kernel
theorem dX13_logTold_38 : decode cX13_logTold 38 = .ok (.aload_n 0, 1) := by decide +kernel
theorem dX13_logTold_39 : decode cX13_logTold 39 = .ok (.getfield 47, 3) := by decide +kernel
theorem dX13_logTold_42 : decode cX13_logTold 42 = .ok (.getfield 350, 3) := by decide +kernel
theorem dX13_logTold_45 : decode cX13_logTold 45 = .ok (.iload_n 1, 1) := by decide +kernel
theorem dX13_logTold_46 : decode cX13_logTold 46 = .ok (.iaload, 1) := by decide +kernel
theorem dX13_logTold_47 : decode cX13_logTold 47 = .ok (.goto 12, 3) := by decide +kernel
theorem dX13_logTold_50 : decode cX13_logTold 50 = .ok (.aload_n 0, 1) := by decide +kernel
theorem dX13_logTold_51 : decode cX13_logTold 51 = .ok (.getfield 47, 3) := by decide +kernel
theorem dX13_logTold_54 : decode cX13_logTold 54 = .ok (.getfield 353, 3) := by decide +kernel
theorem dX13_logTold_57 : decode cX13_logTold 57 = .ok (.iload_n 1, 1) := by decide +kernel
theorem dX13_logTold_58 : decode cX13_logTold 58 = .ok (.iaload, 1) := by decide +kernel
theorem dX13_logTold_59 : decode cX13_logTold 59 = .ok (.ireturn, 1) := by decide +kernel
theorem dX13_log_0 : decode cX13_log 0 = .ok (.aload_n 0, 1) := by decide +kernel
theorem dX13_log_1 : decode cX13_log 1 = .ok (.iconst 0, 1) := by decide +kernel
theorem dX13_log_2 : decode cX13_log 2 = .ok (.putfield 57, 3) := by decide +kernel
theorem dX13_log_5 : decode cX13_log 5 = .ok (.aload_n 0, 1) := by decide +kernel
theorem dX13_log_6 : decode cX13_log 6 = .ok (.iload_n 1, 1) := by decide +kernel
theorem dX13_log_7 : decode cX13_log 7 = .ok (.invokevirtual 356, 3) := by decide +kernel
theorem dX13_log_10 : decode cX13_log 10 = .ok (.ifCond .eq 21, 3) := by decide +kernel
theorem dX13_log_13 : decode cX13_log 13 = .ok (.iload_n 2, 1) := by decide +kernel
theorem dX13_log_14 : decode cX13_log 14 = .ok (.iconst 0, 1) := by decide +kernel
theorem dX13_log_15 : decode cX13_log 15 = .ok (.iconst 3, 1) := by decide +kernel
theorem dX13_log_16 : decode cX13_log 16 = .ok (.invokestatic 63, 3) := by decide +kernel
theorem dX13_log_19 : decode cX13_log 19 = .ok (.ifCond .eq 12, 3) := by decide +kernel
theorem dX13_log_22 : decode cX13_log 22 = .ok (.aload_n 0, 1) := by decide +kernel
theorem dX13_log_23 : decode cX13_log 23 = .ok (.iload_n 1, 1) := by decide +kernel
theorem dX13_log_24 : decode cX13_log 24 = .ok (.iload_n 2, 1) := by decide +kernel
theorem dX13_log_25 : decode cX13_log 25 = .ok (.invokevirtual 359, 3) := by decide +kernel
theorem dX13_log_28 : decode cX13_log 28 = .ok (.goto 8, 3) := by decide +kernel
theorem dX13_log_31 : decode cX13_log 31 = .ok (.aload_n 0, 1) := by decide +kernel
theorem dX13_log_32 : decode cX13_log 32 = .ok (.iconst 1, 1) := by decide +kernel
theorem dX13_log_33 : decode cX13_log 33 = .ok (.invokevirtual 291, 3) := by decide +kernel
theorem dX13_log_36 : decode cX13_log 36 = .ok (.ireturn, 1) := by decide +kernel
theorem dX13_needs_0 : decode cX13_needs 0 = .ok (.aload_n 0, 1) := by decide +kernel
theorem dX13_needs_1 : decode cX13_needs 1 = .ok (.iconst 0, 1) := by decide +kernel
theorem dX13_needs_2 : decode cX13_needs 2 = .ok (.putfield 57, 3) := by decide +kernel
theorem dX13_needs_5 : decode cX13_needs 5 = .ok (.aload_n 0, 1) := by decide +kernel
theorem dX13_needs_6 : decode cX13_needs 6 = .ok (.iload_n 1, 1) := by decide +kernel
theorem dX13_needs_7 : decode cX13_needs 7 = .ok (.invokevirtual 341, 3) := by decide +kernel
theorem dX13_needs_10 : decode cX13_needs 10 = .ok (.ifCond .eq 23, 3) := by decide +kernel
theorem dX13_needs_13 : decode cX13_needs 13 = .ok (.aload_n 0, 1) := by decide +kernel
theorem dX13_needs_14 : decode cX13_needs 14 = .ok (.iload_n 2, 1) := by decide +kernel
theorem dX13_needs_15 : decode cX13_needs 15 = .ok (.invokevirtual 319, 3) := by decide +kernel
theorem dX13_needs_18 : decode cX13_needs 18 = .ok (.ifCond .eq 15, 3) := by decide +kernel
theorem dX13_needs_21 : decode cX13_needs 21 = .ok (.aload_n 0, 1) := by decide +kernel
theorem dX13_needs_22 : decode cX13_needs 22 = .ok (.getfield 47, 3) := by decide +kernel
theorem dX13_needs_25 : decode cX13_needs 25 = .ok (.iload_n 1, 1) := by decide +kernel
theorem dX13_needs_26 : decode cX13_needs 26 = .ok (.iload_n 2, 1) := by decide +kernel
theorem dX13_needs_27 : decode cX13_needs 27 = .ok (.invokevirtual 362, 3) := by decide +kernel
theorem dX13_needs_30 : decode cX13_needs 30 = .ok (.goto 8, 3) := by decide +kernel
theorem dX13_needs_33 : decode cX13_needs 33 = .ok (.aload_n 0, 1) := by decide +kernel
theorem dX13_needs_34 : decode cX13_needs 34 = .ok (.iconst 1, 1) := by decide +kernel
theorem dX13_needs_35 : decode cX13_needs 35 = .ok (.invokevirtual 291, 3) := by decide +kernel
theorem dX13_needs_38 : decode cX13_needs 38 = .ok (.ireturn, 1) := by decide +kernel
theorem dX13_setWeather_0 : decode cX13_setWeather 0 = .ok (.aload_n 0, 1) := by decide +kernel
theorem dX13_setWeather_1 : decode cX13_setWeather 1 = .ok (.iconst 0, 1) := by decide +kernel
theorem dX13_setWeather_2 : decode cX13_setWeather 2 = .ok (.putfield 57, 3) := by decide +kernel
theorem dX13_setWeather_5 : decode cX13_setWeather 5 = .ok (.iload_n 1, 1) := by decide +kernel
theorem dX13_setWeather_6 : decode cX13_setWeather 6 = .ok (.bipush (-3), 2) := by decide +kernel
theorem dX13_setWeather_8 : decode cX13_setWeather 8 = .ok (.iconst 3, 1) := by decide +kernel
theorem dX13_setWeather_9 : decode cX13_setWeather 9 = .ok (.invokestatic 63, 3) := by decide +kernel
theorem dX13_setWeather_12 : decode cX13_setWeather 12 = .ok (.ifCond .ne 9, 3) := by decide +kernel
theorem dX13_setWeather_15 : decode cX13_setWeather 15 = .ok (.aload_n 0, 1) := by decide +kernel
theorem dX13_setWeather_16 : decode cX13_setWeather 16 = .ok (.iconst 1, 1) := by decide +kernel
theorem dX13_setWeather_17 : decode cX13_setWeather 17 = .ok (.invokevirtual 291, 3) := by decide +kernel
theorem dX13_setWeather_20 : decode cX13_setWeather 20 = .ok (.ireturn, 1) := by decide +kernel
theorem dX13_setWeather_21 : decode cX13_setWeather 21 = .ok (.aload_n 0, 1) := by decide +kernel
theorem dX13_setWeather_22 : decode cX13_setWeather 22 = .ok (.getfield 47, 3) := by decide +kernel
theorem dX13_setWeather_25 : decode cX13_setWeather 25 = .ok (.getfield 304, 3) := by decide +kernel
theorem dX13_setWeather_28 : decode cX13_setWeather 28 = .ok (.istore_n 2, 1) := by decide +kernel
theorem dX13_setWeather_29 : decode cX13_setWeather 29 = .ok (.aload_n 0, 1) := by decide +kernel
theorem dX13_setWeather_30 : decode cX13_setWeather 30 = .ok (.getfield 47, 3) := by decide +kernel
theorem dX13_setWeather_33 : decode cX13_setWeather 33 = .ok (.iload_n 1, 1) := by decide +kernel
theorem dX13_setWeather_34 : decode cX13_setWeather 34 = .ok (.putfield 304, 3) := by decide +kernel
theorem dX13_setWeather_37 : decode cX13_setWeather 37 = .ok (.iload_n 2, 1) := by decide +kernel
theorem dX13_setWeather_38 : decode cX13_setWeather 38 = .ok (.ireturn, 1) := by decide +kernel
theorem dX13_forge_0 : decode cX13_forge 0 = .ok (.aload_n 0, 1) := by decide +kernel
theorem dX13_forge_1 : decode cX13_forge 1 = .ok (.iconst 0, 1) := by decide +kernel
theorem dX13_forge_2 : decode cX13_forge 2 = .ok (.putfield 57, 3) := by decide +kernel
theorem dX13_forge_5 : decode cX13_forge 5 = .ok (.aload_n 0, 1) := by decide +kernel
theorem dX13_forge_6 : decode cX13_forge 6 = .ok (.iload_n 1, 1) := by decide +kernel
theorem dX13_forge_7 : decode cX13_forge 7 = .ok (.invokevirtual 341, 3) := by decide +kernel
theorem dX13_forge_10 : decode cX13_forge 10 = .ok (.ifCond .ne 9, 3) := by decide +kernel
theorem dX13_forge_13 : decode cX13_forge 13 = .ok (.aload_n 0, 1) := by decide +kernel
theorem dX13_forge_14 : decode cX13_forge 14 = .ok (.iconst 1, 1) := by decide +kernel
theorem dX13_forge_15 : decode cX13_forge 15 = .ok (.invokevirtual 291, 3) := by decide +kernel
theorem dX13_forge_18 : decode cX13_forge 18 = .ok (.ireturn, 1) := by decide +kernel
theorem dX13_forge_19 : decode cX13_forge 19 = .ok (.iload_n 2, 1) := by decide +kernel
theorem dX13_forge_20 : decode cX13_forge 20 = .ok (.iconst 1, 1) := by decide +kernel
theorem dX13_forge_21 : decode cX13_forge 21 = .ok (.bipush 9, 2) := by decide +kernel
theorem dX13_forge_23 : decode cX13_forge 23 = .ok (.invokestatic 63, 3) := by decide +kernel
theorem dX13_forge_26 : decode cX13_forge 26 = .ok (.ifCond .ne 9, 3) := by decide +kernel
theorem dX13_forge_29 : decode cX13_forge 29 = .ok (.aload_n 0, 1) := by decide +kernel
theorem dX13_forge_30 : decode cX13_forge 30 = .ok (.iconst 2, 1) := by decide +kernel
theorem dX13_forge_31 : decode cX13_forge 31 = .ok (.invokevirtual 291, 3) := by decide +kernel
theorem dX13_forge_34 : decode cX13_forge 34 = .ok (.ireturn, 1) := by decide +kernel
theorem dX13_forge_35 : decode cX13_forge 35 = .ok (.aload_n 0, 1) := by decide +kernel
theorem dX13_forge_36 : decode cX13_forge 36 = .ok (.getfield 47, 3) := by decide +kernel
theorem dX13_forge_39 : decode cX13_forge 39 = .ok (.getfield 300, 3) := by decide +kernel
theorem dX13_forge_42 : decode cX13_forge 42 = .ok (.iload_n 1, 1) := by decide +kernel
theorem dX13_forge_43 : decode cX13_forge 43 = .ok (.bipush 9, 2) := by decide +kernel
theorem dX13_forge_45 : decode cX13_forge 45 = .ok (.aload_n 0, 1) := by decide +kernel
theorem dX13_forge_46 : decode cX13_forge 46 = .ok (.getfield 47, 3) := by decide +kernel
theorem dX13_forge_49 : decode cX13_forge 49 = .ok (.getfield 300, 3) := by decide +kernel
theorem dX13_forge_52 : decode cX13_forge 52 = .ok (.iload_n 1, 1) := by decide +kernel
theorem dX13_forge_53 : decode cX13_forge 53 = .ok (.iaload, 1) := by decide +kernel
theorem dX13_forge_54 : decode cX13_forge 54 = .ok (.iload_n 2, 1) := by decide +kernel
theorem dX13_forge_55 : decode cX13_forge 55 = .ok (.iadd, 1) := by decide +kernel
theorem dX13_forge_56 : decode cX13_forge 56 = .ok (.invokestatic 77, 3) := by decide +kernel
theorem dX13_forge_59 : decode cX13_forge 59 = .ok (.iastore, 1) := by decide +kernel
theorem dX13_forge_60 : decode cX13_forge 60 = .ok (.aload_n 0, 1) := by decide +kernel
theorem dX13_forge_61 : decode cX13_forge 61 = .ok (.getfield 47, 3) := by decide +kernel
theorem dX13_forge_64 : decode cX13_forge 64 = .ok (.getfield 300, 3) := by decide +kernel
theorem dX13_forge_67 : decode cX13_forge 67 = .ok (.iload_n 1, 1) := by decide +kernel
theorem dX13_forge_68 : decode cX13_forge 68 = .ok (.iaload, 1) := by decide +kernel
theorem dX13_forge_69 : decode cX13_forge 69 = .ok (.ireturn, 1) := by decide +kernel
theorem dX13_clear_0 : decode cX13_clear 0 = .ok (.aload_n 0, 1) := by decide +kernel
theorem dX13_clear_1 : decode cX13_clear 1 = .ok (.iconst 0, 1) := by decide +kernel
theorem dX13_clear_2 : decode cX13_clear 2 = .ok (.putfield 57, 3) := by decide +kernel
theorem dX13_clear_5 : decode cX13_clear 5 = .ok (.aload_n 0, 1) := by decide +kernel
theorem dX13_clear_6 : decode cX13_clear 6 = .ok (.iload_n 1, 1) := by decide +kernel
theorem dX13_clear_7 : decode cX13_clear 7 = .ok (.invokevirtual 319, 3) := by decide +kernel
theorem dX13_clear_10 : decode cX13_clear 10 = .ok (.ifCond .ne 9, 3) := by decide +kernel
theorem dX13_clear_13 : decode cX13_clear 13 = .ok (.aload_n 0, 1) := by decide +kernel
theorem dX13_clear_14 : decode cX13_clear 14 = .ok (.iconst 1, 1) := by decide +kernel
theorem dX13_clear_15 : decode cX13_clear 15 = .ok (.invokevirtual 291, 3) := by decide +kernel
theorem dX13_clear_18 : decode cX13_clear 18 = .ok (.ireturn, 1) := by decide +kernel
theorem dX13_clear_19 : decode cX13_clear 19 = .ok (.iconst 0, 1) := by decide +kernel
theorem dX13_clear_20 : decode cX13_clear 20 = .ok (.istore_n 2, 1) := by decide +kernel
theorem dX13_clear_21 : decode cX13_clear 21 = .ok (.iconst 0, 1) := by decide +kernel
theorem dX13_clear_22 : decode cX13_clear 22 = .ok (.istore_n 3, 1) := by decide +kernel
theorem dX13_clear_23 : decode cX13_clear 23 = .ok (.iload_n 3, 1) := by decide +kernel
theorem dX13_clear_24 : decode cX13_clear 24 = .ok (.aload_n 0, 1) := by decide +kernel
theorem dX13_clear_25 : decode cX13_clear 25 = .ok (.getfield 35, 3) := by decide +kernel
theorem dX13_clear_28 : decode cX13_clear 28 = .ok (.getfield 70, 3) := by decide +kernel
theorem dX13_clear_31 : decode cX13_clear 31 = .ok (.if_icmp .ge 51, 3) := by decide +kernel
theorem dX13_clear_34 : decode cX13_clear 34 = .ok (.aload_n 0, 1) := by decide +kernel
theorem dX13_clear_35 : decode cX13_clear 35 = .ok (.getfield 47, 3) := by decide +kernel
theorem dX13_clear_38 : decode cX13_clear 38 = .ok (.getfield 347, 3) := by decide +kernel
theorem dX13_clear_41 : decode cX13_clear 41 = .ok (.iload_n 3, 1) := by decide +kernel
theorem dX13_clear_42 : decode cX13_clear 42 = .ok (.iaload, 1) := by decide +kernel
theorem dX13_clear_43 : decode cX13_clear 43 = .ok (.iconst 2, 1) := by decide +kernel
theorem dX13_clear_44 : decode cX13_clear 44 = .ok (.if_icmp .ne 32, 3) := by decide +kernel
theorem dX13_clear_47 : decode cX13_clear 47 = .ok (.aload_n 0, 1) := by decide +kernel
theorem dX13_clear_48 : decode cX13_clear 48 = .ok (.getfield 47, 3) := by decide +kernel
theorem dX13_clear_51 : decode cX13_clear 51 = .ok (.getfield 350, 3) := by decide +kernel
theorem dX13_clear_54 : decode cX13_clear 54 = .ok (.iload_n 3, 1) := by decide +kernel
theorem dX13_clear_55 : decode cX13_clear 55 = .ok (.iaload, 1) := by decide +kernel
theorem dX13_clear_56 : decode cX13_clear 56 = .ok (.iload_n 1, 1) := by decide +kernel
theorem dX13_clear_57 : decode cX13_clear 57 = .ok (.if_icmp .eq 6, 3) := by decide +kernel
theorem dX13_clear_60 : decode cX13_clear 60 = .ok (.goto 16, 3) := by decide +kernel
theorem dX13_clear_63 : decode cX13_clear 63 = .ok (.aload_n 0, 1) := by decide +kernel
theorem dX13_clear_64 : decode cX13_clear 64 = .ok (.getfield 47, 3) := by decide +kernel
theorem dX13_clear_67 : decode cX13_clear 67 = .ok (.iload_n 3, 1) := by decide +kernel
theorem dX13_clear_68 : decode cX13_clear 68 = .ok (.iconst 0, 1) := by decide +kernel
theorem dX13_clear_69 : decode cX13_clear 69 = .ok (.iconst (-1), 1) := by decide +kernel
theorem dX13_clear_70 : decode cX13_clear 70 = .ok (.invokevirtual 365, 3) := by decide +kernel
theorem dX13_clear_73 : decode cX13_clear 73 = .ok (.iinc 2 1, 3) := by decide +kernel
theorem dX13_clear_76 : decode cX13_clear 76 = .ok (.iinc 3 1, 3) := by decide +kernel
theorem dX13_clear_79 : decode cX13_clear 79 = .ok (.goto (-56), 3) := by decide +kernel
theorem dX13_clear_82 : decode cX13_clear 82 = .ok (.iload_n 2, 1) := by decide +kernel
theorem dX13_clear_83 : decode cX13_clear 83 = .ok (.ireturn, 1) := by decide +kernel
theorem dX13_pass_0 : decode cX13_pass 0 = .ok (.aload_n 0, 1) := by decide +kernel
theorem dX13_pass_1 : decode cX13_pass 1 = .ok (.iconst 0, 1) := by decide +kernel
theorem dX13_pass_2 : decode cX13_pass 2 = .ok (.putfield 57, 3) := by decide +kernel
theorem dX13_pass_5 : decode cX13_pass 5 = .ok (.iload_n 1, 1) := by decide +kernel
theorem dX13_pass_6 : decode cX13_pass 6 = .ok (.iconst 1, 1) := by decide +kernel
theorem dX13_pass_7 : decode cX13_pass 7 = .ok (.bipush 120, 2) := by decide +kernel
theorem dX13_pass_9 : decode cX13_pass 9 = .ok (.invokestatic 63, 3) := by decide +kernel
theorem dX13_pass_12 : decode cX13_pass 12 = .ok (.ifCond .ne 9, 3) := by decide +kernel
theorem dX13_pass_15 : decode cX13_pass 15 = .ok (.aload_n 0, 1) := by decide +kernel
theorem dX13_pass_16 : decode cX13_pass 16 = .ok (.iconst 1, 1) := by decide +kernel
theorem dX13_pass_17 : decode cX13_pass 17 = .ok (.invokevirtual 291, 3) := by decide +kernel
theorem dX13_pass_20 : decode cX13_pass 20 = .ok (.ireturn, 1) := by decide +kernel
theorem dX13_pass_21 : decode cX13_pass 21 = .ok (.aload_n 0, 1) := by decide +kernel
theorem dX13_pass_22 : decode cX13_pass 22 = .ok (.getfield 47, 3) := by decide +kernel
theorem dX13_pass_25 : decode cX13_pass 25 = .ok (.iconst 3, 1) := by decide +kernel
theorem dX13_pass_26 : decode cX13_pass 26 = .ok (.iconst (-1), 1) := by decide +kernel
theorem dX13_pass_27 : decode cX13_pass 27 = .ok (.invokevirtual 307, 3) := by decide +kernel
theorem dX13_pass_30 : decode cX13_pass 30 = .ok (.istore_n 2, 1) := by decide +kernel
theorem dX13_pass_31 : decode cX13_pass 31 = .ok (.aload_n 0, 1) := by decide +kernel
theorem dX13_pass_32 : decode cX13_pass 32 = .ok (.getfield 47, 3) := by decide +kernel
theorem dX13_pass_35 : decode cX13_pass 35 = .ok (.iload_n 1, 1) := by decide +kernel
theorem dX13_pass_36 : decode cX13_pass 36 = .ok (.invokevirtual 368, 3) := by decide +kernel
theorem dX13_pass_39 : decode cX13_pass 39 = .ok (.aload_n 0, 1) := by decide +kernel
theorem dX13_pass_40 : decode cX13_pass 40 = .ok (.getfield 47, 3) := by decide +kernel
theorem dX13_pass_43 : decode cX13_pass 43 = .ok (.iconst 3, 1) := by decide +kernel
theorem dX13_pass_44 : decode cX13_pass 44 = .ok (.iconst (-1), 1) := by decide +kernel
theorem dX13_pass_45 : decode cX13_pass 45 = .ok (.invokevirtual 307, 3) := by decide +kernel
theorem dX13_pass_48 : decode cX13_pass 48 = .ok (.iload_n 2, 1) := by decide +kernel
theorem dX13_pass_49 : decode cX13_pass 49 = .ok (.isub, 1) := by decide +kernel
theorem dX13_pass_50 : decode cX13_pass 50 = .ok (.ireturn, 1) := by decide +kernel
theorem dX13_arrives_0 : decode cX13_arrives 0 = .ok (.aload_n 0, 1) := by decide +kernel
theorem dX13_arrives_1 : decode cX13_arrives 1 = .ok (.iconst 0, 1) := by decide +kernel
theorem dX13_arrives_2 : decode cX13_arrives 2 = .ok (.putfield 57, 3) := by decide +kernel
theorem dX13_arrives_5 : decode cX13_arrives 5 = .ok (.aload_n 0, 1) := by decide +kernel
theorem dX13_arrives_6 : decode cX13_arrives 6 = .ok (.iload_n 1, 1) := by decide +kernel
theorem dX13_arrives_7 : decode cX13_arrives 7 = .ok (.invokevirtual 356, 3) := by decide +kernel
theorem dX13_arrives_10 : decode cX13_arrives 10 = .ok (.ifCond .ne 9, 3) := by decide +kernel
theorem dX13_arrives_13 : decode cX13_arrives 13 = .ok (.aload_n 0, 1) := by decide +kernel
theorem dX13_arrives_14 : decode cX13_arrives 14 = .ok (.iconst 1, 1) := by decide +kernel
theorem dX13_arrives_15 : decode cX13_arrives 15 = .ok (.invokevirtual 291, 3) := by decide +kernel
theorem dX13_arrives_18 : decode cX13_arrives 18 = .ok (.ireturn, 1) := by decide +kernel
theorem dX13_arrives_19 : decode cX13_arrives 19 = .ok (.aload_n 0, 1) := by decide +kernel
theorem dX13_arrives_20 : decode cX13_arrives 20 = .ok (.getfield 51, 3) := by decide +kernel
theorem dX13_arrives_23 : decode cX13_arrives 23 = .ok (.aload_n 0, 1) := by decide +kernel
theorem dX13_arrives_24 : decode cX13_arrives 24 = .ok (.getfield 47, 3) := by decide +kernel
theorem dX13_arrives_27 : decode cX13_arrives 27 = .ok (.invokevirtual 371, 3) := by decide +kernel
theorem dX13_arrives_30 : decode cX13_arrives 30 = .ok (.iconst 0, 1) := by decide +kernel
theorem dX13_arrives_31 : decode cX13_arrives 31 = .ok (.istore_n 2, 1) := by decide +kernel
theorem dX13_arrives_32 : decode cX13_arrives 32 = .ok (.iload_n 2, 1) := by decide +kernel
theorem dX13_arrives_33 : decode cX13_arrives 33 = .ok (.sipush 200, 3) := by decide +kernel
theorem dX13_arrives_36 : decode cX13_arrives 36 = .ok (.if_icmp .gt 29, 3) := by decide +kernel
theorem dX13_arrives_39 : decode cX13_arrives 39 = .ok (.aload_n 0, 1) := by decide +kernel
theorem dX13_arrives_40 : decode cX13_arrives 40 = .ok (.getfield 51, 3) := by decide +kernel
theorem dX13_arrives_43 : decode cX13_arrives 43 = .ok (.getfield 347, 3) := by decide +kernel
theorem dX13_arrives_46 : decode cX13_arrives 46 = .ok (.iload_n 1, 1) := by decide +kernel
theorem dX13_arrives_47 : decode cX13_arrives 47 = .ok (.iaload, 1) := by decide +kernel
theorem dX13_arrives_48 : decode cX13_arrives 48 = .ok (.iconst 3, 1) := by decide +kernel
theorem dX13_arrives_49 : decode cX13_arrives 49 = .ok (.if_icmp .eq 16, 3) := by decide +kernel
theorem dX13_arrives_52 : decode cX13_arrives 52 = .ok (.aload_n 0, 1) := by decide +kernel
theorem dX13_arrives_53 : decode cX13_arrives 53 = .ok (.getfield 51, 3) := by decide +kernel
theorem dX13_arrives_56 : decode cX13_arrives 56 = .ok (.invokevirtual 375, 3) := by decide +kernel
theorem dX13_arrives_59 : decode cX13_arrives 59 = .ok (.iinc 2 1, 3) := by decide +kernel
theorem dX13_arrives_62 : decode cX13_arrives 62 = .ok (.goto (-30), 3) := by decide +kernel
theorem dX13_arrives_65 : decode cX13_arrives 65 = .ok (.iload_n 2, 1) := by decide +kernel
theorem dX13_arrives_66 : decode cX13_arrives 66 = .ok (.sipush 200, 3) := by decide +kernel
theorem dX13_arrives_69 : decode cX13_arrives 69 = .ok (.if_icmp .le 7, 3) := by decide +kernel
theorem dX13_arrives_72 : decode cX13_arrives 72 = .ok (.iconst (-1), 1) := by decide +kernel
theorem dX13_arrives_73 : decode cX13_arrives 73 = .ok (.goto 4, 3) := by decide +kernel
theorem dX13_arrives_76 : decode cX13_arrives 76 = .ok (.iload_n 2, 1) := by decide +kernel
theorem dX13_arrives_77 : decode cX13_arrives 77 = .ok (.ireturn, 1) := by decide +kernel
theorem dX13_breaks_0 : decode cX13_breaks 0 = .ok (.aload_n 0, 1) := by decide +kernel
theorem dX13_breaks_1 : decode cX13_breaks 1 = .ok (.iconst 0, 1) := by decide +kernel
theorem dX13_breaks_2 : decode cX13_breaks 2 = .ok (.putfield 57, 3) := by decide +kernel
theorem dX13_breaks_5 : decode cX13_breaks 5 = .ok (.aload_n 0, 1) := by decide +kernel
theorem dX13_breaks_6 : decode cX13_breaks 6 = .ok (.iload_n 1, 1) := by decide +kernel
theorem dX13_breaks_7 : decode cX13_breaks 7 = .ok (.invokevirtual 341, 3) := by decide +kernel
theorem dX13_breaks_10 : decode cX13_breaks 10 = .ok (.ifCond .ne 9, 3) := by decide +kernel
theorem dX13_breaks_13 : decode cX13_breaks 13 = .ok (.aload_n 0, 1) := by decide +kernel
theorem dX13_breaks_14 : decode cX13_breaks 14 = .ok (.iconst 1, 1) := by decide +kernel
theorem dX13_breaks_15 : decode cX13_breaks 15 = .ok (.invokevirtual 291, 3) := by decide +kernel
theorem dX13_breaks_18 : decode cX13_breaks 18 = .ok (.ireturn, 1) := by decide +kernel
theorem dX13_breaks_19 : decode cX13_breaks 19 = .ok (.aload_n 0, 1) := by decide +kernel
theorem dX13_breaks_20 : decode cX13_breaks 20 = .ok (.getfield 51, 3) := by decide +kernel
theorem dX13_breaks_23 : decode cX13_breaks 23 = .ok (.aload_n 0, 1) := by decide +kernel
theorem dX13_breaks_24 : decode cX13_breaks 24 = .ok (.getfield 47, 3) := by decide +kernel
theorem dX13_breaks_27 : decode cX13_breaks 27 = .ok (.invokevirtual 371, 3) := by decide +kernel
theorem dX13_breaks_30 : decode cX13_breaks 30 = .ok (.iconst 1, 1) := by decide +kernel
theorem dX13_breaks_31 : decode cX13_breaks 31 = .ok (.istore_n 2, 1) := by decide +kernel
theorem dX13_breaks_32 : decode cX13_breaks 32 = .ok (.iload_n 2, 1) := by decide +kernel
theorem dX13_breaks_33 : decode cX13_breaks 33 = .ok (.sipush 200, 3) := by decide +kernel
theorem dX13_breaks_36 : decode cX13_breaks 36 = .ok (.if_icmp .gt 39, 3) := by decide +kernel
theorem dX13_breaks_39 : decode cX13_breaks 39 = .ok (.aload_n 0, 1) := by decide +kernel
theorem dX13_breaks_40 : decode cX13_breaks 40 = .ok (.getfield 51, 3) := by decide +kernel
theorem dX13_breaks_43 : decode cX13_breaks 43 = .ok (.invokevirtual 375, 3) := by decide +kernel
theorem dX13_breaks_46 : decode cX13_breaks 46 = .ok (.aload_n 0, 1) := by decide +kernel
theorem dX13_breaks_47 : decode cX13_breaks 47 = .ok (.getfield 51, 3) := by decide +kernel
theorem dX13_breaks_50 : decode cX13_breaks 50 = .ok (.getfield 300, 3) := by decide +kernel
theorem dX13_breaks_53 : decode cX13_breaks 53 = .ok (.iload_n 1, 1) := by decide +kernel
theorem dX13_breaks_54 : decode cX13_breaks 54 = .ok (.iaload, 1) := by decide +kernel
theorem dX13_breaks_55 : decode cX13_breaks 55 = .ok (.aload_n 0, 1) := by decide +kernel
theorem dX13_breaks_56 : decode cX13_breaks 56 = .ok (.getfield 47, 3) := by decide +kernel
theorem dX13_breaks_59 : decode cX13_breaks 59 = .ok (.getfield 300, 3) := by decide +kernel
theorem dX13_breaks_62 : decode cX13_breaks 62 = .ok (.iload_n 1, 1) := by decide +kernel
theorem dX13_breaks_63 : decode cX13_breaks 63 = .ok (.iaload, 1) := by decide +kernel
theorem dX13_breaks_64 : decode cX13_breaks 64 = .ok (.if_icmp .ge 5, 3) := by decide +kernel
theorem dX13_breaks_67 : decode cX13_breaks 67 = .ok (.iload_n 2, 1) := by decide +kernel
theorem dX13_breaks_68 : decode cX13_breaks 68 = .ok (.ireturn, 1) := by decide +kernel
theorem dX13_breaks_69 : decode cX13_breaks 69 = .ok (.iinc 2 1, 3) := by decide +kernel
theorem dX13_breaks_72 : decode cX13_breaks 72 = .ok (.goto (-40), 3) := by decide +kernel
theorem dX13_breaks_75 : decode cX13_breaks 75 = .ok (.iconst (-1), 1) := by decide +kernel
theorem dX13_breaks_76 : decode cX13_breaks 76 = .ok (.ireturn, 1) := by decide +kernel
theorem dX13_foresee_0 : decode cX13_foresee 0 = .ok (.aload_n 0, 1) := by decide +kernel
theorem dX13_foresee_1 : decode cX13_foresee 1 = .ok (.iconst 0, 1) := by decide +kernel
theorem dX13_foresee_2 : decode cX13_foresee 2 = .ok (.putfield 57, 3) := by decide +kernel
theorem dX13_foresee_5 : decode cX13_foresee 5 = .ok (.iload_n 1, 1) := by decide +kernel
theorem dX13_foresee_6 : decode cX13_foresee 6 = .ok (.iconst 1, 1) := by decide +kernel
theorem dX13_foresee_7 : decode cX13_foresee 7 = .ok (.bipush 120, 2) := by decide +kernel
theorem dX13_foresee_9 : decode cX13_foresee 9 = .ok (.invokestatic 63, 3) := by decide +kernel
theorem dX13_foresee_12 : decode cX13_foresee 12 = .ok (.ifCond .ne 9, 3) := by decide +kernel
theorem dX13_foresee_15 : decode cX13_foresee 15 = .ok (.aload_n 0, 1) := by decide +kernel
theorem dX13_foresee_16 : decode cX13_foresee 16 = .ok (.iconst 1, 1) := by decide +kernel
theorem dX13_foresee_17 : decode cX13_foresee 17 = .ok (.invokevirtual 291, 3) := by decide +kernel
theorem dX13_foresee_20 : decode cX13_foresee 20 = .ok (.ireturn, 1) := by decide +kernel
theorem dX13_foresee_21 : decode cX13_foresee 21 = .ok (.iload_n 2, 1) := by decide +kernel
theorem dX13_foresee_22 : decode cX13_foresee 22 = .ok (.iconst 0, 1) := by decide +kernel
theorem dX13_foresee_23 : decode cX13_foresee 23 = .ok (.iconst 3, 1) := by decide +kernel
theorem dX13_foresee_24 : decode cX13_foresee 24 = .ok (.invokestatic 63, 3) := by decide +kernel
theorem dX13_foresee_27 : decode cX13_foresee 27 = .ok (.ifCond .ne 9, 3) := by decide +kernel
theorem dX13_foresee_30 : decode cX13_foresee 30 = .ok (.aload_n 0, 1) := by decide +kernel
theorem dX13_foresee_31 : decode cX13_foresee 31 = .ok (.iconst 2, 1) := by decide +kernel
theorem dX13_foresee_32 : decode cX13_foresee 32 = .ok (.invokevirtual 291, 3) := by decide +kernel
theorem dX13_foresee_35 : decode cX13_foresee 35 = .ok (.ireturn, 1) := by decide +kernel
theorem dX13_foresee_36 : decode cX13_foresee 36 = .ok (.aload_n 0, 1) := by decide +kernel
theorem dX13_foresee_37 : decode cX13_foresee 37 = .ok (.getfield 51, 3) := by decide +kernel
theorem dX13_foresee_40 : decode cX13_foresee 40 = .ok (.aload_n 0, 1) := by decide +kernel
theorem dX13_foresee_41 : decode cX13_foresee 41 = .ok (.getfield 47, 3) := by decide +kernel
theorem dX13_foresee_44 : decode cX13_foresee 44 = .ok (.invokevirtual 371, 3) := by decide +kernel
theorem dX13_foresee_47 : decode cX13_foresee 47 = .ok (.aload_n 0, 1) := by decide +kernel
theorem dX13_foresee_48 : decode cX13_foresee 48 = .ok (.getfield 51, 3) := by decide +kernel
theorem dX13_foresee_51 : decode cX13_foresee 51 = .ok (.iload_n 1, 1) := by decide +kernel
theorem dX13_foresee_52 : decode cX13_foresee 52 = .ok (.invokevirtual 368, 3) := by decide +kernel
theorem dX13_foresee_55 : decode cX13_foresee 55 = .ok (.iload_n 2, 1) := by decide +kernel
theorem dX13_foresee_56 : decode cX13_foresee 56 = .ok (.tableswitch 74 0 2 #[28, 48, 58], 28) := by decide +kernel
theorem dX13_foresee_84 : decode cX13_foresee 84 = .ok (.aload_n 0, 1) := by decide +kernel
theorem dX13_foresee_85 : decode cX13_foresee 85 = .ok (.getfield 51, 3) := by decide +kernel
theorem dX13_foresee_88 : decode cX13_foresee 88 = .ok (.iconst 3, 1) := by decide +kernel
theorem dX13_foresee_89 : decode cX13_foresee 89 = .ok (.iconst (-1), 1) := by decide +kernel
theorem dX13_foresee_90 : decode cX13_foresee 90 = .ok (.invokevirtual 307, 3) := by decide +kernel
theorem dX13_foresee_93 : decode cX13_foresee 93 = .ok (.aload_n 0, 1) := by decide +kernel
theorem dX13_foresee_94 : decode cX13_foresee 94 = .ok (.getfield 47, 3) := by decide +kernel
theorem dX13_foresee_97 : decode cX13_foresee 97 = .ok (.iconst 3, 1) := by decide +kernel
theorem dX13_foresee_98 : decode cX13_foresee 98 = .ok (.iconst (-1), 1) := by decide +kernel
theorem dX13_foresee_99 : decode cX13_foresee 99 = .ok (.invokevirtual 307, 3) := by decide +kernel
theorem dX13_foresee_102 : decode cX13_foresee 102 = .ok (.isub, 1) := by decide +kernel
theorem dX13_foresee_103 : decode cX13_foresee 103 = .ok (.ireturn, 1) := by decide +kernel
theorem dX13_foresee_104 : decode cX13_foresee 104 = .ok (.aload_n 0, 1) := by decide +kernel
theorem dX13_foresee_105 : decode cX13_foresee 105 = .ok (.getfield 51, 3) := by decide +kernel
theorem dX13_foresee_108 : decode cX13_foresee 108 = .ok (.iconst 2, 1) := by decide +kernel
theorem dX13_foresee_109 : decode cX13_foresee 109 = .ok (.iconst (-1), 1) := by decide +kernel
theorem dX13_foresee_110 : decode cX13_foresee 110 = .ok (.invokevirtual 310, 3) := by decide +kernel
theorem dX13_foresee_113 : decode cX13_foresee 113 = .ok (.ireturn, 1) := by decide +kernel
theorem dX13_foresee_114 : decode cX13_foresee 114 = .ok (.aload_n 0, 1) := by decide +kernel
theorem dX13_foresee_115 : decode cX13_foresee 115 = .ok (.getfield 51, 3) := by decide +kernel
theorem dX13_foresee_118 : decode cX13_foresee 118 = .ok (.getfield 312, 3) := by decide +kernel
theorem dX13_foresee_121 : decode cX13_foresee 121 = .ok (.aload_n 0, 1) := by decide +kernel
theorem dX13_foresee_122 : decode cX13_foresee 122 = .ok (.getfield 47, 3) := by decide +kernel
theorem dX13_foresee_125 : decode cX13_foresee 125 = .ok (.getfield 312, 3) := by decide +kernel
theorem dX13_foresee_128 : decode cX13_foresee 128 = .ok (.isub, 1) := by decide +kernel
theorem dX13_foresee_129 : decode cX13_foresee 129 = .ok (.ireturn, 1) := by decide +kernel
theorem dX13_foresee_130 : decode cX13_foresee 130 = .ok (.aload_n 0, 1) := by decide +kernel
theorem dX13_foresee_131 : decode cX13_foresee 131 = .ok (.getfield 51, 3) := by decide +kernel
theorem dX13_foresee_134 : decode cX13_foresee 134 = .ok (.iconst 0, 1) := by decide +kernel
theorem dX13_foresee_135 : decode cX13_foresee 135 = .ok (.iconst (-1), 1) := by decide +kernel
theorem dX13_foresee_136 : decode cX13_foresee 136 = .ok (.invokevirtual 307, 3) := by decide +kernel
theorem dX13_foresee_139 : decode cX13_foresee 139 = .ok (.ireturn, 1) := by decide +kernel
theorem dX13_advise_0 : decode cX13_advise 0 = .ok (.aload_n 0, 1) := by decide +kernel
theorem dX13_advise_1 : decode cX13_advise 1 = .ok (.iconst 0, 1) := by decide +kernel
theorem dX13_advise_2 : decode cX13_advise 2 = .ok (.putfield 57, 3) := by decide +kernel
theorem dX13_advise_5 : decode cX13_advise 5 = .ok (.iload_n 1, 1) := by decide +kernel
theorem dX13_advise_6 : decode cX13_advise 6 = .ok (.iconst 1, 1) := by decide +kernel
theorem dX13_advise_7 : decode cX13_advise 7 = .ok (.bipush 80, 2) := by decide +kernel
theorem dX13_advise_9 : decode cX13_advise 9 = .ok (.invokestatic 63, 3) := by decide +kernel
theorem dX13_advise_12 : decode cX13_advise 12 = .ok (.ifCond .ne 9, 3) := by decide +kernel
theorem dX13_advise_15 : decode cX13_advise 15 = .ok (.aload_n 0, 1) := by decide +kernel
theorem dX13_advise_16 : decode cX13_advise 16 = .ok (.iconst 1, 1) := by decide +kernel
theorem dX13_advise_17 : decode cX13_advise 17 = .ok (.invokevirtual 291, 3) := by decide +kernel
theorem dX13_advise_20 : decode cX13_advise 20 = .ok (.ireturn, 1) := by decide +kernel
theorem dX13_advise_21 : decode cX13_advise 21 = .ok (.iconst 0, 1) := by decide +kernel
theorem dX13_advise_22 : decode cX13_advise 22 = .ok (.istore_n 2, 1) := by decide +kernel
theorem dX13_advise_23 : decode cX13_advise 23 = .ok (.iconst (-1), 1) := by decide +kernel
theorem dX13_advise_24 : decode cX13_advise 24 = .ok (.istore_n 3, 1) := by decide +kernel
theorem dX13_advise_25 : decode cX13_advise 25 = .ok (.bipush (-3), 2) := by decide +kernel
theorem dX13_advise_27 : decode cX13_advise 27 = .ok (.istore 4, 2) := by decide +kernel
theorem dX13_advise_29 : decode cX13_advise 29 = .ok (.iload 4, 2) := by decide +kernel
theorem dX13_advise_31 : decode cX13_advise 31 = .ok (.iconst 3, 1) := by decide +kernel
theorem dX13_advise_32 : decode cX13_advise 32 = .ok (.if_icmp .gt 63, 3) := by decide +kernel
theorem dX13_advise_35 : decode cX13_advise 35 = .ok (.aload_n 0, 1) := by decide +kernel
theorem dX13_advise_36 : decode cX13_advise 36 = .ok (.getfield 51, 3) := by decide +kernel
theorem dX13_advise_39 : decode cX13_advise 39 = .ok (.aload_n 0, 1) := by decide +kernel
theorem dX13_advise_40 : decode cX13_advise 40 = .ok (.getfield 47, 3) := by decide +kernel
theorem dX13_advise_43 : decode cX13_advise 43 = .ok (.invokevirtual 371, 3) := by decide +kernel
theorem dX13_advise_46 : decode cX13_advise 46 = .ok (.aload_n 0, 1) := by decide +kernel
theorem dX13_advise_47 : decode cX13_advise 47 = .ok (.getfield 51, 3) := by decide +kernel
theorem dX13_advise_50 : decode cX13_advise 50 = .ok (.iload 4, 2) := by decide +kernel
theorem dX13_advise_52 : decode cX13_advise 52 = .ok (.putfield 304, 3) := by decide +kernel
theorem dX13_advise_55 : decode cX13_advise 55 = .ok (.aload_n 0, 1) := by decide +kernel
theorem dX13_advise_56 : decode cX13_advise 56 = .ok (.getfield 51, 3) := by decide +kernel
theorem dX13_advise_59 : decode cX13_advise 59 = .ok (.iload_n 1, 1) := by decide +kernel
theorem dX13_advise_60 : decode cX13_advise 60 = .ok (.invokevirtual 368, 3) := by decide +kernel
theorem dX13_advise_63 : decode cX13_advise 63 = .ok (.aload_n 0, 1) := by decide +kernel
theorem dX13_advise_64 : decode cX13_advise 64 = .ok (.getfield 51, 3) := by decide +kernel
theorem dX13_advise_67 : decode cX13_advise 67 = .ok (.iconst 3, 1) := by decide +kernel
theorem dX13_advise_68 : decode cX13_advise 68 = .ok (.iconst (-1), 1) := by decide +kernel
theorem dX13_advise_69 : decode cX13_advise 69 = .ok (.invokevirtual 307, 3) := by decide +kernel
theorem dX13_advise_72 : decode cX13_advise 72 = .ok (.istore 5, 2) := by decide +kernel
theorem dX13_advise_74 : decode cX13_advise 74 = .ok (.iload 5, 2) := by decide +kernel
theorem dX13_advise_76 : decode cX13_advise 76 = .ok (.iload_n 3, 1) := by decide +kernel
theorem dX13_advise_77 : decode cX13_advise 77 = .ok (.if_icmp .gt 6, 3) := by decide +kernel
theorem dX13_advise_80 : decode cX13_advise 80 = .ok (.goto 9, 3) := by decide +kernel
theorem dX13_advise_83 : decode cX13_advise 83 = .ok (.iload 5, 2) := by decide +kernel
theorem dX13_advise_85 : decode cX13_advise 85 = .ok (.istore_n 3, 1) := by decide +kernel
theorem dX13_advise_86 : decode cX13_advise 86 = .ok (.iload 4, 2) := by decide +kernel
theorem dX13_advise_88 : decode cX13_advise 88 = .ok (.istore_n 2, 1) := by decide +kernel
theorem dX13_advise_89 : decode cX13_advise 89 = .ok (.iinc 4 1, 3) := by decide +kernel
theorem dX13_advise_92 : decode cX13_advise 92 = .ok (.goto (-63), 3) := by decide +kernel
theorem dX13_advise_95 : decode cX13_advise 95 = .ok (.iload_n 2, 1) := by decide +kernel
theorem dX13_advise_96 : decode cX13_advise 96 = .ok (.ireturn, 1) := by decide +kernel
theorem dX13_raftWith_0 : decode cX13_raftWith 0 = .ok (.aload_n 0, 1) := by decide +kernel
theorem dX13_raftWith_1 : decode cX13_raftWith 1 = .ok (.getfield 51, 3) := by decide +kernel
theorem dX13_raftWith_4 : decode cX13_raftWith 4 = .ok (.aload_n 0, 1) := by decide +kernel
theorem dX13_raftWith_5 : decode cX13_raftWith 5 = .ok (.getfield 47, 3) := by decide +kernel
theorem dX13_raftWith_8 : decode cX13_raftWith 8 = .ok (.invokevirtual 371, 3) := by decide +kernel
theorem dX13_raftWith_11 : decode cX13_raftWith 11 = .ok (.iload_n 1, 1) := by decide +kernel
theorem dX13_raftWith_12 : decode cX13_raftWith 12 = .ok (.iconst (-1), 1) := by decide +kernel
theorem dX13_raftWith_13 : decode cX13_raftWith 13 = .ok (.if_icmp .eq 17, 3) := by decide +kernel
theorem dX13_raftWith_16 : decode cX13_raftWith 16 = .ok (.aload_n 0, 1) := by decide +kernel
theorem dX13_raftWith_17 : decode cX13_raftWith 17 = .ok (.getfield 51, 3) := by decide +kernel
theorem dX13_raftWith_20 : decode cX13_raftWith 20 = .ok (.getfield 325, 3) := by decide +kernel
theorem dX13_raftWith_23 : decode cX13_raftWith 23 = .ok (.iload_n 1, 1) := by decide +kernel
theorem dX13_raftWith_24 : decode cX13_raftWith 24 = .ok (.dup2, 1) := by decide +kernel
theorem dX13_raftWith_25 : decode cX13_raftWith 25 = .ok (.iaload, 1) := by decide +kernel
theorem dX13_raftWith_26 : decode cX13_raftWith 26 = .ok (.bipush 10, 2) := by decide +kernel
theorem dX13_raftWith_28 : decode cX13_raftWith 28 = .ok (.iadd, 1) := by decide +kernel
theorem dX13_raftWith_29 : decode cX13_raftWith 29 = .ok (.iastore, 1) := by decide +kernel
theorem dX13_raftWith_30 : decode cX13_raftWith 30 = .ok (.aload_n 0, 1) := by decide +kernel
theorem dX13_raftWith_31 : decode cX13_raftWith 31 = .ok (.getfield 51, 3) := by decide +kernel
theorem dX13_raftWith_34 : decode cX13_raftWith 34 = .ok (.iload_n 2, 1) := by decide +kernel
theorem dX13_raftWith_35 : decode cX13_raftWith 35 = .ok (.invokevirtual 368, 3) := by decide +kernel
theorem dX13_raftWith_38 : decode cX13_raftWith 38 = .ok (.aload_n 0, 1) := by decide +kernel
theorem dX13_raftWith_39 : decode cX13_raftWith 39 = .ok (.getfield 51, 3) := by decide +kernel
theorem dX13_raftWith_42 : decode cX13_raftWith 42 = .ok (.iconst 3, 1) := by decide +kernel
theorem dX13_raftWith_43 : decode cX13_raftWith 43 = .ok (.iconst (-1), 1) := by decide +kernel
theorem dX13_raftWith_44 : decode cX13_raftWith 44 = .ok (.invokevirtual 307, 3) := by decide +kernel
theorem dX13_raftWith_47 : decode cX13_raftWith 47 = .ok (.ireturn, 1) := by decide +kernel
theorem dX13_choose_0 : decode cX13_choose 0 = .ok (.aload_n 0, 1) := by decide +kernel
theorem dX13_choose_1 : decode cX13_choose 1 = .ok (.iconst 0, 1) := by decide +kernel
theorem dX13_choose_2 : decode cX13_choose 2 = .ok (.putfield 57, 3) := by decide +kernel
theorem dX13_choose_5 : decode cX13_choose 5 = .ok (.iload_n 1, 1) := by decide +kernel
theorem dX13_choose_6 : decode cX13_choose 6 = .ok (.iconst 1, 1) := by decide +kernel
theorem dX13_choose_7 : decode cX13_choose 7 = .ok (.bipush 80, 2) := by decide +kernel
theorem dX13_choose_9 : decode cX13_choose 9 = .ok (.invokestatic 63, 3) := by decide +kernel
theorem dX13_choose_12 : decode cX13_choose 12 = .ok (.ifCond .ne 9, 3) := by decide +kernel
theorem dX13_choose_15 : decode cX13_choose 15 = .ok (.aload_n 0, 1) := by decide +kernel
theorem dX13_choose_16 : decode cX13_choose 16 = .ok (.iconst 1, 1) := by decide +kernel
theorem dX13_choose_17 : decode cX13_choose 17 = .ok (.invokevirtual 291, 3) := by decide +kernel
theorem dX13_choose_20 : decode cX13_choose 20 = .ok (.ireturn, 1) := by decide +kernel
theorem dX13_choose_21 : decode cX13_choose 21 = .ok (.iconst (-1), 1) := by decide +kernel
theorem dX13_choose_22 : decode cX13_choose 22 = .ok (.istore_n 2, 1) := by decide +kernel
theorem dX13_choose_23 : decode cX13_choose 23 = .ok (.aload_n 0, 1) := by decide +kernel
theorem dX13_choose_24 : decode cX13_choose 24 = .ok (.iconst (-1), 1) := by decide +kernel
theorem dX13_choose_25 : decode cX13_choose 25 = .ok (.iload_n 1, 1) := by decide +kernel
theorem dX13_choose_26 : decode cX13_choose 26 = .ok (.invokevirtual 377, 3) := by decide +kernel
theorem dX13_choose_29 : decode cX13_choose 29 = .ok (.istore_n 3, 1) := by decide +kernel
theorem dX13_choose_30 : decode cX13_choose 30 = .ok (.iconst 0, 1) := by decide +kernel
theorem dX13_choose_31 : decode cX13_choose 31 = .ok (.istore 4, 2) := by decide +kernel
theorem dX13_choose_33 : decode cX13_choose 33 = .ok (.iload 4, 2) := by decide +kernel
theorem dX13_choose_35 : decode cX13_choose 35 = .ok (.aload_n 0, 1) := by decide +kernel
theorem dX13_choose_36 : decode cX13_choose 36 = .ok (.getfield 35, 3) := by decide +kernel
theorem dX13_choose_39 : decode cX13_choose 39 = .ok (.getfield 67, 3) := by decide +kernel
