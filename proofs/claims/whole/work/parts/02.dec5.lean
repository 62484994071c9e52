/-! decode rows 5 -/
theorem dX10_byteAt_9 : decode cX10_byteAt 9 = .ok (.getfield 17, 3) := by decide +kernel
theorem dX10_byteAt_12 : decode cX10_byteAt 12 = .ok (.iload_n 1, 1) := by decide +kernel
theorem dX10_byteAt_13 : decode cX10_byteAt 13 = .ok (.baload, 1) := by decide +kernel
theorem dX10_byteAt_14 : decode cX10_byteAt 14 = .ok (.sipush 255, 3) := by decide +kernel
theorem dX10_byteAt_17 : decode cX10_byteAt 17 = .ok (.iand, 1) := by decide +kernel
theorem dX10_byteAt_18 : decode cX10_byteAt 18 = .ok (.goto 4, 3) := by decide +kernel
theorem dX10_byteAt_21 : decode cX10_byteAt 21 = .ok (.iconst 0, 1) := by decide +kernel
theorem dX10_byteAt_22 : decode cX10_byteAt 22 = .ok (.ireturn, 1) := by decide +kernel
theorem dX10_isDigit_0 : decode cX10_isDigit 0 = .ok (.iload_n 0, 1) := by decide +kernel
theorem dX10_isDigit_1 : decode cX10_isDigit 1 = .ok (.bipush 48, 2) := by decide +kernel
theorem dX10_isDigit_3 : decode cX10_isDigit 3 = .ok (.if_icmp .lt 13, 3) := by decide +kernel
theorem dX10_isDigit_6 : decode cX10_isDigit 6 = .ok (.iload_n 0, 1) := by decide +kernel
theorem dX10_isDigit_7 : decode cX10_isDigit 7 = .ok (.bipush 57, 2) := by decide +kernel
theorem dX10_isDigit_9 : decode cX10_isDigit 9 = .ok (.if_icmp .gt 7, 3) := by decide +kernel
theorem dX10_isDigit_12 : decode cX10_isDigit 12 = .ok (.iconst 1, 1) := by decide +kernel
theorem dX10_isDigit_13 : decode cX10_isDigit 13 = .ok (.goto 4, 3) := by decide +kernel
theorem dX10_isDigit_16 : decode cX10_isDigit 16 = .ok (.iconst 0, 1) := by decide +kernel
theorem dX10_isDigit_17 : decode cX10_isDigit 17 = .ok (.ireturn, 1) := by decide +kernel
theorem dX10_isLetter_0 : decode cX10_isLetter 0 = .ok (.iload_n 0, 1) := by decide +kernel
theorem dX10_isLetter_1 : decode cX10_isLetter 1 = .ok (.bipush 97, 2) := by decide +kernel
theorem dX10_isLetter_3 : decode cX10_isLetter 3 = .ok (.if_icmp .lt 13, 3) := by decide +kernel
theorem dX10_isLetter_6 : decode cX10_isLetter 6 = .ok (.iload_n 0, 1) := by decide +kernel
theorem dX10_isLetter_7 : decode cX10_isLetter 7 = .ok (.bipush 122, 2) := by decide +kernel
theorem dX10_isLetter_9 : decode cX10_isLetter 9 = .ok (.if_icmp .gt 7, 3) := by decide +kernel
theorem dX10_isLetter_12 : decode cX10_isLetter 12 = .ok (.iconst 1, 1) := by decide +kernel
theorem dX10_isLetter_13 : decode cX10_isLetter 13 = .ok (.goto 4, 3) := by decide +kernel
theorem dX10_isLetter_16 : decode cX10_isLetter 16 = .ok (.iconst 0, 1) := by decide +kernel
theorem dX10_isLetter_17 : decode cX10_isLetter 17 = .ok (.ireturn, 1) := by decide +kernel
theorem dX10_appends_0 : decode cX10_appends 0 = .ok (.iload_n 2, 1) := by decide +kernel
theorem dX10_appends_1 : decode cX10_appends 1 = .ok (.ifCond .ne 7, 3) := by decide +kernel
theorem dX10_appends_4 : decode cX10_appends 4 = .ok (.lload_n 0, 1) := by decide +kernel
theorem dX10_appends_5 : decode cX10_appends 5 = .ok (.goto 16, 3) := by decide +kernel
theorem dX10_appends_8 : decode cX10_appends 8 = .ok (.ldc2_w 170, 3) := by decide +kernel
theorem dX10_appends_11 : decode cX10_appends 11 = .ok (.lload_n 0, 1) := by decide +kernel
theorem dX10_appends_12 : decode cX10_appends 12 = .ok (.lmul, 1) := by decide +kernel
theorem dX10_appends_13 : decode cX10_appends 13 = .ok (.iload_n 2, 1) := by decide +kernel
theorem dX10_appends_14 : decode cX10_appends 14 = .ok (.bipush 97, 2) := by decide +kernel
theorem dX10_appends_16 : decode cX10_appends 16 = .ok (.isub, 1) := by decide +kernel
theorem dX10_appends_17 : decode cX10_appends 17 = .ok (.iconst 1, 1) := by decide +kernel
theorem dX10_appends_18 : decode cX10_appends 18 = .ok (.iadd, 1) := by decide +kernel
theorem dX10_appends_19 : decode cX10_appends 19 = .ok (.i2l, 1) := by decide +kernel
theorem dX10_appends_20 : decode cX10_appends 20 = .ok (.ladd, 1) := by decide +kernel
theorem dX10_appends_21 : decode cX10_appends 21 = .ok (.lreturn, 1) := by decide +kernel
theorem dX10_word_0 : decode cX10_word 0 = .ok (.lconst 0, 1) := by decide +kernel
theorem dX10_word_1 : decode cX10_word 1 = .ok (.iload_n 0, 1) := by decide +kernel
theorem dX10_word_2 : decode cX10_word 2 = .ok (.invokestatic 172, 3) := by decide +kernel
theorem dX10_word_5 : decode cX10_word 5 = .ok (.iload_n 1, 1) := by decide +kernel
theorem dX10_word_6 : decode cX10_word 6 = .ok (.invokestatic 172, 3) := by decide +kernel
theorem dX10_word_9 : decode cX10_word 9 = .ok (.iload_n 2, 1) := by decide +kernel
theorem dX10_word_10 : decode cX10_word 10 = .ok (.invokestatic 172, 3) := by decide +kernel
theorem dX10_word_13 : decode cX10_word 13 = .ok (.iload_n 3, 1) := by decide +kernel
theorem dX10_word_14 : decode cX10_word 14 = .ok (.invokestatic 172, 3) := by decide +kernel
theorem dX10_word_17 : decode cX10_word 17 = .ok (.iload 4, 2) := by decide +kernel
theorem dX10_word_19 : decode cX10_word 19 = .ok (.invokestatic 172, 3) := by decide +kernel
theorem dX10_word_22 : decode cX10_word 22 = .ok (.iload 5, 2) := by decide +kernel
theorem dX10_word_24 : decode cX10_word 24 = .ok (.invokestatic 172, 3) := by decide +kernel
theorem dX10_word_27 : decode cX10_word 27 = .ok (.iload 6, 2) := by decide +kernel
theorem dX10_word_29 : decode cX10_word 29 = .ok (.invokestatic 172, 3) := by decide +kernel
theorem dX10_word_32 : decode cX10_word 32 = .ok (.lreturn, 1) := by decide +kernel
theorem dX10_token_0 : decode cX10_token 0 = .ok (.aload_n 0, 1) := by decide +kernel
theorem dX10_token_1 : decode cX10_token 1 = .ok (.getfield 20, 3) := by decide +kernel
theorem dX10_token_4 : decode cX10_token 4 = .ok (.aload_n 0, 1) := by decide +kernel
theorem dX10_token_5 : decode cX10_token 5 = .ok (.getfield 176, 3) := by decide +kernel
theorem dX10_token_8 : decode cX10_token 8 = .ok (.iload_n 1, 1) := by decide +kernel
theorem dX10_token_9 : decode cX10_token 9 = .ok (.iastore, 1) := by decide +kernel
theorem dX10_token_10 : decode cX10_token 10 = .ok (.aload_n 0, 1) := by decide +kernel
theorem dX10_token_11 : decode cX10_token 11 = .ok (.getfield 24, 3) := by decide +kernel
theorem dX10_token_14 : decode cX10_token 14 = .ok (.aload_n 0, 1) := by decide +kernel
theorem dX10_token_15 : decode cX10_token 15 = .ok (.getfield 176, 3) := by decide +kernel
theorem dX10_token_18 : decode cX10_token 18 = .ok (.iload_n 2, 1) := by decide +kernel
theorem dX10_token_19 : decode cX10_token 19 = .ok (.iastore, 1) := by decide +kernel
theorem dX10_token_20 : decode cX10_token 20 = .ok (.aload_n 0, 1) := by decide +kernel
theorem dX10_token_21 : decode cX10_token 21 = .ok (.getfield 27, 3) := by decide +kernel
theorem dX10_token_24 : decode cX10_token 24 = .ok (.aload_n 0, 1) := by decide +kernel
theorem dX10_token_25 : decode cX10_token 25 = .ok (.getfield 176, 3) := by decide +kernel
theorem dX10_token_28 : decode cX10_token 28 = .ok (.iload_n 3, 1) := by decide +kernel
theorem dX10_token_29 : decode cX10_token 29 = .ok (.iastore, 1) := by decide +kernel
theorem dX10_token_30 : decode cX10_token 30 = .ok (.aload_n 0, 1) := by decide +kernel
theorem dX10_token_31 : decode cX10_token 31 = .ok (.getfield 30, 3) := by decide +kernel
theorem dX10_token_34 : decode cX10_token 34 = .ok (.aload_n 0, 1) := by decide +kernel
theorem dX10_token_35 : decode cX10_token 35 = .ok (.getfield 176, 3) := by decide +kernel
theorem dX10_token_38 : decode cX10_token 38 = .ok (.lload 4, 2) := by decide +kernel
theorem dX10_token_40 : decode cX10_token 40 = .ok (.lastore, 1) := by decide +kernel
theorem dX10_token_41 : decode cX10_token 41 = .ok (.aload_n 0, 1) := by decide +kernel
theorem dX10_token_42 : decode cX10_token 42 = .ok (.dup, 1) := by decide +kernel
theorem dX10_token_43 : decode cX10_token 43 = .ok (.getfield 176, 3) := by decide +kernel
theorem dX10_token_46 : decode cX10_token 46 = .ok (.iconst 1, 1) := by decide +kernel
theorem dX10_token_47 : decode cX10_token 47 = .ok (.iadd, 1) := by decide +kernel
theorem dX10_token_48 : decode cX10_token 48 = .ok (.putfield 176, 3) := by decide +kernel
theorem dX10_token_51 : decode cX10_token 51 = .ok (.return_, 1) := by decide +kernel
theorem dX10_cut_0 : decode cX10_cut 0 = .ok (.aload_n 0, 1) := by decide +kernel
theorem dX10_cut_1 : decode cX10_cut 1 = .ok (.iconst 0, 1) := by decide +kernel
theorem dX10_cut_2 : decode cX10_cut 2 = .ok (.putfield 176, 3) := by decide +kernel
theorem dX10_cut_5 : decode cX10_cut 5 = .ok (.iconst 0, 1) := by decide +kernel
theorem dX10_cut_6 : decode cX10_cut 6 = .ok (.istore_n 1, 1) := by decide +kernel
theorem dX10_cut_7 : decode cX10_cut 7 = .ok (.aload_n 0, 1) := by decide +kernel
theorem dX10_cut_8 : decode cX10_cut 8 = .ok (.getfield 176, 3) := by decide +kernel
theorem dX10_cut_11 : decode cX10_cut 11 = .ok (.sipush 400, 3) := by decide +kernel
theorem dX10_cut_14 : decode cX10_cut 14 = .ok (.if_icmp .gt 280, 3) := by decide +kernel
theorem dX10_cut_17 : decode cX10_cut 17 = .ok (.aload_n 0, 1) := by decide +kernel
theorem dX10_cut_18 : decode cX10_cut 18 = .ok (.iload_n 1, 1) := by decide +kernel
theorem dX10_cut_19 : decode cX10_cut 19 = .ok (.invokevirtual 179, 3) := by decide +kernel
theorem dX10_cut_22 : decode cX10_cut 22 = .ok (.istore_n 2, 1) := by decide +kernel
theorem dX10_cut_23 : decode cX10_cut 23 = .ok (.iload_n 1, 1) := by decide +kernel
theorem dX10_cut_24 : decode cX10_cut 24 = .ok (.aload_n 0, 1) := by decide +kernel
theorem dX10_cut_25 : decode cX10_cut 25 = .ok (.getfield 167, 3) := by decide +kernel
theorem dX10_cut_28 : decode cX10_cut 28 = .ok (.if_icmp .lt 15, 3) := by decide +kernel
theorem dX10_cut_31 : decode cX10_cut 31 = .ok (.aload_n 0, 1) := by decide +kernel
theorem dX10_cut_32 : decode cX10_cut 32 = .ok (.iconst 0, 1) := by decide +kernel
theorem dX10_cut_33 : decode cX10_cut 33 = .ok (.aload_n 0, 1) := by decide +kernel
theorem dX10_cut_34 : decode cX10_cut 34 = .ok (.getfield 167, 3) := by decide +kernel
theorem dX10_cut_37 : decode cX10_cut 37 = .ok (.iconst 0, 1) := by decide +kernel
theorem dX10_cut_38 : decode cX10_cut 38 = .ok (.lconst 0, 1) := by decide +kernel
theorem dX10_cut_39 : decode cX10_cut 39 = .ok (.invokevirtual 183, 3) := by decide +kernel
theorem dX10_cut_42 : decode cX10_cut 42 = .ok (.return_, 1) := by decide +kernel
theorem dX10_cut_43 : decode cX10_cut 43 = .ok (.iload_n 2, 1) := by decide +kernel
theorem dX10_cut_44 : decode cX10_cut 44 = .ok (.bipush 9, 2) := by decide +kernel
theorem dX10_cut_46 : decode cX10_cut 46 = .ok (.if_icmp .eq 21, 3) := by decide +kernel
theorem dX10_cut_49 : decode cX10_cut 49 = .ok (.iload_n 2, 1) := by decide +kernel
theorem dX10_cut_50 : decode cX10_cut 50 = .ok (.bipush 10, 2) := by decide +kernel
theorem dX10_cut_52 : decode cX10_cut 52 = .ok (.if_icmp .eq 15, 3) := by decide +kernel
theorem dX10_cut_55 : decode cX10_cut 55 = .ok (.iload_n 2, 1) := by decide +kernel
theorem dX10_cut_56 : decode cX10_cut 56 = .ok (.bipush 13, 2) := by decide +kernel
theorem dX10_cut_58 : decode cX10_cut 58 = .ok (.if_icmp .eq 9, 3) := by decide +kernel
theorem dX10_cut_61 : decode cX10_cut 61 = .ok (.iload_n 2, 1) := by decide +kernel
theorem dX10_cut_62 : decode cX10_cut 62 = .ok (.bipush 32, 2) := by decide +kernel
theorem dX10_cut_64 : decode cX10_cut 64 = .ok (.if_icmp .ne 9, 3) := by decide +kernel
theorem dX10_cut_67 : decode cX10_cut 67 = .ok (.iinc 1 1, 3) := by decide +kernel
theorem dX10_cut_70 : decode cX10_cut 70 = .ok (.goto 221, 3) := by decide +kernel
theorem dX10_cut_73 : decode cX10_cut 73 = .ok (.iload_n 2, 1) := by decide +kernel
theorem dX10_cut_74 : decode cX10_cut 74 = .ok (.invokestatic 187, 3) := by decide +kernel
theorem dX10_cut_77 : decode cX10_cut 77 = .ok (.ifCond .eq 119, 3) := by decide +kernel
theorem dX10_cut_80 : decode cX10_cut 80 = .ok (.iconst 0, 1) := by decide +kernel
theorem dX10_cut_81 : decode cX10_cut 81 = .ok (.istore_n 3, 1) := by decide +kernel
theorem dX10_cut_82 : decode cX10_cut 82 = .ok (.lconst 0, 1) := by decide +kernel
theorem dX10_cut_83 : decode cX10_cut 83 = .ok (.lstore 4, 2) := by decide +kernel
theorem dX10_cut_85 : decode cX10_cut 85 = .ok (.aload_n 0, 1) := by decide +kernel
theorem dX10_cut_86 : decode cX10_cut 86 = .ok (.iload_n 1, 1) := by decide +kernel
theorem dX10_cut_87 : decode cX10_cut 87 = .ok (.iload_n 3, 1) := by decide +kernel
theorem dX10_cut_88 : decode cX10_cut 88 = .ok (.iadd, 1) := by decide +kernel
theorem dX10_cut_89 : decode cX10_cut 89 = .ok (.invokevirtual 179, 3) := by decide +kernel
theorem dX10_cut_92 : decode cX10_cut 92 = .ok (.invokestatic 187, 3) := by decide +kernel
theorem dX10_cut_95 : decode cX10_cut 95 = .ok (.ifCond .eq 29, 3) := by decide +kernel
theorem dX10_cut_98 : decode cX10_cut 98 = .ok (.iload_n 3, 1) := by decide +kernel
theorem dX10_cut_99 : decode cX10_cut 99 = .ok (.bipush 8, 2) := by decide +kernel
theorem dX10_cut_101 : decode cX10_cut 101 = .ok (.if_icmp .ge 17, 3) := by decide +kernel
theorem dX10_cut_104 : decode cX10_cut 104 = .ok (.lload 4, 2) := by decide +kernel
theorem dX10_cut_106 : decode cX10_cut 106 = .ok (.aload_n 0, 1) := by decide +kernel
theorem dX10_cut_107 : decode cX10_cut 107 = .ok (.iload_n 1, 1) := by decide +kernel
theorem dX10_cut_108 : decode cX10_cut 108 = .ok (.iload_n 3, 1) := by decide +kernel
theorem dX10_cut_109 : decode cX10_cut 109 = .ok (.iadd, 1) := by decide +kernel
theorem dX10_cut_110 : decode cX10_cut 110 = .ok (.invokevirtual 179, 3) := by decide +kernel
theorem dX10_cut_113 : decode cX10_cut 113 = .ok (.invokestatic 172, 3) := by decide +kernel
theorem dX10_cut_116 : decode cX10_cut 116 = .ok (.lstore 4, 2) := by decide +kernel
theorem dX10_cut_118 : decode cX10_cut 118 = .ok (.iinc 3 1, 3) := by decide +kernel
theorem dX10_cut_121 : decode cX10_cut 121 = .ok (.goto (-36), 3) := by decide +kernel
theorem dX10_cut_124 : decode cX10_cut 124 = .ok (.iload_n 3, 1) := by decide +kernel
theorem dX10_cut_125 : decode cX10_cut 125 = .ok (.bipush 8, 2) := by decide +kernel
theorem dX10_cut_127 : decode cX10_cut 127 = .ok (.if_icmp .le 7, 3) := by decide +kernel
theorem dX10_cut_130 : decode cX10_cut 130 = .ok (.iconst 3, 1) := by decide +kernel
theorem dX10_cut_131 : decode cX10_cut 131 = .ok (.goto 4, 3) := by decide +kernel
theorem dX10_cut_134 : decode cX10_cut 134 = .ok (.iconst 1, 1) := by decide +kernel
theorem dX10_cut_135 : decode cX10_cut 135 = .ok (.istore 6, 2) := by decide +kernel
theorem dX10_cut_137 : decode cX10_cut 137 = .ok (.iload_n 3, 1) := by decide +kernel
theorem dX10_cut_138 : decode cX10_cut 138 = .ok (.bipush 7, 2) := by decide +kernel
theorem dX10_cut_140 : decode cX10_cut 140 = .ok (.if_icmp .gt 39, 3) := by decide +kernel
theorem dX10_cut_143 : decode cX10_cut 143 = .ok (.iconst 0, 1) := by decide +kernel
theorem dX10_cut_144 : decode cX10_cut 144 = .ok (.istore 7, 2) := by decide +kernel
theorem dX10_cut_146 : decode cX10_cut 146 = .ok (.iload 7, 2) := by decide +kernel
theorem dX10_cut_148 : decode cX10_cut 148 = .ok (.bipush 17, 2) := by decide +kernel
theorem dX10_cut_150 : decode cX10_cut 150 = .ok (.if_icmp .ge 29, 3) := by decide +kernel
theorem dX10_cut_153 : decode cX10_cut 153 = .ok (.aload_n 0, 1) := by decide +kernel
theorem dX10_cut_154 : decode cX10_cut 154 = .ok (.getfield 34, 3) := by decide +kernel
theorem dX10_cut_157 : decode cX10_cut 157 = .ok (.iload 7, 2) := by decide +kernel
theorem dX10_cut_159 : decode cX10_cut 159 = .ok (.laload, 1) := by decide +kernel
theorem dX10_cut_160 : decode cX10_cut 160 = .ok (.lload 4, 2) := by decide +kernel
theorem dX10_cut_162 : decode cX10_cut 162 = .ok (.lcmp, 1) := by decide +kernel
theorem dX10_cut_163 : decode cX10_cut 163 = .ok (.ifCond .ne 10, 3) := by decide +kernel
theorem dX10_cut_166 : decode cX10_cut 166 = .ok (.bipush 20, 2) := by decide +kernel
theorem dX10_cut_168 : decode cX10_cut 168 = .ok (.iload 7, 2) := by decide +kernel
theorem dX10_cut_170 : decode cX10_cut 170 = .ok (.iadd, 1) := by decide +kernel
theorem dX10_cut_171 : decode cX10_cut 171 = .ok (.istore 6, 2) := by decide +kernel
theorem dX10_cut_173 : decode cX10_cut 173 = .ok (.iinc 7 1, 3) := by decide +kernel
theorem dX10_cut_176 : decode cX10_cut 176 = .ok (.goto (-30), 3) := by decide +kernel
theorem dX10_cut_179 : decode cX10_cut 179 = .ok (.aload_n 0, 1) := by decide +kernel
theorem dX10_cut_180 : decode cX10_cut 180 = .ok (.iload 6, 2) := by decide +kernel
theorem dX10_cut_182 : decode cX10_cut 182 = .ok (.iload_n 1, 1) := by decide +kernel
theorem dX10_cut_183 : decode cX10_cut 183 = .ok (.iconst 0, 1) := by decide +kernel
theorem dX10_cut_184 : decode cX10_cut 184 = .ok (.lload 4, 2) := by decide +kernel
theorem dX10_cut_186 : decode cX10_cut 186 = .ok (.invokevirtual 183, 3) := by decide +kernel
theorem dX10_cut_189 : decode cX10_cut 189 = .ok (.iload_n 1, 1) := by decide +kernel
theorem dX10_cut_190 : decode cX10_cut 190 = .ok (.iload_n 3, 1) := by decide +kernel
theorem dX10_cut_191 : decode cX10_cut 191 = .ok (.iadd, 1) := by decide +kernel
theorem dX10_cut_192 : decode cX10_cut 192 = .ok (.istore_n 1, 1) := by decide +kernel
theorem dX10_cut_193 : decode cX10_cut 193 = .ok (.goto 98, 3) := by decide +kernel
theorem dX10_cut_196 : decode cX10_cut 196 = .ok (.iload_n 2, 1) := by decide +kernel
theorem dX10_cut_197 : decode cX10_cut 197 = .ok (.invokestatic 191, 3) := by decide +kernel
theorem dX10_cut_200 : decode cX10_cut 200 = .ok (.ifCond .eq 75, 3) := by decide +kernel
theorem dX10_cut_203 : decode cX10_cut 203 = .ok (.iconst 0, 1) := by decide +kernel
theorem dX10_cut_204 : decode cX10_cut 204 = .ok (.istore_n 3, 1) := by decide +kernel
theorem dX10_cut_205 : decode cX10_cut 205 = .ok (.iconst 0, 1) := by decide +kernel
theorem dX10_cut_206 : decode cX10_cut 206 = .ok (.istore 4, 2) := by decide +kernel
theorem dX10_cut_208 : decode cX10_cut 208 = .ok (.aload_n 0, 1) := by decide +kernel
theorem dX10_cut_209 : decode cX10_cut 209 = .ok (.iload_n 1, 1) := by decide +kernel
theorem dX10_cut_210 : decode cX10_cut 210 = .ok (.iload_n 3, 1) := by decide +kernel
theorem dX10_cut_211 : decode cX10_cut 211 = .ok (.iadd, 1) := by decide +kernel
theorem dX10_cut_212 : decode cX10_cut 212 = .ok (.invokevirtual 179, 3) := by decide +kernel
theorem dX10_cut_215 : decode cX10_cut 215 = .ok (.invokestatic 191, 3) := by decide +kernel
theorem dX10_cut_218 : decode cX10_cut 218 = .ok (.ifCond .eq 32, 3) := by decide +kernel
theorem dX10_cut_221 : decode cX10_cut 221 = .ok (.iload_n 3, 1) := by decide +kernel
theorem dX10_cut_222 : decode cX10_cut 222 = .ok (.iconst 4, 1) := by decide +kernel
theorem dX10_cut_223 : decode cX10_cut 223 = .ok (.if_icmp .ge 21, 3) := by decide +kernel
theorem dX10_cut_226 : decode cX10_cut 226 = .ok (.bipush 10, 2) := by decide +kernel
theorem dX10_cut_228 : decode cX10_cut 228 = .ok (.iload 4, 2) := by decide +kernel
theorem dX10_cut_230 : decode cX10_cut 230 = .ok (.imul, 1) := by decide +kernel
theorem dX10_cut_231 : decode cX10_cut 231 = .ok (.aload_n 0, 1) := by decide +kernel
theorem dX10_cut_232 : decode cX10_cut 232 = .ok (.iload_n 1, 1) := by decide +kernel
theorem dX10_cut_233 : decode cX10_cut 233 = .ok (.iload_n 3, 1) := by decide +kernel
theorem dX10_cut_234 : decode cX10_cut 234 = .ok (.iadd, 1) := by decide +kernel
theorem dX10_cut_235 : decode cX10_cut 235 = .ok (.invokevirtual 179, 3) := by decide +kernel
theorem dX10_cut_238 : decode cX10_cut 238 = .ok (.iadd, 1) := by decide +kernel
theorem dX10_cut_239 : decode cX10_cut 239 = .ok (.bipush 48, 2) := by decide +kernel
theorem dX10_cut_241 : decode cX10_cut 241 = .ok (.isub, 1) := by decide +kernel
theorem dX10_cut_242 : decode cX10_cut 242 = .ok (.istore 4, 2) := by decide +kernel
theorem dX10_cut_244 : decode cX10_cut 244 = .ok (.iinc 3 1, 3) := by decide +kernel
theorem dX10_cut_247 : decode cX10_cut 247 = .ok (.goto (-39), 3) := by decide +kernel
theorem dX10_cut_250 : decode cX10_cut 250 = .ok (.aload_n 0, 1) := by decide +kernel
theorem dX10_cut_251 : decode cX10_cut 251 = .ok (.iload_n 3, 1) := by decide +kernel
theorem dX10_cut_252 : decode cX10_cut 252 = .ok (.iconst 4, 1) := by decide +kernel
theorem dX10_cut_253 : decode cX10_cut 253 = .ok (.if_icmp .le 7, 3) := by decide +kernel
theorem dX10_cut_256 : decode cX10_cut 256 = .ok (.iconst 3, 1) := by decide +kernel
theorem dX10_cut_257 : decode cX10_cut 257 = .ok (.goto 4, 3) := by decide +kernel
theorem dX10_cut_260 : decode cX10_cut 260 = .ok (.iconst 2, 1) := by decide +kernel
theorem dX10_cut_261 : decode cX10_cut 261 = .ok (.iload_n 1, 1) := by decide +kernel
theorem dX10_cut_262 : decode cX10_cut 262 = .ok (.iload 4, 2) := by decide +kernel
theorem dX10_cut_264 : decode cX10_cut 264 = .ok (.lconst 0, 1) := by decide +kernel
theorem dX10_cut_265 : decode cX10_cut 265 = .ok (.invokevirtual 183, 3) := by decide +kernel
theorem dX10_cut_268 : decode cX10_cut 268 = .ok (.iload_n 1, 1) := by decide +kernel
theorem dX10_cut_269 : decode cX10_cut 269 = .ok (.iload_n 3, 1) := by decide +kernel
theorem dX10_cut_270 : decode cX10_cut 270 = .ok (.iadd, 1) := by decide +kernel
theorem dX10_cut_271 : decode cX10_cut 271 = .ok (.istore_n 1, 1) := by decide +kernel
theorem dX10_cut_272 : decode cX10_cut 272 = .ok (.goto 19, 3) := by decide +kernel
theorem dX10_cut_275 : decode cX10_cut 275 = .ok (.iload_n 1, 1) := by decide +kernel
theorem dX10_cut_276 : decode cX10_cut 276 = .ok (.aload_n 0, 1) := by decide +kernel
theorem dX10_cut_277 : decode cX10_cut 277 = .ok (.iload_n 1, 1) := by decide +kernel
theorem dX10_cut_278 : decode cX10_cut 278 = .ok (.iload_n 2, 1) := by decide +kernel
theorem dX10_cut_279 : decode cX10_cut 279 = .ok (.aload_n 0, 1) := by decide +kernel
theorem dX10_cut_280 : decode cX10_cut 280 = .ok (.iload_n 1, 1) := by decide +kernel
theorem dX10_cut_281 : decode cX10_cut 281 = .ok (.iconst 1, 1) := by decide +kernel
theorem dX10_cut_282 : decode cX10_cut 282 = .ok (.iadd, 1) := by decide +kernel
theorem dX10_cut_283 : decode cX10_cut 283 = .ok (.invokevirtual 179, 3) := by decide +kernel
theorem dX10_cut_286 : decode cX10_cut 286 = .ok (.invokevirtual 194, 3) := by decide +kernel
theorem dX10_cut_289 : decode cX10_cut 289 = .ok (.iadd, 1) := by decide +kernel
theorem dX10_cut_290 : decode cX10_cut 290 = .ok (.istore_n 1, 1) := by decide +kernel
theorem dX10_cut_291 : decode cX10_cut 291 = .ok (.goto (-284), 3) := by decide +kernel
theorem dX10_cut_294 : decode cX10_cut 294 = .ok (.return_, 1) := by decide +kernel
theorem dX10_sign_0 : decode cX10_sign 0 = .ok (.iload_n 2, 1) := by decide +kernel
theorem dX10_sign_1 : decode cX10_sign 1 = .ok (.bipush 59, 2) := by decide +kernel
theorem dX10_sign_3 : decode cX10_sign 3 = .ok (.if_icmp .ne 7, 3) := by decide +kernel
theorem dX10_sign_6 : decode cX10_sign 6 = .ok (.iconst 4, 1) := by decide +kernel
theorem dX10_sign_7 : decode cX10_sign 7 = .ok (.goto 36, 3) := by decide +kernel
theorem dX10_sign_10 : decode cX10_sign 10 = .ok (.iload_n 2, 1) := by decide +kernel
theorem dX10_sign_11 : decode cX10_sign 11 = .ok (.bipush 61, 2) := by decide +kernel
theorem dX10_sign_13 : decode cX10_sign 13 = .ok (.if_icmp .ne 7, 3) := by decide +kernel
theorem dX10_sign_16 : decode cX10_sign 16 = .ok (.iconst 5, 1) := by decide +kernel
theorem dX10_sign_17 : decode cX10_sign 17 = .ok (.goto 26, 3) := by decide +kernel
theorem dX10_sign_20 : decode cX10_sign 20 = .ok (.iload_n 2, 1) := by decide +kernel
theorem dX10_sign_21 : decode cX10_sign 21 = .ok (.bipush 40, 2) := by decide +kernel
theorem dX10_sign_23 : decode cX10_sign 23 = .ok (.if_icmp .ne 8, 3) := by decide +kernel
theorem dX10_sign_26 : decode cX10_sign 26 = .ok (.bipush 6, 2) := by decide +kernel
theorem dX10_sign_28 : decode cX10_sign 28 = .ok (.goto 15, 3) := by decide +kernel
theorem dX10_sign_31 : decode cX10_sign 31 = .ok (.iload_n 2, 1) := by decide +kernel
theorem dX10_sign_32 : decode cX10_sign 32 = .ok (.bipush 41, 2) := by decide +kernel
theorem dX10_sign_34 : decode cX10_sign 34 = .ok (.if_icmp .ne 8, 3) := by decide +kernel
theorem dX10_sign_37 : decode cX10_sign 37 = .ok (.bipush 7, 2) := by decide +kernel
theorem dX10_sign_39 : decode cX10_sign 39 = .ok (.goto 4, 3) := by decide +kernel
theorem dX10_sign_42 : decode cX10_sign 42 = .ok (.iconst 3, 1) := by decide +kernel
theorem dX10_sign_43 : decode cX10_sign 43 = .ok (.istore 4, 2) := by decide +kernel
theorem dX10_sign_45 : decode cX10_sign 45 = .ok (.iload_n 2, 1) := by decide +kernel
theorem dX10_sign_46 : decode cX10_sign 46 = .ok (.bipush 43, 2) := by decide +kernel
theorem dX10_sign_48 : decode cX10_sign 48 = .ok (.if_icmp .ne 7, 3) := by decide +kernel
theorem dX10_sign_51 : decode cX10_sign 51 = .ok (.bipush 8, 2) := by decide +kernel
theorem dX10_sign_53 : decode cX10_sign 53 = .ok (.istore 4, 2) := by decide +kernel
theorem dX10_sign_55 : decode cX10_sign 55 = .ok (.iload_n 2, 1) := by decide +kernel
theorem dX10_sign_56 : decode cX10_sign 56 = .ok (.bipush 45, 2) := by decide +kernel
theorem dX10_sign_58 : decode cX10_sign 58 = .ok (.if_icmp .ne 7, 3) := by decide +kernel
theorem dX10_sign_61 : decode cX10_sign 61 = .ok (.bipush 9, 2) := by decide +kernel
theorem dX10_sign_63 : decode cX10_sign 63 = .ok (.istore 4, 2) := by decide +kernel
theorem dX10_sign_65 : decode cX10_sign 65 = .ok (.iload_n 2, 1) := by decide +kernel
theorem dX10_sign_66 : decode cX10_sign 66 = .ok (.bipush 42, 2) := by decide +kernel
theorem dX10_sign_68 : decode cX10_sign 68 = .ok (.if_icmp .ne 7, 3) := by decide +kernel
theorem dX10_sign_71 : decode cX10_sign 71 = .ok (.bipush 10, 2) := by decide +kernel
theorem dX10_sign_73 : decode cX10_sign 73 = .ok (.istore 4, 2) := by decide +kernel
theorem dX10_sign_75 : decode cX10_sign 75 = .ok (.iload_n 2, 1) := by decide +kernel
theorem dX10_sign_76 : decode cX10_sign 76 = .ok (.bipush 47, 2) := by decide +kernel
theorem dX10_sign_78 : decode cX10_sign 78 = .ok (.if_icmp .ne 7, 3) := by decide +kernel
theorem dX10_sign_81 : decode cX10_sign 81 = .ok (.bipush 15, 2) := by decide +kernel
theorem dX10_sign_83 : decode cX10_sign 83 = .ok (.istore 4, 2) := by decide +kernel
theorem dX10_sign_85 : decode cX10_sign 85 = .ok (.iload_n 2, 1) := by decide +kernel
theorem dX10_sign_86 : decode cX10_sign 86 = .ok (.bipush 60, 2) := by decide +kernel
theorem dX10_sign_88 : decode cX10_sign 88 = .ok (.if_icmp .ne 7, 3) := by decide +kernel
theorem dX10_sign_91 : decode cX10_sign 91 = .ok (.bipush 13, 2) := by decide +kernel
theorem dX10_sign_93 : decode cX10_sign 93 = .ok (.istore 4, 2) := by decide +kernel
theorem dX10_sign_95 : decode cX10_sign 95 = .ok (.aload_n 0, 1) := by decide +kernel
theorem dX10_sign_96 : decode cX10_sign 96 = .ok (.iload 4, 2) := by decide +kernel
theorem dX10_sign_98 : decode cX10_sign 98 = .ok (.iload_n 1, 1) := by decide +kernel
theorem dX10_sign_99 : decode cX10_sign 99 = .ok (.iconst 0, 1) := by decide +kernel
theorem dX10_sign_100 : decode cX10_sign 100 = .ok (.lconst 0, 1) := by decide +kernel
theorem dX10_sign_101 : decode cX10_sign 101 = .ok (.invokevirtual 183, 3) := by decide +kernel
theorem dX10_sign_104 : decode cX10_sign 104 = .ok (.iconst 1, 1) := by decide +kernel
theorem dX10_sign_105 : decode cX10_sign 105 = .ok (.ireturn, 1) := by decide +kernel
theorem dX10_is_0 : decode cX10_is 0 = .ok (.aload_n 0, 1) := by decide +kernel
theorem dX10_is_1 : decode cX10_is 1 = .ok (.getfield 198, 3) := by decide +kernel
theorem dX10_is_4 : decode cX10_is 4 = .ok (.ifCond .ne 20, 3) := by decide +kernel
theorem dX10_is_7 : decode cX10_is 7 = .ok (.aload_n 0, 1) := by decide +kernel
theorem dX10_is_8 : decode cX10_is 8 = .ok (.getfield 20, 3) := by decide +kernel
theorem dX10_is_11 : decode cX10_is 11 = .ok (.aload_n 0, 1) := by decide +kernel
theorem dX10_is_12 : decode cX10_is 12 = .ok (.getfield 201, 3) := by decide +kernel
theorem dX10_is_15 : decode cX10_is 15 = .ok (.iaload, 1) := by decide +kernel
theorem dX10_is_16 : decode cX10_is 16 = .ok (.iload_n 1, 1) := by decide +kernel
theorem dX10_is_17 : decode cX10_is 17 = .ok (.if_icmp .ne 7, 3) := by decide +kernel
theorem dX10_is_20 : decode cX10_is 20 = .ok (.iconst 1, 1) := by decide +kernel
theorem dX10_is_21 : decode cX10_is 21 = .ok (.goto 4, 3) := by decide +kernel
theorem dX10_is_24 : decode cX10_is 24 = .ok (.iconst 0, 1) := by decide +kernel
theorem dX10_is_25 : decode cX10_is 25 = .ok (.ireturn, 1) := by decide +kernel
theorem dX10_fail_0 : decode cX10_fail 0 = .ok (.aload_n 0, 1) := by decide +kernel
theorem dX10_fail_1 : decode cX10_fail 1 = .ok (.getfield 198, 3) := by decide +kernel
theorem dX10_fail_4 : decode cX10_fail 4 = .ok (.ifCond .le 4, 3) := by decide +kernel
theorem dX10_fail_7 : decode cX10_fail 7 = .ok (.return_, 1) := by decide +kernel
theorem dX10_fail_8 : decode cX10_fail 8 = .ok (.aload_n 0, 1) := by decide +kernel
theorem dX10_fail_9 : decode cX10_fail 9 = .ok (.iload_n 1, 1) := by decide +kernel
theorem dX10_fail_10 : decode cX10_fail 10 = .ok (.putfield 198, 3) := by decide +kernel
theorem dX10_fail_13 : decode cX10_fail 13 = .ok (.aload_n 0, 1) := by decide +kernel
theorem dX10_fail_14 : decode cX10_fail 14 = .ok (.aload_n 0, 1) := by decide +kernel
theorem dX10_fail_15 : decode cX10_fail 15 = .ok (.getfield 24, 3) := by decide +kernel
theorem dX10_fail_18 : decode cX10_fail 18 = .ok (.aload_n 0, 1) := by decide +kernel
theorem dX10_fail_19 : decode cX10_fail 19 = .ok (.getfield 201, 3) := by decide +kernel
theorem dX10_fail_22 : decode cX10_fail 22 = .ok (.iaload, 1) := by decide +kernel
theorem dX10_fail_23 : decode cX10_fail 23 = .ok (.putfield 204, 3) := by decide +kernel
theorem dX10_fail_26 : decode cX10_fail 26 = .ok (.return_, 1) := by decide +kernel
theorem dX10_wrong_0 : decode cX10_wrong 0 = .ok (.aload_n 0, 1) := by decide +kernel
theorem dX10_wrong_1 : decode cX10_wrong 1 = .ok (.getfield 24, 3) := by decide +kernel
theorem dX10_wrong_4 : decode cX10_wrong 4 = .ok (.iload_n 2, 1) := by decide +kernel
theorem dX10_wrong_5 : decode cX10_wrong 5 = .ok (.iaload, 1) := by decide +kernel
theorem dX10_wrong_6 : decode cX10_wrong 6 = .ok (.istore_n 3, 1) := by decide +kernel
theorem dX10_wrong_7 : decode cX10_wrong 7 = .ok (.aload_n 0, 1) := by decide +kernel
theorem dX10_wrong_8 : decode cX10_wrong 8 = .ok (.getfield 198, 3) := by decide +kernel
theorem dX10_wrong_11 : decode cX10_wrong 11 = .ok (.ifCond .gt 34, 3) := by decide +kernel
theorem dX10_wrong_14 : decode cX10_wrong 14 = .ok (.aload_n 0, 1) := by decide +kernel
theorem dX10_wrong_15 : decode cX10_wrong 15 = .ok (.getfield 207, 3) := by decide +kernel
theorem dX10_wrong_18 : decode cX10_wrong 18 = .ok (.ifCond .eq 28, 3) := by decide +kernel
theorem dX10_wrong_21 : decode cX10_wrong 21 = .ok (.iload_n 3, 1) := by decide +kernel
theorem dX10_wrong_22 : decode cX10_wrong 22 = .ok (.aload_n 0, 1) := by decide +kernel
theorem dX10_wrong_23 : decode cX10_wrong 23 = .ok (.getfield 210, 3) := by decide +kernel
theorem dX10_wrong_26 : decode cX10_wrong 26 = .ok (.if_icmp .gt 19, 3) := by decide +kernel
theorem dX10_wrong_29 : decode cX10_wrong 29 = .ok (.iload_n 3, 1) := by decide +kernel
theorem dX10_wrong_30 : decode cX10_wrong 30 = .ok (.aload_n 0, 1) := by decide +kernel
theorem dX10_wrong_31 : decode cX10_wrong 31 = .ok (.getfield 210, 3) := by decide +kernel
theorem dX10_wrong_34 : decode cX10_wrong 34 = .ok (.if_icmp .ne 12, 3) := by decide +kernel
theorem dX10_wrong_37 : decode cX10_wrong 37 = .ok (.iload_n 1, 1) := by decide +kernel
theorem dX10_wrong_38 : decode cX10_wrong 38 = .ok (.aload_n 0, 1) := by decide +kernel
theorem dX10_wrong_39 : decode cX10_wrong 39 = .ok (.getfield 207, 3) := by decide +kernel
theorem dX10_wrong_42 : decode cX10_wrong 42 = .ok (.if_icmp .lt 4, 3) := by decide +kernel
theorem dX10_wrong_45 : decode cX10_wrong 45 = .ok (.return_, 1) := by decide +kernel
theorem dX10_wrong_46 : decode cX10_wrong 46 = .ok (.aload_n 0, 1) := by decide +kernel
theorem dX10_wrong_47 : decode cX10_wrong 47 = .ok (.iload_n 1, 1) := by decide +kernel
theorem dX10_wrong_48 : decode cX10_wrong 48 = .ok (.putfield 207, 3) := by decide +kernel
theorem dX10_wrong_51 : decode cX10_wrong 51 = .ok (.aload_n 0, 1) := by decide +kernel
theorem dX10_wrong_52 : decode cX10_wrong 52 = .ok (.iload_n 3, 1) := by decide +kernel
theorem dX10_wrong_53 : decode cX10_wrong 53 = .ok (.putfield 210, 3) := by decide +kernel
theorem dX10_wrong_56 : decode cX10_wrong 56 = .ok (.return_, 1) := by decide +kernel
theorem dX10_goesOn_0 : decode cX10_goesOn 0 = .ok (.aload_n 0, 1) := by decide +kernel
theorem dX10_goesOn_1 : decode cX10_goesOn 1 = .ok (.getfield 201, 3) := by decide +kernel
theorem dX10_goesOn_4 : decode cX10_goesOn 4 = .ok (.sipush 400, 3) := by decide +kernel
theorem dX10_goesOn_7 : decode cX10_goesOn 7 = .ok (.if_icmp .ne 11, 3) := by decide +kernel
theorem dX10_goesOn_10 : decode cX10_goesOn 10 = .ok (.aload_n 0, 1) := by decide +kernel
theorem dX10_goesOn_11 : decode cX10_goesOn 11 = .ok (.iconst 2, 1) := by decide +kernel
theorem dX10_goesOn_12 : decode cX10_goesOn 12 = .ok (.invokevirtual 213, 3) := by decide +kernel
theorem dX10_goesOn_15 : decode cX10_goesOn 15 = .ok (.goto 13, 3) := by decide +kernel
theorem dX10_goesOn_18 : decode cX10_goesOn 18 = .ok (.aload_n 0, 1) := by decide +kernel
theorem dX10_goesOn_19 : decode cX10_goesOn 19 = .ok (.dup, 1) := by decide +kernel
theorem dX10_goesOn_20 : decode cX10_goesOn 20 = .ok (.getfield 201, 3) := by decide +kernel
theorem dX10_goesOn_23 : decode cX10_goesOn 23 = .ok (.iconst 1, 1) := by decide +kernel
theorem dX10_goesOn_24 : decode cX10_goesOn 24 = .ok (.iadd, 1) := by decide +kernel
theorem dX10_goesOn_25 : decode cX10_goesOn 25 = .ok (.putfield 201, 3) := by decide +kernel
theorem dX10_goesOn_28 : decode cX10_goesOn 28 = .ok (.return_, 1) := by decide +kernel
theorem dX10_must_0 : decode cX10_must 0 = .ok (.aload_n 0, 1) := by decide +kernel
theorem dX10_must_1 : decode cX10_must 1 = .ok (.iload_n 1, 1) := by decide +kernel
theorem dX10_must_2 : decode cX10_must 2 = .ok (.invokevirtual 216, 3) := by decide +kernel
theorem dX10_must_5 : decode cX10_must 5 = .ok (.ifCond .eq 10, 3) := by decide +kernel
theorem dX10_must_8 : decode cX10_must 8 = .ok (.aload_n 0, 1) := by decide +kernel
theorem dX10_must_9 : decode cX10_must 9 = .ok (.invokevirtual 219, 3) := by decide +kernel
theorem dX10_must_12 : decode cX10_must 12 = .ok (.goto 8, 3) := by decide +kernel
theorem dX10_must_15 : decode cX10_must 15 = .ok (.aload_n 0, 1) := by decide +kernel
theorem dX10_must_16 : decode cX10_must 16 = .ok (.iconst 1, 1) := by decide +kernel
theorem dX10_must_17 : decode cX10_must 17 = .ok (.invokevirtual 213, 3) := by decide +kernel
theorem dX10_must_20 : decode cX10_must 20 = .ok (.return_, 1) := by decide +kernel
theorem dX10_read_0 : decode cX10_read 0 = .ok (.aload_n 0, 1) := by decide +kernel
theorem dX10_read_1 : decode cX10_read 1 = .ok (.aload_n 0, 1) := by decide +kernel
theorem dX10_read_2 : decode cX10_read 2 = .ok (.getfield 160, 3) := by decide +kernel
theorem dX10_read_5 : decode cX10_read 5 = .ok (.putfield 167, 3) := by decide +kernel
theorem dX10_read_8 : decode cX10_read 8 = .ok (.iconst 0, 1) := by decide +kernel
theorem dX10_read_9 : decode cX10_read 9 = .ok (.istore_n 1, 1) := by decide +kernel
theorem dX10_read_10 : decode cX10_read 10 = .ok (.iload_n 1, 1) := by decide +kernel
theorem dX10_read_11 : decode cX10_read 11 = .ok (.aload_n 0, 1) := by decide +kernel
theorem dX10_read_12 : decode cX10_read 12 = .ok (.getfield 167, 3) := by decide +kernel
theorem dX10_read_15 : decode cX10_read 15 = .ok (.if_icmp .ge 21, 3) := by decide +kernel
theorem dX10_read_18 : decode cX10_read 18 = .ok (.aload_n 0, 1) := by decide +kernel
theorem dX10_read_19 : decode cX10_read 19 = .ok (.getfield 17, 3) := by decide +kernel
theorem dX10_read_22 : decode cX10_read 22 = .ok (.iload_n 1, 1) := by decide +kernel
theorem dX10_read_23 : decode cX10_read 23 = .ok (.aload_n 0, 1) := by decide +kernel
theorem dX10_read_24 : decode cX10_read 24 = .ok (.getfield 13, 3) := by decide +kernel
theorem dX10_read_27 : decode cX10_read 27 = .ok (.iload_n 1, 1) := by decide +kernel
theorem dX10_read_28 : decode cX10_read 28 = .ok (.baload, 1) := by decide +kernel
theorem dX10_read_29 : decode cX10_read 29 = .ok (.bastore, 1) := by decide +kernel
theorem dX10_read_30 : decode cX10_read 30 = .ok (.iinc 1 1, 3) := by decide +kernel
theorem dX10_read_33 : decode cX10_read 33 = .ok (.goto (-23), 3) := by decide +kernel
theorem dX10_read_36 : decode cX10_read 36 = .ok (.aload_n 0, 1) := by decide +kernel
theorem dX10_read_37 : decode cX10_read 37 = .ok (.iconst 0, 1) := by decide +kernel
theorem dX10_read_38 : decode cX10_read 38 = .ok (.putfield 160, 3) := by decide +kernel
theorem dX10_read_41 : decode cX10_read 41 = .ok (.aload_n 0, 1) := by decide +kernel
theorem dX10_read_42 : decode cX10_read 42 = .ok (.invokevirtual 222, 3) := by decide +kernel
theorem dX10_read_45 : decode cX10_read 45 = .ok (.aload_n 0, 1) := by decide +kernel
theorem dX10_read_46 : decode cX10_read 46 = .ok (.iconst 0, 1) := by decide +kernel
theorem dX10_read_47 : decode cX10_read 47 = .ok (.putfield 201, 3) := by decide +kernel
theorem dX10_read_50 : decode cX10_read 50 = .ok (.aload_n 0, 1) := by decide +kernel
theorem dX10_read_51 : decode cX10_read 51 = .ok (.iconst 0, 1) := by decide +kernel
theorem dX10_read_52 : decode cX10_read 52 = .ok (.putfield 225, 3) := by decide +kernel
theorem dX10_read_55 : decode cX10_read 55 = .ok (.aload_n 0, 1) := by decide +kernel
theorem dX10_read_56 : decode cX10_read 56 = .ok (.iconst 0, 1) := by decide +kernel
theorem dX10_read_57 : decode cX10_read 57 = .ok (.putfield 198, 3) := by decide +kernel
theorem dX10_read_60 : decode cX10_read 60 = .ok (.aload_n 0, 1) := by decide +kernel
theorem dX10_read_61 : decode cX10_read 61 = .ok (.iconst 0, 1) := by decide +kernel
theorem dX10_read_62 : decode cX10_read 62 = .ok (.putfield 207, 3) := by decide +kernel
theorem dX10_read_65 : decode cX10_read 65 = .ok (.aload_n 0, 1) := by decide +kernel
theorem dX10_read_66 : decode cX10_read 66 = .ok (.iconst 1, 1) := by decide +kernel
theorem dX10_read_67 : decode cX10_read 67 = .ok (.aload_n 0, 1) := by decide +kernel
theorem dX10_read_68 : decode cX10_read 68 = .ok (.getfield 228, 3) := by decide +kernel
theorem dX10_read_71 : decode cX10_read 71 = .ok (.isub, 1) := by decide +kernel
theorem dX10_read_72 : decode cX10_read 72 = .ok (.putfield 231, 3) := by decide +kernel
theorem dX10_read_75 : decode cX10_read 75 = .ok (.aload_n 0, 1) := by decide +kernel
theorem dX10_read_76 : decode cX10_read 76 = .ok (.iconst 0, 1) := by decide +kernel
theorem dX10_read_77 : decode cX10_read 77 = .ok (.putfield 234, 3) := by decide +kernel
theorem dX10_read_80 : decode cX10_read 80 = .ok (.aload_n 0, 1) := by decide +kernel
theorem dX10_read_81 : decode cX10_read 81 = .ok (.getfield 49, 3) := by decide +kernel
theorem dX10_read_84 : decode cX10_read 84 = .ok (.aload_n 0, 1) := by decide +kernel
theorem dX10_read_85 : decode cX10_read 85 = .ok (.getfield 231, 3) := by decide +kernel
theorem dX10_read_88 : decode cX10_read 88 = .ok (.iconst 0, 1) := by decide +kernel
theorem dX10_read_89 : decode cX10_read 89 = .ok (.iastore, 1) := by decide +kernel
theorem dX10_read_90 : decode cX10_read 90 = .ok (.aload_n 0, 1) := by decide +kernel
theorem dX10_read_91 : decode cX10_read 91 = .ok (.getfield 55, 3) := by decide +kernel
theorem dX10_read_94 : decode cX10_read 94 = .ok (.aload_n 0, 1) := by decide +kernel
theorem dX10_read_95 : decode cX10_read 95 = .ok (.getfield 231, 3) := by decide +kernel
theorem dX10_read_98 : decode cX10_read 98 = .ok (.iconst 0, 1) := by decide +kernel
theorem dX10_read_99 : decode cX10_read 99 = .ok (.iastore, 1) := by decide +kernel
theorem dX10_read_100 : decode cX10_read 100 = .ok (.aload_n 0, 1) := by decide +kernel
theorem dX10_read_101 : decode cX10_read 101 = .ok (.getfield 61, 3) := by decide +kernel
theorem dX10_read_104 : decode cX10_read 104 = .ok (.aload_n 0, 1) := by decide +kernel
theorem dX10_read_105 : decode cX10_read 105 = .ok (.getfield 231, 3) := by decide +kernel
theorem dX10_read_108 : decode cX10_read 108 = .ok (.iconst 0, 1) := by decide +kernel
theorem dX10_read_109 : decode cX10_read 109 = .ok (.iastore, 1) := by decide +kernel
theorem dX10_read_110 : decode cX10_read 110 = .ok (.aload_n 0, 1) := by decide +kernel
theorem dX10_read_111 : decode cX10_read 111 = .ok (.getfield 67, 3) := by decide +kernel
theorem dX10_read_114 : decode cX10_read 114 = .ok (.aload_n 0, 1) := by decide +kernel
theorem dX10_read_115 : decode cX10_read 115 = .ok (.getfield 231, 3) := by decide +kernel
theorem dX10_read_118 : decode cX10_read 118 = .ok (.iconst 0, 1) := by decide +kernel
theorem dX10_read_119 : decode cX10_read 119 = .ok (.iastore, 1) := by decide +kernel
theorem dX10_read_120 : decode cX10_read 120 = .ok (.aload_n 0, 1) := by decide +kernel
theorem dX10_read_121 : decode cX10_read 121 = .ok (.sipush 130, 3) := by decide +kernel
theorem dX10_read_124 : decode cX10_read 124 = .ok (.aload_n 0, 1) := by decide +kernel
theorem dX10_read_125 : decode cX10_read 125 = .ok (.getfield 231, 3) := by decide +kernel
theorem dX10_read_128 : decode cX10_read 128 = .ok (.imul, 1) := by decide +kernel
theorem dX10_read_129 : decode cX10_read 129 = .ok (.putfield 237, 3) := by decide +kernel
theorem dX10_read_132 : decode cX10_read 132 = .ok (.aload_n 0, 1) := by decide +kernel
theorem dX10_read_133 : decode cX10_read 133 = .ok (.sipush 420, 3) := by decide +kernel
theorem dX10_read_136 : decode cX10_read 136 = .ok (.aload_n 0, 1) := by decide +kernel
theorem dX10_read_137 : decode cX10_read 137 = .ok (.getfield 231, 3) := by decide +kernel
theorem dX10_read_140 : decode cX10_read 140 = .ok (.imul, 1) := by decide +kernel
theorem dX10_read_141 : decode cX10_read 141 = .ok (.putfield 240, 3) := by decide +kernel
theorem dX10_read_144 : decode cX10_read 144 = .ok (.iconst 0, 1) := by decide +kernel
theorem dX10_read_145 : decode cX10_read 145 = .ok (.istore_n 1, 1) := by decide +kernel
theorem dX10_read_146 : decode cX10_read 146 = .ok (.iload_n 1, 1) := by decide +kernel
theorem dX10_read_147 : decode cX10_read 147 = .ok (.bipush 20, 2) := by decide +kernel
theorem dX10_read_149 : decode cX10_read 149 = .ok (.if_icmp .ge 39, 3) := by decide +kernel
theorem dX10_read_152 : decode cX10_read 152 = .ok (.aload_n 0, 1) := by decide +kernel
theorem dX10_read_153 : decode cX10_read 153 = .ok (.getfield 70, 3) := by decide +kernel
theorem dX10_read_156 : decode cX10_read 156 = .ok (.bipush 20, 2) := by decide +kernel
theorem dX10_read_158 : decode cX10_read 158 = .ok (.aload_n 0, 1) := by decide +kernel
theorem dX10_read_159 : decode cX10_read 159 = .ok (.getfield 231, 3) := by decide +kernel
theorem dX10_read_162 : decode cX10_read 162 = .ok (.imul, 1) := by decide +kernel
theorem dX10_read_163 : decode cX10_read 163 = .ok (.iload_n 1, 1) := by decide +kernel
theorem dX10_read_164 : decode cX10_read 164 = .ok (.iadd, 1) := by decide +kernel
theorem dX10_read_165 : decode cX10_read 165 = .ok (.iconst 0, 1) := by decide +kernel
theorem dX10_read_166 : decode cX10_read 166 = .ok (.iastore, 1) := by decide +kernel
theorem dX10_read_167 : decode cX10_read 167 = .ok (.aload_n 0, 1) := by decide +kernel
theorem dX10_read_168 : decode cX10_read 168 = .ok (.getfield 73, 3) := by decide +kernel
theorem dX10_read_171 : decode cX10_read 171 = .ok (.bipush 20, 2) := by decide +kernel
theorem dX10_read_173 : decode cX10_read 173 = .ok (.aload_n 0, 1) := by decide +kernel
theorem dX10_read_174 : decode cX10_read 174 = .ok (.getfield 231, 3) := by decide +kernel
theorem dX10_read_177 : decode cX10_read 177 = .ok (.imul, 1) := by decide +kernel
theorem dX10_read_178 : decode cX10_read 178 = .ok (.iload_n 1, 1) := by decide +kernel
theorem dX10_read_179 : decode cX10_read 179 = .ok (.iadd, 1) := by decide +kernel
theorem dX10_read_180 : decode cX10_read 180 = .ok (.iconst 0, 1) := by decide +kernel
theorem dX10_read_181 : decode cX10_read 181 = .ok (.iastore, 1) := by decide +kernel
theorem dX10_read_182 : decode cX10_read 182 = .ok (.iinc 1 1, 3) := by decide +kernel
theorem dX10_read_185 : decode cX10_read 185 = .ok (.goto (-39), 3) := by decide +kernel
theorem dX10_read_188 : decode cX10_read 188 = .ok (.aload_n 0, 1) := by decide +kernel
theorem dX10_read_189 : decode cX10_read 189 = .ok (.getfield 198, 3) := by decide +kernel
theorem dX10_read_192 : decode cX10_read 192 = .ok (.ifCond .ne 18, 3) := by decide +kernel
theorem dX10_read_195 : decode cX10_read 195 = .ok (.aload_n 0, 1) := by decide +kernel
theorem dX10_read_196 : decode cX10_read 196 = .ok (.iconst 0, 1) := by decide +kernel
theorem dX10_read_197 : decode cX10_read 197 = .ok (.invokevirtual 216, 3) := by decide +kernel
theorem dX10_read_200 : decode cX10_read 200 = .ok (.ifCond .ne 10, 3) := by decide +kernel
theorem dX10_read_203 : decode cX10_read 203 = .ok (.aload_n 0, 1) := by decide +kernel
theorem dX10_read_204 : decode cX10_read 204 = .ok (.invokevirtual 243, 3) := by decide +kernel
theorem dX10_read_207 : decode cX10_read 207 = .ok (.goto (-19), 3) := by decide +kernel
theorem dX10_read_210 : decode cX10_read 210 = .ok (.aload_n 0, 1) := by decide +kernel
theorem dX10_read_211 : decode cX10_read 211 = .ok (.aload_n 0, 1) := by decide +kernel
theorem dX10_read_212 : decode cX10_read 212 = .ok (.getfield 198, 3) := by decide +kernel
theorem dX10_read_215 : decode cX10_read 215 = .ok (.ifCond .le 10, 3) := by decide +kernel
theorem dX10_read_218 : decode cX10_read 218 = .ok (.aload_n 0, 1) := by decide +kernel
theorem dX10_read_219 : decode cX10_read 219 = .ok (.getfield 204, 3) := by decide +kernel
theorem dX10_read_222 : decode cX10_read 222 = .ok (.goto 18, 3) := by decide +kernel
theorem dX10_read_225 : decode cX10_read 225 = .ok (.aload_n 0, 1) := by decide +kernel
theorem dX10_read_226 : decode cX10_read 226 = .ok (.getfield 207, 3) := by decide +kernel
theorem dX10_read_229 : decode cX10_read 229 = .ok (.ifCond .le 10, 3) := by decide +kernel
theorem dX10_read_232 : decode cX10_read 232 = .ok (.aload_n 0, 1) := by decide +kernel
theorem dX10_read_233 : decode cX10_read 233 = .ok (.getfield 210, 3) := by decide +kernel
theorem dX10_read_236 : decode cX10_read 236 = .ok (.goto 4, 3) := by decide +kernel
theorem dX10_read_239 : decode cX10_read 239 = .ok (.iconst (-1), 1) := by decide +kernel
theorem dX10_read_240 : decode cX10_read 240 = .ok (.putfield 37, 3) := by decide +kernel
theorem dX10_read_243 : decode cX10_read 243 = .ok (.aload_n 0, 1) := by decide +kernel
theorem dX10_read_244 : decode cX10_read 244 = .ok (.getfield 198, 3) := by decide +kernel
theorem dX10_read_247 : decode cX10_read 247 = .ok (.ifCond .le 8, 3) := by decide +kernel
theorem dX10_read_250 : decode cX10_read 250 = .ok (.aload_n 0, 1) := by decide +kernel
theorem dX10_read_251 : decode cX10_read 251 = .ok (.getfield 198, 3) := by decide +kernel
theorem dX10_read_254 : decode cX10_read 254 = .ok (.ireturn, 1) := by decide +kernel
theorem dX10_read_255 : decode cX10_read 255 = .ok (.aload_n 0, 1) := by decide +kernel
theorem dX10_read_256 : decode cX10_read 256 = .ok (.getfield 207, 3) := by decide +kernel
theorem dX10_read_259 : decode cX10_read 259 = .ok (.ifCond .le 8, 3) := by decide +kernel
theorem dX10_read_262 : decode cX10_read 262 = .ok (.aload_n 0, 1) := by decide +kernel
theorem dX10_read_263 : decode cX10_read 263 = .ok (.getfield 207, 3) := by decide +kernel
theorem dX10_read_266 : decode cX10_read 266 = .ok (.ireturn, 1) := by decide +kernel
theorem dX10_read_267 : decode cX10_read 267 = .ok (.aload_n 0, 1) := by decide +kernel
theorem dX10_read_268 : decode cX10_read 268 = .ok (.aload_n 0, 1) := by decide +kernel
theorem dX10_read_269 : decode cX10_read 269 = .ok (.getfield 231, 3) := by decide +kernel
theorem dX10_read_272 : decode cX10_read 272 = .ok (.putfield 228, 3) := by decide +kernel
theorem dX10_read_275 : decode cX10_read 275 = .ok (.iconst 0, 1) := by decide +kernel
theorem dX10_read_276 : decode cX10_read 276 = .ok (.istore_n 1, 1) := by decide +kernel
theorem dX10_read_277 : decode cX10_read 277 = .ok (.iload_n 1, 1) := by decide +kernel
theorem dX10_read_278 : decode cX10_read 278 = .ok (.sipush 1720, 3) := by decide +kernel
theorem dX10_read_281 : decode cX10_read 281 = .ok (.if_icmp .ge 16, 3) := by decide +kernel
theorem dX10_read_284 : decode cX10_read 284 = .ok (.aload_n 0, 1) := by decide +kernel
theorem dX10_read_285 : decode cX10_read 285 = .ok (.getfield 107, 3) := by decide +kernel
theorem dX10_read_288 : decode cX10_read 288 = .ok (.iload_n 1, 1) := by decide +kernel
theorem dX10_read_289 : decode cX10_read 289 = .ok (.iconst 0, 1) := by decide +kernel
theorem dX10_read_290 : decode cX10_read 290 = .ok (.iastore, 1) := by decide +kernel
theorem dX10_read_291 : decode cX10_read 291 = .ok (.iinc 1 1, 3) := by decide +kernel
theorem dX10_read_294 : decode cX10_read 294 = .ok (.goto (-17), 3) := by decide +kernel
theorem dX10_read_297 : decode cX10_read 297 = .ok (.iconst 0, 1) := by decide +kernel
theorem dX10_read_298 : decode cX10_read 298 = .ok (.istore_n 1, 1) := by decide +kernel
theorem dX10_read_299 : decode cX10_read 299 = .ok (.iload_n 1, 1) := by decide +kernel
theorem dX10_read_300 : decode cX10_read 300 = .ok (.aload_n 0, 1) := by decide +kernel
theorem dX10_read_301 : decode cX10_read 301 = .ok (.getfield 49, 3) := by decide +kernel
theorem dX10_read_304 : decode cX10_read 304 = .ok (.aload_n 0, 1) := by decide +kernel
theorem dX10_read_305 : decode cX10_read 305 = .ok (.getfield 228, 3) := by decide +kernel
theorem dX10_read_308 : decode cX10_read 308 = .ok (.iaload, 1) := by decide +kernel
theorem dX10_read_309 : decode cX10_read 309 = .ok (.if_icmp .ge 32, 3) := by decide +kernel
theorem dX10_read_312 : decode cX10_read 312 = .ok (.aload_n 0, 1) := by decide +kernel
theorem dX10_read_313 : decode cX10_read 313 = .ok (.getfield 107, 3) := by decide +kernel
theorem dX10_read_316 : decode cX10_read 316 = .ok (.bipush 9, 2) := by decide +kernel
theorem dX10_read_318 : decode cX10_read 318 = .ok (.iload_n 1, 1) := by decide +kernel
theorem dX10_read_319 : decode cX10_read 319 = .ok (.imul, 1) := by decide +kernel
theorem dX10_read_320 : decode cX10_read 320 = .ok (.aload_n 0, 1) := by decide +kernel
theorem dX10_read_321 : decode cX10_read 321 = .ok (.getfield 52, 3) := by decide +kernel
theorem dX10_read_324 : decode cX10_read 324 = .ok (.bipush 8, 2) := by decide +kernel
theorem dX10_read_326 : decode cX10_read 326 = .ok (.aload_n 0, 1) := by decide +kernel
theorem dX10_read_327 : decode cX10_read 327 = .ok (.getfield 228, 3) := by decide +kernel
theorem dX10_read_330 : decode cX10_read 330 = .ok (.imul, 1) := by decide +kernel
theorem dX10_read_331 : decode cX10_read 331 = .ok (.iload_n 1, 1) := by decide +kernel
theorem dX10_read_332 : decode cX10_read 332 = .ok (.iadd, 1) := by decide +kernel
theorem dX10_read_333 : decode cX10_read 333 = .ok (.iaload, 1) := by decide +kernel
theorem dX10_read_334 : decode cX10_read 334 = .ok (.iastore, 1) := by decide +kernel
theorem dX10_read_335 : decode cX10_read 335 = .ok (.iinc 1 1, 3) := by decide +kernel
theorem dX10_read_338 : decode cX10_read 338 = .ok (.goto (-39), 3) := by decide +kernel
theorem dX10_read_341 : decode cX10_read 341 = .ok (.aload_n 0, 1) := by decide +kernel
theorem dX10_read_342 : decode cX10_read 342 = .ok (.iconst 0, 1) := by decide +kernel
theorem dX10_read_343 : decode cX10_read 343 = .ok (.putfield 246, 3) := by decide +kernel
theorem dX10_read_346 : decode cX10_read 346 = .ok (.aload_n 0, 1) := by decide +kernel
theorem dX10_read_347 : decode cX10_read 347 = .ok (.iconst 0, 1) := by decide +kernel
theorem dX10_read_348 : decode cX10_read 348 = .ok (.putfield 249, 3) := by decide +kernel
theorem dX10_read_351 : decode cX10_read 351 = .ok (.iconst 0, 1) := by decide +kernel
theorem dX10_read_352 : decode cX10_read 352 = .ok (.istore_n 1, 1) := by decide +kernel
theorem dX10_read_353 : decode cX10_read 353 = .ok (.iload_n 1, 1) := by decide +kernel
theorem dX10_read_354 : decode cX10_read 354 = .ok (.iconst 3, 1) := by decide +kernel
theorem dX10_read_355 : decode cX10_read 355 = .ok (.if_icmp .ge 16, 3) := by decide +kernel
theorem dX10_read_358 : decode cX10_read 358 = .ok (.aload_n 0, 1) := by decide +kernel
theorem dX10_read_359 : decode cX10_read 359 = .ok (.getfield 150, 3) := by decide +kernel
theorem dX10_read_362 : decode cX10_read 362 = .ok (.iload_n 1, 1) := by decide +kernel
theorem dX10_read_363 : decode cX10_read 363 = .ok (.iconst 0, 1) := by decide +kernel
theorem dX10_read_364 : decode cX10_read 364 = .ok (.bastore, 1) := by decide +kernel
theorem dX10_read_365 : decode cX10_read 365 = .ok (.iinc 1 1, 3) := by decide +kernel
theorem dX10_read_368 : decode cX10_read 368 = .ok (.goto (-15), 3) := by decide +kernel
theorem dX10_read_371 : decode cX10_read 371 = .ok (.iconst 0, 1) := by decide +kernel
theorem dX10_read_372 : decode cX10_read 372 = .ok (.ireturn, 1) := by decide +kernel
theorem dX10_place_0 : decode cX10_place 0 = .ok (.aload_n 0, 1) := by decide +kernel
theorem dX10_place_1 : decode cX10_place 1 = .ok (.getfield 37, 3) := by decide +kernel
theorem dX10_place_4 : decode cX10_place 4 = .ok (.ireturn, 1) := by decide +kernel
theorem dX10_roomFor_0 : decode cX10_roomFor 0 = .ok (.iload_n 1, 1) := by decide +kernel
theorem dX10_roomFor_1 : decode cX10_roomFor 1 = .ok (.iload_n 2, 1) := by decide +kernel
theorem dX10_roomFor_2 : decode cX10_roomFor 2 = .ok (.if_icmp .ne 8, 3) := by decide +kernel
theorem dX10_roomFor_5 : decode cX10_roomFor 5 = .ok (.aload_n 0, 1) := by decide +kernel
theorem dX10_roomFor_6 : decode cX10_roomFor 6 = .ok (.iconst 2, 1) := by decide +kernel
theorem dX10_roomFor_7 : decode cX10_roomFor 7 = .ok (.invokevirtual 213, 3) := by decide +kernel
theorem dX10_roomFor_10 : decode cX10_roomFor 10 = .ok (.aload_n 0, 1) := by decide +kernel
theorem dX10_roomFor_11 : decode cX10_roomFor 11 = .ok (.getfield 198, 3) := by decide +kernel
theorem dX10_roomFor_14 : decode cX10_roomFor 14 = .ok (.ifCond .ne 7, 3) := by decide +kernel
theorem dX10_roomFor_17 : decode cX10_roomFor 17 = .ok (.aload_n 0, 1) := by decide +kernel
theorem dX10_roomFor_18 : decode cX10_roomFor 18 = .ok (.invokevirtual 219, 3) := by decide +kernel
theorem dX10_roomFor_21 : decode cX10_roomFor 21 = .ok (.return_, 1) := by decide +kernel
theorem dX10_tell_0 : decode cX10_tell 0 = .ok (.aload_n 0, 1) := by decide +kernel
theorem dX10_tell_1 : decode cX10_tell 1 = .ok (.getfield 20, 3) := by decide +kernel
theorem dX10_tell_4 : decode cX10_tell 4 = .ok (.aload_n 0, 1) := by decide +kernel
theorem dX10_tell_5 : decode cX10_tell 5 = .ok (.getfield 201, 3) := by decide +kernel
theorem dX10_tell_8 : decode cX10_tell 8 = .ok (.iaload, 1) := by decide +kernel
theorem dX10_tell_9 : decode cX10_tell 9 = .ok (.tableswitch 217 20 27 #[47, 76, 105, 150, 150, 121, 178, 189], 47) := by decide +kernel
theorem dX10_tell_56 : decode cX10_tell 56 = .ok (.aload_n 0, 1) := by decide +kernel
theorem dX10_tell_57 : decode cX10_tell 57 = .ok (.aload_n 0, 1) := by decide +kernel
theorem dX10_tell_58 : decode cX10_tell 58 = .ok (.getfield 49, 3) := by decide +kernel
theorem dX10_tell_61 : decode cX10_tell 61 = .ok (.aload_n 0, 1) := by decide +kernel
theorem dX10_tell_62 : decode cX10_tell 62 = .ok (.getfield 231, 3) := by decide +kernel
theorem dX10_tell_65 : decode cX10_tell 65 = .ok (.iaload, 1) := by decide +kernel
theorem dX10_tell_66 : decode cX10_tell 66 = .ok (.bipush 8, 2) := by decide +kernel
theorem dX10_tell_68 : decode cX10_tell 68 = .ok (.invokevirtual 252, 3) := by decide +kernel
theorem dX10_tell_71 : decode cX10_tell 71 = .ok (.aload_n 0, 1) := by decide +kernel
theorem dX10_tell_72 : decode cX10_tell 72 = .ok (.getfield 198, 3) := by decide +kernel
theorem dX10_tell_75 : decode cX10_tell 75 = .ok (.ifCond .ne 156, 3) := by decide +kernel
theorem dX10_tell_78 : decode cX10_tell 78 = .ok (.aload_n 0, 1) := by decide +kernel
theorem dX10_tell_79 : decode cX10_tell 79 = .ok (.invokevirtual 256, 3) := by decide +kernel
theorem dX10_tell_82 : decode cX10_tell 82 = .ok (.goto 149, 3) := by decide +kernel
theorem dX10_tell_85 : decode cX10_tell 85 = .ok (.aload_n 0, 1) := by decide +kernel
theorem dX10_tell_86 : decode cX10_tell 86 = .ok (.aload_n 0, 1) := by decide +kernel
theorem dX10_tell_87 : decode cX10_tell 87 = .ok (.getfield 55, 3) := by decide +kernel
theorem dX10_tell_90 : decode cX10_tell 90 = .ok (.aload_n 0, 1) := by decide +kernel
theorem dX10_tell_91 : decode cX10_tell 91 = .ok (.getfield 231, 3) := by decide +kernel
theorem dX10_tell_94 : decode cX10_tell 94 = .ok (.iaload, 1) := by decide +kernel
theorem dX10_tell_95 : decode cX10_tell 95 = .ok (.bipush 8, 2) := by decide +kernel
theorem dX10_tell_97 : decode cX10_tell 97 = .ok (.invokevirtual 252, 3) := by decide +kernel
theorem dX10_tell_100 : decode cX10_tell 100 = .ok (.aload_n 0, 1) := by decide +kernel
theorem dX10_tell_101 : decode cX10_tell 101 = .ok (.getfield 198, 3) := by decide +kernel
theorem dX10_tell_104 : decode cX10_tell 104 = .ok (.ifCond .ne 127, 3) := by decide +kernel
theorem dX10_tell_107 : decode cX10_tell 107 = .ok (.aload_n 0, 1) := by decide +kernel
theorem dX10_tell_108 : decode cX10_tell 108 = .ok (.invokevirtual 259, 3) := by decide +kernel
theorem dX10_tell_111 : decode cX10_tell 111 = .ok (.goto 120, 3) := by decide +kernel
theorem dX10_tell_114 : decode cX10_tell 114 = .ok (.aload_n 0, 1) := by decide +kernel
theorem dX10_tell_115 : decode cX10_tell 115 = .ok (.invokevirtual 219, 3) := by decide +kernel
theorem dX10_tell_118 : decode cX10_tell 118 = .ok (.aload_n 0, 1) := by decide +kernel
theorem dX10_tell_119 : decode cX10_tell 119 = .ok (.aload_n 0, 1) := by decide +kernel
theorem dX10_tell_120 : decode cX10_tell 120 = .ok (.iconst 1, 1) := by decide +kernel
theorem dX10_tell_121 : decode cX10_tell 121 = .ok (.invokevirtual 262, 3) := by decide +kernel
theorem dX10_tell_124 : decode cX10_tell 124 = .ok (.invokevirtual 265, 3) := by decide +kernel
theorem dX10_tell_127 : decode cX10_tell 127 = .ok (.goto 104, 3) := by decide +kernel
theorem dX10_tell_130 : decode cX10_tell 130 = .ok (.aload_n 0, 1) := by decide +kernel
theorem dX10_tell_131 : decode cX10_tell 131 = .ok (.invokevirtual 219, 3) := by decide +kernel
theorem dX10_tell_134 : decode cX10_tell 134 = .ok (.aload_n 0, 1) := by decide +kernel
theorem dX10_tell_135 : decode cX10_tell 135 = .ok (.iconst 0, 1) := by decide +kernel
theorem dX10_tell_136 : decode cX10_tell 136 = .ok (.invokevirtual 262, 3) := by decide +kernel
theorem dX10_tell_139 : decode cX10_tell 139 = .ok (.istore_n 1, 1) := by decide +kernel
theorem dX10_tell_140 : decode cX10_tell 140 = .ok (.aload_n 0, 1) := by decide +kernel
theorem dX10_tell_141 : decode cX10_tell 141 = .ok (.iload_n 1, 1) := by decide +kernel
theorem dX10_tell_142 : decode cX10_tell 142 = .ok (.ifCond .ge 7, 3) := by decide +kernel
theorem dX10_tell_145 : decode cX10_tell 145 = .ok (.iconst (-1), 1) := by decide +kernel
theorem dX10_tell_146 : decode cX10_tell 146 = .ok (.goto 7, 3) := by decide +kernel
theorem dX10_tell_149 : decode cX10_tell 149 = .ok (.bipush 8, 2) := by decide +kernel
theorem dX10_tell_151 : decode cX10_tell 151 = .ok (.iload_n 1, 1) := by decide +kernel
theorem dX10_tell_152 : decode cX10_tell 152 = .ok (.iadd, 1) := by decide +kernel
theorem dX10_tell_153 : decode cX10_tell 153 = .ok (.invokevirtual 265, 3) := by decide +kernel
theorem dX10_tell_156 : decode cX10_tell 156 = .ok (.goto 75, 3) := by decide +kernel
theorem dX10_tell_159 : decode cX10_tell 159 = .ok (.bipush 16, 2) := by decide +kernel
theorem dX10_tell_161 : decode cX10_tell 161 = .ok (.aload_n 0, 1) := by decide +kernel
theorem dX10_tell_162 : decode cX10_tell 162 = .ok (.getfield 20, 3) := by decide +kernel
theorem dX10_tell_165 : decode cX10_tell 165 = .ok (.aload_n 0, 1) := by decide +kernel
theorem dX10_tell_166 : decode cX10_tell 166 = .ok (.getfield 201, 3) := by decide +kernel
theorem dX10_tell_169 : decode cX10_tell 169 = .ok (.iaload, 1) := by decide +kernel
theorem dX10_tell_170 : decode cX10_tell 170 = .ok (.iadd, 1) := by decide +kernel
theorem dX10_tell_171 : decode cX10_tell 171 = .ok (.bipush 23, 2) := by decide +kernel
theorem dX10_tell_173 : decode cX10_tell 173 = .ok (.isub, 1) := by decide +kernel
theorem dX10_tell_174 : decode cX10_tell 174 = .ok (.istore_n 1, 1) := by decide +kernel
theorem dX10_tell_175 : decode cX10_tell 175 = .ok (.aload_n 0, 1) := by decide +kernel
theorem dX10_tell_176 : decode cX10_tell 176 = .ok (.invokevirtual 219, 3) := by decide +kernel
theorem dX10_tell_179 : decode cX10_tell 179 = .ok (.aload_n 0, 1) := by decide +kernel
theorem dX10_tell_180 : decode cX10_tell 180 = .ok (.iload_n 1, 1) := by decide +kernel
theorem dX10_tell_181 : decode cX10_tell 181 = .ok (.invokevirtual 265, 3) := by decide +kernel
theorem dX10_tell_184 : decode cX10_tell 184 = .ok (.goto 47, 3) := by decide +kernel
theorem dX10_tell_187 : decode cX10_tell 187 = .ok (.aload_n 0, 1) := by decide +kernel
theorem dX10_tell_188 : decode cX10_tell 188 = .ok (.invokevirtual 219, 3) := by decide +kernel
theorem dX10_tell_191 : decode cX10_tell 191 = .ok (.aload_n 0, 1) := by decide +kernel
theorem dX10_tell_192 : decode cX10_tell 192 = .ok (.invokevirtual 268, 3) := by decide +kernel
theorem dX10_tell_195 : decode cX10_tell 195 = .ok (.goto 36, 3) := by decide +kernel
theorem dX10_tell_198 : decode cX10_tell 198 = .ok (.aload_n 0, 1) := by decide +kernel
theorem dX10_tell_199 : decode cX10_tell 199 = .ok (.invokevirtual 219, 3) := by decide +kernel
theorem dX10_tell_202 : decode cX10_tell 202 = .ok (.aload_n 0, 1) := by decide +kernel
theorem dX10_tell_203 : decode cX10_tell 203 = .ok (.getfield 67, 3) := by decide +kernel
theorem dX10_tell_206 : decode cX10_tell 206 = .ok (.aload_n 0, 1) := by decide +kernel
theorem dX10_tell_207 : decode cX10_tell 207 = .ok (.getfield 231, 3) := by decide +kernel
theorem dX10_tell_210 : decode cX10_tell 210 = .ok (.aload_n 0, 1) := by decide +kernel
theorem dX10_tell_211 : decode cX10_tell 211 = .ok (.iconst 1, 1) := by decide +kernel
theorem dX10_tell_212 : decode cX10_tell 212 = .ok (.bipush 99, 2) := by decide +kernel
theorem dX10_tell_214 : decode cX10_tell 214 = .ok (.invokevirtual 271, 3) := by decide +kernel
theorem dX10_tell_217 : decode cX10_tell 217 = .ok (.iastore, 1) := by decide +kernel
theorem dX10_tell_218 : decode cX10_tell 218 = .ok (.aload_n 0, 1) := by decide +kernel
theorem dX10_tell_219 : decode cX10_tell 219 = .ok (.iconst 4, 1) := by decide +kernel
theorem dX10_tell_220 : decode cX10_tell 220 = .ok (.invokevirtual 275, 3) := by decide +kernel
theorem dX10_tell_223 : decode cX10_tell 223 = .ok (.goto 8, 3) := by decide +kernel
theorem dX10_tell_226 : decode cX10_tell 226 = .ok (.aload_n 0, 1) := by decide +kernel
theorem dX10_tell_227 : decode cX10_tell 227 = .ok (.iconst 1, 1) := by decide +kernel
theorem dX10_tell_228 : decode cX10_tell 228 = .ok (.invokevirtual 213, 3) := by decide +kernel
theorem dX10_tell_231 : decode cX10_tell 231 = .ok (.return_, 1) := by decide +kernel
theorem dX10_named_0 : decode cX10_named 0 = .ok (.aload_n 0, 1) := by decide +kernel
theorem dX10_named_1 : decode cX10_named 1 = .ok (.getfield 201, 3) := by decide +kernel
theorem dX10_named_4 : decode cX10_named 4 = .ok (.istore_n 1, 1) := by decide +kernel
theorem dX10_named_5 : decode cX10_named 5 = .ok (.aload_n 0, 1) := by decide +kernel
theorem dX10_named_6 : decode cX10_named 6 = .ok (.iconst 1, 1) := by decide +kernel
theorem dX10_named_7 : decode cX10_named 7 = .ok (.invokevirtual 275, 3) := by decide +kernel
theorem dX10_named_10 : decode cX10_named 10 = .ok (.iconst 0, 1) := by decide +kernel
theorem dX10_named_11 : decode cX10_named 11 = .ok (.istore_n 2, 1) := by decide +kernel
theorem dX10_named_12 : decode cX10_named 12 = .ok (.iload_n 2, 1) := by decide +kernel
theorem dX10_named_13 : decode cX10_named 13 = .ok (.aload_n 0, 1) := by decide +kernel
theorem dX10_named_14 : decode cX10_named 14 = .ok (.getfield 234, 3) := by decide +kernel
theorem dX10_named_17 : decode cX10_named 17 = .ok (.if_icmp .ge 38, 3) := by decide +kernel
theorem dX10_named_20 : decode cX10_named 20 = .ok (.aload_n 0, 1) := by decide +kernel
theorem dX10_named_21 : decode cX10_named 21 = .ok (.getfield 198, 3) := by decide +kernel
theorem dX10_named_24 : decode cX10_named 24 = .ok (.ifCond .ne 31, 3) := by decide +kernel
theorem dX10_named_27 : decode cX10_named 27 = .ok (.aload_n 0, 1) := by decide +kernel
theorem dX10_named_28 : decode cX10_named 28 = .ok (.getfield 40, 3) := by decide +kernel
theorem dX10_named_31 : decode cX10_named 31 = .ok (.iload_n 2, 1) := by decide +kernel
theorem dX10_named_32 : decode cX10_named 32 = .ok (.laload, 1) := by decide +kernel
theorem dX10_named_33 : decode cX10_named 33 = .ok (.aload_n 0, 1) := by decide +kernel
theorem dX10_named_34 : decode cX10_named 34 = .ok (.getfield 30, 3) := by decide +kernel
theorem dX10_named_37 : decode cX10_named 37 = .ok (.iload_n 1, 1) := by decide +kernel
theorem dX10_named_38 : decode cX10_named 38 = .ok (.laload, 1) := by decide +kernel
theorem dX10_named_39 : decode cX10_named 39 = .ok (.lcmp, 1) := by decide +kernel
theorem dX10_named_40 : decode cX10_named 40 = .ok (.ifCond .ne 9, 3) := by decide +kernel
theorem dX10_named_43 : decode cX10_named 43 = .ok (.aload_n 0, 1) := by decide +kernel
theorem dX10_named_44 : decode cX10_named 44 = .ok (.iconst 3, 1) := by decide +kernel
theorem dX10_named_45 : decode cX10_named 45 = .ok (.iload_n 1, 1) := by decide +kernel
theorem dX10_named_46 : decode cX10_named 46 = .ok (.invokevirtual 278, 3) := by decide +kernel
theorem dX10_named_49 : decode cX10_named 49 = .ok (.iinc 2 1, 3) := by decide +kernel
theorem dX10_named_52 : decode cX10_named 52 = .ok (.goto (-40), 3) := by decide +kernel
theorem dX10_named_55 : decode cX10_named 55 = .ok (.iload_n 1, 1) := by decide +kernel
theorem dX10_named_56 : decode cX10_named 56 = .ok (.ireturn, 1) := by decide +kernel
theorem dX10_notes_0 : decode cX10_notes 0 = .ok (.aload_n 0, 1) := by decide +kernel
theorem dX10_notes_1 : decode cX10_notes 1 = .ok (.getfield 40, 3) := by decide +kernel
theorem dX10_notes_4 : decode cX10_notes 4 = .ok (.aload_n 0, 1) := by decide +kernel
theorem dX10_notes_5 : decode cX10_notes 5 = .ok (.getfield 234, 3) := by decide +kernel
theorem dX10_notes_8 : decode cX10_notes 8 = .ok (.aload_n 0, 1) := by decide +kernel
theorem dX10_notes_9 : decode cX10_notes 9 = .ok (.getfield 30, 3) := by decide +kernel
theorem dX10_notes_12 : decode cX10_notes 12 = .ok (.iload_n 1, 1) := by decide +kernel
theorem dX10_notes_13 : decode cX10_notes 13 = .ok (.laload, 1) := by decide +kernel
theorem dX10_notes_14 : decode cX10_notes 14 = .ok (.lastore, 1) := by decide +kernel
theorem dX10_notes_15 : decode cX10_notes 15 = .ok (.aload_n 0, 1) := by decide +kernel
theorem dX10_notes_16 : decode cX10_notes 16 = .ok (.getfield 43, 3) := by decide +kernel
theorem dX10_notes_19 : decode cX10_notes 19 = .ok (.aload_n 0, 1) := by decide +kernel
theorem dX10_notes_20 : decode cX10_notes 20 = .ok (.getfield 234, 3) := by decide +kernel
theorem dX10_notes_23 : decode cX10_notes 23 = .ok (.iload_n 2, 1) := by decide +kernel
theorem dX10_notes_24 : decode cX10_notes 24 = .ok (.iastore, 1) := by decide +kernel
theorem dX10_notes_25 : decode cX10_notes 25 = .ok (.aload_n 0, 1) := by decide +kernel
theorem dX10_notes_26 : decode cX10_notes 26 = .ok (.getfield 46, 3) := by decide +kernel
theorem dX10_notes_29 : decode cX10_notes 29 = .ok (.aload_n 0, 1) := by decide +kernel
theorem dX10_notes_30 : decode cX10_notes 30 = .ok (.getfield 234, 3) := by decide +kernel
theorem dX10_notes_33 : decode cX10_notes 33 = .ok (.iload_n 3, 1) := by decide +kernel
theorem dX10_notes_34 : decode cX10_notes 34 = .ok (.iastore, 1) := by decide +kernel
theorem dX10_notes_35 : decode cX10_notes 35 = .ok (.aload_n 0, 1) := by decide +kernel
theorem dX10_notes_36 : decode cX10_notes 36 = .ok (.dup, 1) := by decide +kernel
theorem dX10_notes_37 : decode cX10_notes 37 = .ok (.getfield 234, 3) := by decide +kernel
theorem dX10_notes_40 : decode cX10_notes 40 = .ok (.iconst 1, 1) := by decide +kernel
theorem dX10_notes_41 : decode cX10_notes 41 = .ok (.iadd, 1) := by decide +kernel
theorem dX10_notes_42 : decode cX10_notes 42 = .ok (.putfield 234, 3) := by decide +kernel
theorem dX10_notes_45 : decode cX10_notes 45 = .ok (.return_, 1) := by decide +kernel
theorem dX10_known_0 : decode cX10_known 0 = .ok (.aload_n 0, 1) := by decide +kernel
theorem dX10_known_1 : decode cX10_known 1 = .ok (.getfield 201, 3) := by decide +kernel
theorem dX10_known_4 : decode cX10_known 4 = .ok (.istore_n 2, 1) := by decide +kernel
theorem dX10_known_5 : decode cX10_known 5 = .ok (.aload_n 0, 1) := by decide +kernel
theorem dX10_known_6 : decode cX10_known 6 = .ok (.iconst 1, 1) := by decide +kernel
theorem dX10_known_7 : decode cX10_known 7 = .ok (.invokevirtual 275, 3) := by decide +kernel
theorem dX10_known_10 : decode cX10_known 10 = .ok (.aload_n 0, 1) := by decide +kernel
theorem dX10_known_11 : decode cX10_known 11 = .ok (.getfield 198, 3) := by decide +kernel
theorem dX10_known_14 : decode cX10_known 14 = .ok (.ifCond .le 5, 3) := by decide +kernel
theorem dX10_known_17 : decode cX10_known 17 = .ok (.iconst (-1), 1) := by decide +kernel
theorem dX10_known_18 : decode cX10_known 18 = .ok (.ireturn, 1) := by decide +kernel
theorem dX10_known_19 : decode cX10_known 19 = .ok (.iconst 0, 1) := by decide +kernel
theorem dX10_known_20 : decode cX10_known 20 = .ok (.istore_n 3, 1) := by decide +kernel
theorem dX10_known_21 : decode cX10_known 21 = .ok (.iload_n 3, 1) := by decide +kernel
theorem dX10_known_22 : decode cX10_known 22 = .ok (.aload_n 0, 1) := by decide +kernel
theorem dX10_known_23 : decode cX10_known 23 = .ok (.getfield 234, 3) := by decide +kernel
theorem dX10_known_26 : decode cX10_known 26 = .ok (.if_icmp .ge 42, 3) := by decide +kernel
theorem dX10_known_29 : decode cX10_known 29 = .ok (.aload_n 0, 1) := by decide +kernel
theorem dX10_known_30 : decode cX10_known 30 = .ok (.getfield 40, 3) := by decide +kernel
theorem dX10_known_33 : decode cX10_known 33 = .ok (.iload_n 3, 1) := by decide +kernel
theorem dX10_known_34 : decode cX10_known 34 = .ok (.laload, 1) := by decide +kernel
theorem dX10_known_35 : decode cX10_known 35 = .ok (.aload_n 0, 1) := by decide +kernel
theorem dX10_known_36 : decode cX10_known 36 = .ok (.getfield 30, 3) := by decide +kernel
theorem dX10_known_39 : decode cX10_known 39 = .ok (.iload_n 2, 1) := by decide +kernel
theorem dX10_known_40 : decode cX10_known 40 = .ok (.laload, 1) := by decide +kernel
theorem dX10_known_41 : decode cX10_known 41 = .ok (.lcmp, 1) := by decide +kernel
theorem dX10_known_42 : decode cX10_known 42 = .ok (.ifCond .ne 20, 3) := by decide +kernel
theorem dX10_known_45 : decode cX10_known 45 = .ok (.aload_n 0, 1) := by decide +kernel
theorem dX10_known_46 : decode cX10_known 46 = .ok (.getfield 43, 3) := by decide +kernel
theorem dX10_known_49 : decode cX10_known 49 = .ok (.iload_n 3, 1) := by decide +kernel
theorem dX10_known_50 : decode cX10_known 50 = .ok (.iaload, 1) := by decide +kernel
theorem dX10_known_51 : decode cX10_known 51 = .ok (.iload_n 1, 1) := by decide +kernel
theorem dX10_known_52 : decode cX10_known 52 = .ok (.if_icmp .ne 10, 3) := by decide +kernel
theorem dX10_known_55 : decode cX10_known 55 = .ok (.aload_n 0, 1) := by decide +kernel
theorem dX10_known_56 : decode cX10_known 56 = .ok (.getfield 46, 3) := by decide +kernel
theorem dX10_known_59 : decode cX10_known 59 = .ok (.iload_n 3, 1) := by decide +kernel
theorem dX10_known_60 : decode cX10_known 60 = .ok (.iaload, 1) := by decide +kernel
theorem dX10_known_61 : decode cX10_known 61 = .ok (.ireturn, 1) := by decide +kernel
theorem dX10_known_62 : decode cX10_known 62 = .ok (.iinc 3 1, 3) := by decide +kernel
theorem dX10_known_65 : decode cX10_known 65 = .ok (.goto (-44), 3) := by decide +kernel
theorem dX10_known_68 : decode cX10_known 68 = .ok (.aload_n 0, 1) := by decide +kernel
theorem dX10_known_69 : decode cX10_known 69 = .ok (.iconst 4, 1) := by decide +kernel
theorem dX10_known_70 : decode cX10_known 70 = .ok (.iload_n 2, 1) := by decide +kernel
theorem dX10_known_71 : decode cX10_known 71 = .ok (.invokevirtual 278, 3) := by decide +kernel
theorem dX10_known_74 : decode cX10_known 74 = .ok (.iconst (-1), 1) := by decide +kernel
theorem dX10_known_75 : decode cX10_known 75 = .ok (.ireturn, 1) := by decide +kernel
theorem dX10_bounded_0 : decode cX10_bounded 0 = .ok (.aload_n 0, 1) := by decide +kernel
theorem dX10_bounded_1 : decode cX10_bounded 1 = .ok (.getfield 198, 3) := by decide +kernel
theorem dX10_bounded_4 : decode cX10_bounded 4 = .ok (.ifCond .gt 11, 3) := by decide +kernel
theorem dX10_bounded_7 : decode cX10_bounded 7 = .ok (.aload_n 0, 1) := by decide +kernel
theorem dX10_bounded_8 : decode cX10_bounded 8 = .ok (.iconst 2, 1) := by decide +kernel
theorem dX10_bounded_9 : decode cX10_bounded 9 = .ok (.invokevirtual 216, 3) := by decide +kernel
theorem dX10_bounded_12 : decode cX10_bounded 12 = .ok (.ifCond .ne 10, 3) := by decide +kernel
theorem dX10_bounded_15 : decode cX10_bounded 15 = .ok (.aload_n 0, 1) := by decide +kernel
theorem dX10_bounded_16 : decode cX10_bounded 16 = .ok (.iconst 1, 1) := by decide +kernel
theorem dX10_bounded_17 : decode cX10_bounded 17 = .ok (.invokevirtual 213, 3) := by decide +kernel
theorem dX10_bounded_20 : decode cX10_bounded 20 = .ok (.iload_n 1, 1) := by decide +kernel
theorem dX10_bounded_21 : decode cX10_bounded 21 = .ok (.ireturn, 1) := by decide +kernel
theorem dX10_bounded_22 : decode cX10_bounded 22 = .ok (.aload_n 0, 1) := by decide +kernel
theorem dX10_bounded_23 : decode cX10_bounded 23 = .ok (.getfield 27, 3) := by decide +kernel
theorem dX10_bounded_26 : decode cX10_bounded 26 = .ok (.aload_n 0, 1) := by decide +kernel
theorem dX10_bounded_27 : decode cX10_bounded 27 = .ok (.getfield 201, 3) := by decide +kernel
theorem dX10_bounded_30 : decode cX10_bounded 30 = .ok (.iaload, 1) := by decide +kernel
theorem dX10_bounded_31 : decode cX10_bounded 31 = .ok (.istore_n 3, 1) := by decide +kernel
theorem dX10_bounded_32 : decode cX10_bounded 32 = .ok (.iload_n 3, 1) := by decide +kernel
theorem dX10_bounded_33 : decode cX10_bounded 33 = .ok (.iload_n 1, 1) := by decide +kernel
theorem dX10_bounded_34 : decode cX10_bounded 34 = .ok (.if_icmp .lt 8, 3) := by decide +kernel
theorem dX10_bounded_37 : decode cX10_bounded 37 = .ok (.iload_n 3, 1) := by decide +kernel
theorem dX10_bounded_38 : decode cX10_bounded 38 = .ok (.iload_n 2, 1) := by decide +kernel
theorem dX10_bounded_39 : decode cX10_bounded 39 = .ok (.if_icmp .le 12, 3) := by decide +kernel
theorem dX10_bounded_42 : decode cX10_bounded 42 = .ok (.aload_n 0, 1) := by decide +kernel
theorem dX10_bounded_43 : decode cX10_bounded 43 = .ok (.iconst 5, 1) := by decide +kernel
theorem dX10_bounded_44 : decode cX10_bounded 44 = .ok (.aload_n 0, 1) := by decide +kernel
theorem dX10_bounded_45 : decode cX10_bounded 45 = .ok (.getfield 201, 3) := by decide +kernel
theorem dX10_bounded_48 : decode cX10_bounded 48 = .ok (.invokevirtual 278, 3) := by decide +kernel
theorem dX10_bounded_51 : decode cX10_bounded 51 = .ok (.aload_n 0, 1) := by decide +kernel
theorem dX10_bounded_52 : decode cX10_bounded 52 = .ok (.invokevirtual 219, 3) := by decide +kernel
theorem dX10_bounded_55 : decode cX10_bounded 55 = .ok (.iload_n 3, 1) := by decide +kernel
theorem dX10_bounded_56 : decode cX10_bounded 56 = .ok (.ireturn, 1) := by decide +kernel
theorem dX10_tellMan_0 : decode cX10_tellMan 0 = .ok (.aload_n 0, 1) := by decide +kernel
theorem dX10_tellMan_1 : decode cX10_tellMan 1 = .ok (.invokevirtual 281, 3) := by decide +kernel
theorem dX10_tellMan_4 : decode cX10_tellMan 4 = .ok (.istore_n 1, 1) := by decide +kernel
theorem dX10_tellMan_5 : decode cX10_tellMan 5 = .ok (.aload_n 0, 1) := by decide +kernel
theorem dX10_tellMan_6 : decode cX10_tellMan 6 = .ok (.getfield 52, 3) := by decide +kernel
theorem dX10_tellMan_9 : decode cX10_tellMan 9 = .ok (.bipush 8, 2) := by decide +kernel
theorem dX10_tellMan_11 : decode cX10_tellMan 11 = .ok (.aload_n 0, 1) := by decide +kernel
theorem dX10_tellMan_12 : decode cX10_tellMan 12 = .ok (.getfield 231, 3) := by decide +kernel
theorem dX10_tellMan_15 : decode cX10_tellMan 15 = .ok (.imul, 1) := by decide +kernel
theorem dX10_tellMan_16 : decode cX10_tellMan 16 = .ok (.aload_n 0, 1) := by decide +kernel
theorem dX10_tellMan_17 : decode cX10_tellMan 17 = .ok (.getfield 49, 3) := by decide +kernel
theorem dX10_tellMan_20 : decode cX10_tellMan 20 = .ok (.aload_n 0, 1) := by decide +kernel
theorem dX10_tellMan_21 : decode cX10_tellMan 21 = .ok (.getfield 231, 3) := by decide +kernel
theorem dX10_tellMan_24 : decode cX10_tellMan 24 = .ok (.iaload, 1) := by decide +kernel
theorem dX10_tellMan_25 : decode cX10_tellMan 25 = .ok (.iadd, 1) := by decide +kernel
theorem dX10_tellMan_26 : decode cX10_tellMan 26 = .ok (.aload_n 0, 1) := by decide +kernel
theorem dX10_tellMan_27 : decode cX10_tellMan 27 = .ok (.iconst 0, 1) := by decide +kernel
theorem dX10_tellMan_28 : decode cX10_tellMan 28 = .ok (.sipush 999, 3) := by decide +kernel
theorem dX10_tellMan_31 : decode cX10_tellMan 31 = .ok (.invokevirtual 271, 3) := by decide +kernel
theorem dX10_tellMan_34 : decode cX10_tellMan 34 = .ok (.iastore, 1) := by decide +kernel
theorem dX10_tellMan_35 : decode cX10_tellMan 35 = .ok (.aload_n 0, 1) := by decide +kernel
theorem dX10_tellMan_36 : decode cX10_tellMan 36 = .ok (.iconst 4, 1) := by decide +kernel
theorem dX10_tellMan_37 : decode cX10_tellMan 37 = .ok (.invokevirtual 275, 3) := by decide +kernel
theorem dX10_tellMan_40 : decode cX10_tellMan 40 = .ok (.aload_n 0, 1) := by decide +kernel
theorem dX10_tellMan_41 : decode cX10_tellMan 41 = .ok (.getfield 198, 3) := by decide +kernel
theorem dX10_tellMan_44 : decode cX10_tellMan 44 = .ok (.ifCond .le 4, 3) := by decide +kernel
theorem dX10_tellMan_47 : decode cX10_tellMan 47 = .ok (.return_, 1) := by decide +kernel
theorem dX10_tellMan_48 : decode cX10_tellMan 48 = .ok (.aload_n 0, 1) := by decide +kernel
theorem dX10_tellMan_49 : decode cX10_tellMan 49 = .ok (.iload_n 1, 1) := by decide +kernel
theorem dX10_tellMan_50 : decode cX10_tellMan 50 = .ok (.iconst 0, 1) := by decide +kernel
theorem dX10_tellMan_51 : decode cX10_tellMan 51 = .ok (.aload_n 0, 1) := by decide +kernel
theorem dX10_tellMan_52 : decode cX10_tellMan 52 = .ok (.getfield 49, 3) := by decide +kernel
theorem dX10_tellMan_55 : decode cX10_tellMan 55 = .ok (.aload_n 0, 1) := by decide +kernel
theorem dX10_tellMan_56 : decode cX10_tellMan 56 = .ok (.getfield 231, 3) := by decide +kernel
theorem dX10_tellMan_59 : decode cX10_tellMan 59 = .ok (.iaload, 1) := by decide +kernel
theorem dX10_tellMan_60 : decode cX10_tellMan 60 = .ok (.invokevirtual 285, 3) := by decide +kernel
theorem dX10_tellMan_63 : decode cX10_tellMan 63 = .ok (.aload_n 0, 1) := by decide +kernel
theorem dX10_tellMan_64 : decode cX10_tellMan 64 = .ok (.getfield 49, 3) := by decide +kernel
theorem dX10_tellMan_67 : decode cX10_tellMan 67 = .ok (.aload_n 0, 1) := by decide +kernel
theorem dX10_tellMan_68 : decode cX10_tellMan 68 = .ok (.getfield 231, 3) := by decide +kernel
theorem dX10_tellMan_71 : decode cX10_tellMan 71 = .ok (.dup2, 1) := by decide +kernel
theorem dX10_tellMan_72 : decode cX10_tellMan 72 = .ok (.iaload, 1) := by decide +kernel
theorem dX10_tellMan_73 : decode cX10_tellMan 73 = .ok (.iconst 1, 1) := by decide +kernel
theorem dX10_tellMan_74 : decode cX10_tellMan 74 = .ok (.iadd, 1) := by decide +kernel
theorem dX10_tellMan_75 : decode cX10_tellMan 75 = .ok (.iastore, 1) := by decide +kernel
theorem dX10_tellMan_76 : decode cX10_tellMan 76 = .ok (.return_, 1) := by decide +kernel
theorem dX10_tellDeed_0 : decode cX10_tellDeed 0 = .ok (.aload_n 0, 1) := by decide +kernel
theorem dX10_tellDeed_1 : decode cX10_tellDeed 1 = .ok (.invokevirtual 281, 3) := by decide +kernel
theorem dX10_tellDeed_4 : decode cX10_tellDeed 4 = .ok (.istore_n 1, 1) := by decide +kernel
theorem dX10_tellDeed_5 : decode cX10_tellDeed 5 = .ok (.aload_n 0, 1) := by decide +kernel
theorem dX10_tellDeed_6 : decode cX10_tellDeed 6 = .ok (.getfield 58, 3) := by decide +kernel
theorem dX10_tellDeed_9 : decode cX10_tellDeed 9 = .ok (.bipush 8, 2) := by decide +kernel
theorem dX10_tellDeed_11 : decode cX10_tellDeed 11 = .ok (.aload_n 0, 1) := by decide +kernel
theorem dX10_tellDeed_12 : decode cX10_tellDeed 12 = .ok (.getfield 231, 3) := by decide +kernel
theorem dX10_tellDeed_15 : decode cX10_tellDeed 15 = .ok (.imul, 1) := by decide +kernel
theorem dX10_tellDeed_16 : decode cX10_tellDeed 16 = .ok (.aload_n 0, 1) := by decide +kernel
theorem dX10_tellDeed_17 : decode cX10_tellDeed 17 = .ok (.getfield 55, 3) := by decide +kernel
theorem dX10_tellDeed_20 : decode cX10_tellDeed 20 = .ok (.aload_n 0, 1) := by decide +kernel
theorem dX10_tellDeed_21 : decode cX10_tellDeed 21 = .ok (.getfield 231, 3) := by decide +kernel
theorem dX10_tellDeed_24 : decode cX10_tellDeed 24 = .ok (.iaload, 1) := by decide +kernel
theorem dX10_tellDeed_25 : decode cX10_tellDeed 25 = .ok (.iadd, 1) := by decide +kernel
theorem dX10_tellDeed_26 : decode cX10_tellDeed 26 = .ok (.aload_n 0, 1) := by decide +kernel
theorem dX10_tellDeed_27 : decode cX10_tellDeed 27 = .ok (.iconst 0, 1) := by decide +kernel
theorem dX10_tellDeed_28 : decode cX10_tellDeed 28 = .ok (.bipush 99, 2) := by decide +kernel
theorem dX10_tellDeed_30 : decode cX10_tellDeed 30 = .ok (.invokevirtual 271, 3) := by decide +kernel
theorem dX10_tellDeed_33 : decode cX10_tellDeed 33 = .ok (.iastore, 1) := by decide +kernel
theorem dX10_tellDeed_34 : decode cX10_tellDeed 34 = .ok (.aload_n 0, 1) := by decide +kernel
theorem dX10_tellDeed_35 : decode cX10_tellDeed 35 = .ok (.iconst 4, 1) := by decide +kernel
theorem dX10_tellDeed_36 : decode cX10_tellDeed 36 = .ok (.invokevirtual 275, 3) := by decide +kernel
theorem dX10_tellDeed_39 : decode cX10_tellDeed 39 = .ok (.aload_n 0, 1) := by decide +kernel
theorem dX10_tellDeed_40 : decode cX10_tellDeed 40 = .ok (.getfield 198, 3) := by decide +kernel
theorem dX10_tellDeed_43 : decode cX10_tellDeed 43 = .ok (.ifCond .le 4, 3) := by decide +kernel
theorem dX10_tellDeed_46 : decode cX10_tellDeed 46 = .ok (.return_, 1) := by decide +kernel
theorem dX10_tellDeed_47 : decode cX10_tellDeed 47 = .ok (.aload_n 0, 1) := by decide +kernel
theorem dX10_tellDeed_48 : decode cX10_tellDeed 48 = .ok (.iload_n 1, 1) := by decide +kernel
theorem dX10_tellDeed_49 : decode cX10_tellDeed 49 = .ok (.iconst 1, 1) := by decide +kernel
theorem dX10_tellDeed_50 : decode cX10_tellDeed 50 = .ok (.aload_n 0, 1) := by decide +kernel
theorem dX10_tellDeed_51 : decode cX10_tellDeed 51 = .ok (.getfield 55, 3) := by decide +kernel
theorem dX10_tellDeed_54 : decode cX10_tellDeed 54 = .ok (.aload_n 0, 1) := by decide +kernel
theorem dX10_tellDeed_55 : decode cX10_tellDeed 55 = .ok (.getfield 231, 3) := by decide +kernel
theorem dX10_tellDeed_58 : decode cX10_tellDeed 58 = .ok (.iaload, 1) := by decide +kernel
theorem dX10_tellDeed_59 : decode cX10_tellDeed 59 = .ok (.invokevirtual 285, 3) := by decide +kernel
theorem dX10_tellDeed_62 : decode cX10_tellDeed 62 = .ok (.aload_n 0, 1) := by decide +kernel
theorem dX10_tellDeed_63 : decode cX10_tellDeed 63 = .ok (.getfield 55, 3) := by decide +kernel
theorem dX10_tellDeed_66 : decode cX10_tellDeed 66 = .ok (.aload_n 0, 1) := by decide +kernel
theorem dX10_tellDeed_67 : decode cX10_tellDeed 67 = .ok (.getfield 231, 3) := by decide +kernel
theorem dX10_tellDeed_70 : decode cX10_tellDeed 70 = .ok (.dup2, 1) := by decide +kernel
theorem dX10_tellDeed_71 : decode cX10_tellDeed 71 = .ok (.iaload, 1) := by decide +kernel
theorem dX10_tellDeed_72 : decode cX10_tellDeed 72 = .ok (.iconst 1, 1) := by decide +kernel
theorem dX10_tellDeed_73 : decode cX10_tellDeed 73 = .ok (.iadd, 1) := by decide +kernel
theorem dX10_tellDeed_74 : decode cX10_tellDeed 74 = .ok (.iastore, 1) := by decide +kernel
theorem dX10_tellDeed_75 : decode cX10_tellDeed 75 = .ok (.return_, 1) := by decide +kernel
theorem dX10_tellCold_0 : decode cX10_tellCold 0 = .ok (.iconst 0, 1) := by decide +kernel
theorem dX10_tellCold_1 : decode cX10_tellCold 1 = .ok (.istore_n 1, 1) := by decide +kernel
theorem dX10_tellCold_2 : decode cX10_tellCold 2 = .ok (.aload_n 0, 1) := by decide +kernel
theorem dX10_tellCold_3 : decode cX10_tellCold 3 = .ok (.getfield 198, 3) := by decide +kernel
theorem dX10_tellCold_6 : decode cX10_tellCold 6 = .ok (.ifCond .ne 58, 3) := by decide +kernel
theorem dX10_tellCold_9 : decode cX10_tellCold 9 = .ok (.aload_n 0, 1) := by decide +kernel
theorem dX10_tellCold_10 : decode cX10_tellCold 10 = .ok (.iconst 2, 1) := by decide +kernel
theorem dX10_tellCold_11 : decode cX10_tellCold 11 = .ok (.invokevirtual 216, 3) := by decide +kernel
theorem dX10_tellCold_14 : decode cX10_tellCold 14 = .ok (.ifCond .eq 50, 3) := by decide +kernel
theorem dX10_tellCold_17 : decode cX10_tellCold 17 = .ok (.iload_n 1, 1) := by decide +kernel
theorem dX10_tellCold_18 : decode cX10_tellCold 18 = .ok (.bipush 12, 2) := by decide +kernel
theorem dX10_tellCold_20 : decode cX10_tellCold 20 = .ok (.if_icmp .ne 8, 3) := by decide +kernel
theorem dX10_tellCold_23 : decode cX10_tellCold 23 = .ok (.aload_n 0, 1) := by decide +kernel
theorem dX10_tellCold_24 : decode cX10_tellCold 24 = .ok (.iconst 2, 1) := by decide +kernel
theorem dX10_tellCold_25 : decode cX10_tellCold 25 = .ok (.invokevirtual 213, 3) := by decide +kernel
theorem dX10_tellCold_28 : decode cX10_tellCold 28 = .ok (.aload_n 0, 1) := by decide +kernel
theorem dX10_tellCold_29 : decode cX10_tellCold 29 = .ok (.getfield 198, 3) := by decide +kernel
theorem dX10_tellCold_32 : decode cX10_tellCold 32 = .ok (.ifCond .le 4, 3) := by decide +kernel
theorem dX10_tellCold_35 : decode cX10_tellCold 35 = .ok (.return_, 1) := by decide +kernel
theorem dX10_tellCold_36 : decode cX10_tellCold 36 = .ok (.aload_n 0, 1) := by decide +kernel
theorem dX10_tellCold_37 : decode cX10_tellCold 37 = .ok (.getfield 64, 3) := by decide +kernel
theorem dX10_tellCold_40 : decode cX10_tellCold 40 = .ok (.bipush 12, 2) := by decide +kernel
theorem dX10_tellCold_42 : decode cX10_tellCold 42 = .ok (.aload_n 0, 1) := by decide +kernel
theorem dX10_tellCold_43 : decode cX10_tellCold 43 = .ok (.getfield 231, 3) := by decide +kernel
theorem dX10_tellCold_46 : decode cX10_tellCold 46 = .ok (.imul, 1) := by decide +kernel
theorem dX10_tellCold_47 : decode cX10_tellCold 47 = .ok (.iload_n 1, 1) := by decide +kernel
theorem dX10_tellCold_48 : decode cX10_tellCold 48 = .ok (.iadd, 1) := by decide +kernel
theorem dX10_tellCold_49 : decode cX10_tellCold 49 = .ok (.aload_n 0, 1) := by decide +kernel
theorem dX10_tellCold_50 : decode cX10_tellCold 50 = .ok (.iconst 0, 1) := by decide +kernel
theorem dX10_tellCold_51 : decode cX10_tellCold 51 = .ok (.sipush 999, 3) := by decide +kernel
theorem dX10_tellCold_54 : decode cX10_tellCold 54 = .ok (.invokevirtual 271, 3) := by decide +kernel
theorem dX10_tellCold_57 : decode cX10_tellCold 57 = .ok (.iastore, 1) := by decide +kernel
theorem dX10_tellCold_58 : decode cX10_tellCold 58 = .ok (.iinc 1 1, 3) := by decide +kernel
theorem dX10_tellCold_61 : decode cX10_tellCold 61 = .ok (.goto (-59), 3) := by decide +kernel
theorem dX10_tellCold_64 : decode cX10_tellCold 64 = .ok (.aload_n 0, 1) := by decide +kernel
theorem dX10_tellCold_65 : decode cX10_tellCold 65 = .ok (.iconst 4, 1) := by decide +kernel
theorem dX10_tellCold_66 : decode cX10_tellCold 66 = .ok (.invokevirtual 275, 3) := by decide +kernel
theorem dX10_tellCold_69 : decode cX10_tellCold 69 = .ok (.aload_n 0, 1) := by decide +kernel
theorem dX10_tellCold_70 : decode cX10_tellCold 70 = .ok (.getfield 61, 3) := by decide +kernel
theorem dX10_tellCold_73 : decode cX10_tellCold 73 = .ok (.aload_n 0, 1) := by decide +kernel
theorem dX10_tellCold_74 : decode cX10_tellCold 74 = .ok (.getfield 231, 3) := by decide +kernel
theorem dX10_tellCold_77 : decode cX10_tellCold 77 = .ok (.iload_n 1, 1) := by decide +kernel
theorem dX10_tellCold_78 : decode cX10_tellCold 78 = .ok (.iastore, 1) := by decide +kernel
theorem dX10_tellCold_79 : decode cX10_tellCold 79 = .ok (.return_, 1) := by decide +kernel
theorem dX10_tellLaw_0 : decode cX10_tellLaw 0 = .ok (.aload_n 0, 1) := by decide +kernel
theorem dX10_tellLaw_1 : decode cX10_tellLaw 1 = .ok (.iconst 5, 1) := by decide +kernel
theorem dX10_tellLaw_2 : decode cX10_tellLaw 2 = .ok (.invokevirtual 275, 3) := by decide +kernel
theorem dX10_tellLaw_5 : decode cX10_tellLaw 5 = .ok (.aload_n 0, 1) := by decide +kernel
theorem dX10_tellLaw_6 : decode cX10_tellLaw 6 = .ok (.getfield 237, 3) := by decide +kernel
theorem dX10_tellLaw_9 : decode cX10_tellLaw 9 = .ok (.istore_n 2, 1) := by decide +kernel
theorem dX10_tellLaw_10 : decode cX10_tellLaw 10 = .ok (.iconst 0, 1) := by decide +kernel
theorem dX10_tellLaw_11 : decode cX10_tellLaw 11 = .ok (.istore_n 3, 1) := by decide +kernel
theorem dX10_tellLaw_12 : decode cX10_tellLaw 12 = .ok (.aload_n 0, 1) := by decide +kernel
theorem dX10_tellLaw_13 : decode cX10_tellLaw 13 = .ok (.getfield 198, 3) := by decide +kernel
theorem dX10_tellLaw_16 : decode cX10_tellLaw 16 = .ok (.ifCond .ne 113, 3) := by decide +kernel
theorem dX10_tellLaw_19 : decode cX10_tellLaw 19 = .ok (.aload_n 0, 1) := by decide +kernel
theorem dX10_tellLaw_20 : decode cX10_tellLaw 20 = .ok (.bipush 28, 2) := by decide +kernel
theorem dX10_tellLaw_22 : decode cX10_tellLaw 22 = .ok (.invokevirtual 216, 3) := by decide +kernel
theorem dX10_tellLaw_25 : decode cX10_tellLaw 25 = .ok (.ifCond .eq 104, 3) := by decide +kernel
theorem dX10_tellLaw_28 : decode cX10_tellLaw 28 = .ok (.iload_n 3, 1) := by decide +kernel
theorem dX10_tellLaw_29 : decode cX10_tellLaw 29 = .ok (.iconst 4, 1) := by decide +kernel
theorem dX10_tellLaw_30 : decode cX10_tellLaw 30 = .ok (.if_icmp .ne 8, 3) := by decide +kernel
theorem dX10_tellLaw_33 : decode cX10_tellLaw 33 = .ok (.aload_n 0, 1) := by decide +kernel
theorem dX10_tellLaw_34 : decode cX10_tellLaw 34 = .ok (.iconst 2, 1) := by decide +kernel
theorem dX10_tellLaw_35 : decode cX10_tellLaw 35 = .ok (.invokevirtual 213, 3) := by decide +kernel
theorem dX10_tellLaw_38 : decode cX10_tellLaw 38 = .ok (.aload_n 0, 1) := by decide +kernel
theorem dX10_tellLaw_39 : decode cX10_tellLaw 39 = .ok (.getfield 198, 3) := by decide +kernel
theorem dX10_tellLaw_42 : decode cX10_tellLaw 42 = .ok (.ifCond .le 4, 3) := by decide +kernel
theorem dX10_tellLaw_45 : decode cX10_tellLaw 45 = .ok (.return_, 1) := by decide +kernel
theorem dX10_tellLaw_46 : decode cX10_tellLaw 46 = .ok (.iinc 3 1, 3) := by decide +kernel
theorem dX10_tellLaw_49 : decode cX10_tellLaw 49 = .ok (.aload_n 0, 1) := by decide +kernel
theorem dX10_tellLaw_50 : decode cX10_tellLaw 50 = .ok (.invokevirtual 219, 3) := by decide +kernel
theorem dX10_tellLaw_53 : decode cX10_tellLaw 53 = .ok (.aload_n 0, 1) := by decide +kernel
theorem dX10_tellLaw_54 : decode cX10_tellLaw 54 = .ok (.getfield 76, 3) := by decide +kernel
theorem dX10_tellLaw_57 : decode cX10_tellLaw 57 = .ok (.aload_n 0, 1) := by decide +kernel
theorem dX10_tellLaw_58 : decode cX10_tellLaw 58 = .ok (.getfield 237, 3) := by decide +kernel
theorem dX10_tellLaw_61 : decode cX10_tellLaw 61 = .ok (.iconst 1, 1) := by decide +kernel
theorem dX10_tellLaw_62 : decode cX10_tellLaw 62 = .ok (.bastore, 1) := by decide +kernel
theorem dX10_tellLaw_63 : decode cX10_tellLaw 63 = .ok (.aload_n 0, 1) := by decide +kernel
theorem dX10_tellLaw_64 : decode cX10_tellLaw 64 = .ok (.getfield 80, 3) := by decide +kernel
theorem dX10_tellLaw_67 : decode cX10_tellLaw 67 = .ok (.aload_n 0, 1) := by decide +kernel
theorem dX10_tellLaw_68 : decode cX10_tellLaw 68 = .ok (.getfield 237, 3) := by decide +kernel
theorem dX10_tellLaw_71 : decode cX10_tellLaw 71 = .ok (.aload_n 0, 1) := by decide +kernel
theorem dX10_tellLaw_72 : decode cX10_tellLaw 72 = .ok (.getfield 240, 3) := by decide +kernel
theorem dX10_tellLaw_75 : decode cX10_tellLaw 75 = .ok (.iastore, 1) := by decide +kernel
theorem dX10_tellLaw_76 : decode cX10_tellLaw 76 = .ok (.aload_n 0, 1) := by decide +kernel
theorem dX10_tellLaw_77 : decode cX10_tellLaw 77 = .ok (.invokevirtual 289, 3) := by decide +kernel
theorem dX10_tellLaw_80 : decode cX10_tellLaw 80 = .ok (.aload_n 0, 1) := by decide +kernel
theorem dX10_tellLaw_81 : decode cX10_tellLaw 81 = .ok (.bipush 13, 2) := by decide +kernel
theorem dX10_tellLaw_83 : decode cX10_tellLaw 83 = .ok (.invokevirtual 275, 3) := by decide +kernel
theorem dX10_tellLaw_86 : decode cX10_tellLaw 86 = .ok (.aload_n 0, 1) := by decide +kernel
theorem dX10_tellLaw_87 : decode cX10_tellLaw 87 = .ok (.getfield 83, 3) := by decide +kernel
theorem dX10_tellLaw_90 : decode cX10_tellLaw 90 = .ok (.aload_n 0, 1) := by decide +kernel
theorem dX10_tellLaw_91 : decode cX10_tellLaw 91 = .ok (.getfield 237, 3) := by decide +kernel
theorem dX10_tellLaw_94 : decode cX10_tellLaw 94 = .ok (.aload_n 0, 1) := by decide +kernel
theorem dX10_tellLaw_95 : decode cX10_tellLaw 95 = .ok (.getfield 240, 3) := by decide +kernel
theorem dX10_tellLaw_98 : decode cX10_tellLaw 98 = .ok (.iastore, 1) := by decide +kernel
theorem dX10_tellLaw_99 : decode cX10_tellLaw 99 = .ok (.aload_n 0, 1) := by decide +kernel
theorem dX10_tellLaw_100 : decode cX10_tellLaw 100 = .ok (.getfield 198, 3) := by decide +kernel
theorem dX10_tellLaw_103 : decode cX10_tellLaw 103 = .ok (.ifCond .ne 7, 3) := by decide +kernel
theorem dX10_tellLaw_106 : decode cX10_tellLaw 106 = .ok (.aload_n 0, 1) := by decide +kernel
theorem dX10_tellLaw_107 : decode cX10_tellLaw 107 = .ok (.invokevirtual 289, 3) := by decide +kernel
theorem dX10_tellLaw_110 : decode cX10_tellLaw 110 = .ok (.aload_n 0, 1) := by decide +kernel
theorem dX10_tellLaw_111 : decode cX10_tellLaw 111 = .ok (.bipush 29, 2) := by decide +kernel
theorem dX10_tellLaw_113 : decode cX10_tellLaw 113 = .ok (.invokevirtual 275, 3) := by decide +kernel
theorem dX10_tellLaw_116 : decode cX10_tellLaw 116 = .ok (.aload_n 0, 1) := by decide +kernel
theorem dX10_tellLaw_117 : decode cX10_tellLaw 117 = .ok (.invokevirtual 292, 3) := by decide +kernel
theorem dX10_tellLaw_120 : decode cX10_tellLaw 120 = .ok (.aload_n 0, 1) := by decide +kernel
theorem dX10_tellLaw_121 : decode cX10_tellLaw 121 = .ok (.bipush 30, 2) := by decide +kernel
theorem dX10_tellLaw_123 : decode cX10_tellLaw 123 = .ok (.invokevirtual 275, 3) := by decide +kernel
theorem dX10_tellLaw_126 : decode cX10_tellLaw 126 = .ok (.goto (-114), 3) := by decide +kernel
theorem dX10_tellLaw_129 : decode cX10_tellLaw 129 = .ok (.aload_n 0, 1) := by decide +kernel
theorem dX10_tellLaw_130 : decode cX10_tellLaw 130 = .ok (.getfield 76, 3) := by decide +kernel
theorem dX10_tellLaw_133 : decode cX10_tellLaw 133 = .ok (.aload_n 0, 1) := by decide +kernel
theorem dX10_tellLaw_134 : decode cX10_tellLaw 134 = .ok (.getfield 237, 3) := by decide +kernel
theorem dX10_tellLaw_137 : decode cX10_tellLaw 137 = .ok (.iconst 0, 1) := by decide +kernel
theorem dX10_tellLaw_138 : decode cX10_tellLaw 138 = .ok (.bastore, 1) := by decide +kernel
theorem dX10_tellLaw_139 : decode cX10_tellLaw 139 = .ok (.aload_n 0, 1) := by decide +kernel
theorem dX10_tellLaw_140 : decode cX10_tellLaw 140 = .ok (.invokevirtual 292, 3) := by decide +kernel
theorem dX10_tellLaw_143 : decode cX10_tellLaw 143 = .ok (.aload_n 0, 1) := by decide +kernel
theorem dX10_tellLaw_144 : decode cX10_tellLaw 144 = .ok (.iconst 4, 1) := by decide +kernel
theorem dX10_tellLaw_145 : decode cX10_tellLaw 145 = .ok (.invokevirtual 275, 3) := by decide +kernel
theorem dX10_tellLaw_148 : decode cX10_tellLaw 148 = .ok (.aload_n 0, 1) := by decide +kernel
theorem dX10_tellLaw_149 : decode cX10_tellLaw 149 = .ok (.getfield 198, 3) := by decide +kernel
theorem dX10_tellLaw_152 : decode cX10_tellLaw 152 = .ok (.ifCond .gt 7, 3) := by decide +kernel
theorem dX10_tellLaw_155 : decode cX10_tellLaw 155 = .ok (.iload_n 1, 1) := by decide +kernel
theorem dX10_tellLaw_156 : decode cX10_tellLaw 156 = .ok (.ifCond .ge 4, 3) := by decide +kernel
theorem dX10_tellLaw_159 : decode cX10_tellLaw 159 = .ok (.return_, 1) := by decide +kernel
theorem dX10_tellLaw_160 : decode cX10_tellLaw 160 = .ok (.aload_n 0, 1) := by decide +kernel
theorem dX10_tellLaw_161 : decode cX10_tellLaw 161 = .ok (.getfield 70, 3) := by decide +kernel
theorem dX10_tellLaw_164 : decode cX10_tellLaw 164 = .ok (.bipush 20, 2) := by decide +kernel
theorem dX10_tellLaw_166 : decode cX10_tellLaw 166 = .ok (.aload_n 0, 1) := by decide +kernel
theorem dX10_tellLaw_167 : decode cX10_tellLaw 167 = .ok (.getfield 231, 3) := by decide +kernel
theorem dX10_tellLaw_170 : decode cX10_tellLaw 170 = .ok (.imul, 1) := by decide +kernel
theorem dX10_tellLaw_171 : decode cX10_tellLaw 171 = .ok (.iload_n 1, 1) := by decide +kernel
theorem dX10_tellLaw_172 : decode cX10_tellLaw 172 = .ok (.iadd, 1) := by decide +kernel
theorem dX10_tellLaw_173 : decode cX10_tellLaw 173 = .ok (.iload_n 2, 1) := by decide +kernel
theorem dX10_tellLaw_174 : decode cX10_tellLaw 174 = .ok (.iastore, 1) := by decide +kernel
theorem dX10_tellLaw_175 : decode cX10_tellLaw 175 = .ok (.aload_n 0, 1) := by decide +kernel
theorem dX10_tellLaw_176 : decode cX10_tellLaw 176 = .ok (.getfield 73, 3) := by decide +kernel
theorem dX10_tellLaw_179 : decode cX10_tellLaw 179 = .ok (.bipush 20, 2) := by decide +kernel
theorem dX10_tellLaw_181 : decode cX10_tellLaw 181 = .ok (.aload_n 0, 1) := by decide +kernel
theorem dX10_tellLaw_182 : decode cX10_tellLaw 182 = .ok (.getfield 231, 3) := by decide +kernel
theorem dX10_tellLaw_185 : decode cX10_tellLaw 185 = .ok (.imul, 1) := by decide +kernel
theorem dX10_tellLaw_186 : decode cX10_tellLaw 186 = .ok (.iload_n 1, 1) := by decide +kernel
theorem dX10_tellLaw_187 : decode cX10_tellLaw 187 = .ok (.iadd, 1) := by decide +kernel
theorem dX10_tellLaw_188 : decode cX10_tellLaw 188 = .ok (.aload_n 0, 1) := by decide +kernel
theorem dX10_tellLaw_189 : decode cX10_tellLaw 189 = .ok (.getfield 237, 3) := by decide +kernel
theorem dX10_tellLaw_192 : decode cX10_tellLaw 192 = .ok (.iastore, 1) := by decide +kernel
theorem dX10_tellLaw_193 : decode cX10_tellLaw 193 = .ok (.return_, 1) := by decide +kernel
theorem dX10_term_0 : decode cX10_term 0 = .ok (.aload_n 0, 1) := by decide +kernel
theorem dX10_term_1 : decode cX10_term 1 = .ok (.getfield 86, 3) := by decide +kernel
theorem dX10_term_4 : decode cX10_term 4 = .ok (.aload_n 0, 1) := by decide +kernel
theorem dX10_term_5 : decode cX10_term 5 = .ok (.getfield 237, 3) := by decide +kernel
theorem dX10_term_8 : decode cX10_term 8 = .ok (.aload_n 0, 1) := by decide +kernel
theorem dX10_term_9 : decode cX10_term 9 = .ok (.getfield 240, 3) := by decide +kernel
theorem dX10_term_12 : decode cX10_term 12 = .ok (.iastore, 1) := by decide +kernel
theorem dX10_term_13 : decode cX10_term 13 = .ok (.aload_n 0, 1) := by decide +kernel
theorem dX10_term_14 : decode cX10_term 14 = .ok (.getfield 198, 3) := by decide +kernel
theorem dX10_term_17 : decode cX10_term 17 = .ok (.ifCond .ne 7, 3) := by decide +kernel
theorem dX10_term_20 : decode cX10_term 20 = .ok (.aload_n 0, 1) := by decide +kernel
theorem dX10_term_21 : decode cX10_term 21 = .ok (.invokevirtual 289, 3) := by decide +kernel
theorem dX10_term_24 : decode cX10_term 24 = .ok (.aload_n 0, 1) := by decide +kernel
theorem dX10_term_25 : decode cX10_term 25 = .ok (.getfield 89, 3) := by decide +kernel
theorem dX10_term_28 : decode cX10_term 28 = .ok (.aload_n 0, 1) := by decide +kernel
theorem dX10_term_29 : decode cX10_term 29 = .ok (.getfield 237, 3) := by decide +kernel
theorem dX10_term_32 : decode cX10_term 32 = .ok (.aload_n 0, 1) := by decide +kernel
theorem dX10_term_33 : decode cX10_term 33 = .ok (.getfield 240, 3) := by decide +kernel
theorem dX10_term_36 : decode cX10_term 36 = .ok (.iastore, 1) := by decide +kernel
theorem dX10_term_37 : decode cX10_term 37 = .ok (.aload_n 0, 1) := by decide +kernel
theorem dX10_term_38 : decode cX10_term 38 = .ok (.dup, 1) := by decide +kernel
theorem dX10_term_39 : decode cX10_term 39 = .ok (.getfield 237, 3) := by decide +kernel
theorem dX10_term_42 : decode cX10_term 42 = .ok (.iconst 1, 1) := by decide +kernel
theorem dX10_term_43 : decode cX10_term 43 = .ok (.iadd, 1) := by decide +kernel
theorem dX10_term_44 : decode cX10_term 44 = .ok (.putfield 237, 3) := by decide +kernel
theorem dX10_term_47 : decode cX10_term 47 = .ok (.return_, 1) := by decide +kernel
theorem dX10_emit_0 : decode cX10_emit 0 = .ok (.aload_n 0, 1) := by decide +kernel
theorem dX10_emit_1 : decode cX10_emit 1 = .ok (.getfield 92, 3) := by decide +kernel
theorem dX10_emit_4 : decode cX10_emit 4 = .ok (.aload_n 0, 1) := by decide +kernel
theorem dX10_emit_5 : decode cX10_emit 5 = .ok (.getfield 240, 3) := by decide +kernel
theorem dX10_emit_8 : decode cX10_emit 8 = .ok (.iload_n 1, 1) := by decide +kernel
theorem dX10_emit_9 : decode cX10_emit 9 = .ok (.iastore, 1) := by decide +kernel
theorem dX10_emit_10 : decode cX10_emit 10 = .ok (.aload_n 0, 1) := by decide +kernel
theorem dX10_emit_11 : decode cX10_emit 11 = .ok (.getfield 95, 3) := by decide +kernel
theorem dX10_emit_14 : decode cX10_emit 14 = .ok (.aload_n 0, 1) := by decide +kernel
theorem dX10_emit_15 : decode cX10_emit 15 = .ok (.getfield 240, 3) := by decide +kernel
theorem dX10_emit_18 : decode cX10_emit 18 = .ok (.iload_n 2, 1) := by decide +kernel
theorem dX10_emit_19 : decode cX10_emit 19 = .ok (.iastore, 1) := by decide +kernel
theorem dX10_emit_20 : decode cX10_emit 20 = .ok (.aload_n 0, 1) := by decide +kernel
theorem dX10_emit_21 : decode cX10_emit 21 = .ok (.dup, 1) := by decide +kernel
theorem dX10_emit_22 : decode cX10_emit 22 = .ok (.getfield 240, 3) := by decide +kernel
theorem dX10_emit_25 : decode cX10_emit 25 = .ok (.iconst 1, 1) := by decide +kernel
theorem dX10_emit_26 : decode cX10_emit 26 = .ok (.iadd, 1) := by decide +kernel
theorem dX10_emit_27 : decode cX10_emit 27 = .ok (.putfield 240, 3) := by decide +kernel
theorem dX10_emit_30 : decode cX10_emit 30 = .ok (.return_, 1) := by decide +kernel
theorem dX10_comesOut_0 : decode cX10_comesOut 0 = .ok (.aload_n 0, 1) := by decide +kernel
theorem dX10_comesOut_1 : decode cX10_comesOut 1 = .ok (.getfield 295, 3) := by decide +kernel
theorem dX10_comesOut_4 : decode cX10_comesOut 4 = .ok (.ifCond .le 87, 3) := by decide +kernel
theorem dX10_comesOut_7 : decode cX10_comesOut 7 = .ok (.aload_n 0, 1) := by decide +kernel
theorem dX10_comesOut_8 : decode cX10_comesOut 8 = .ok (.getfield 98, 3) := by decide +kernel
theorem dX10_comesOut_11 : decode cX10_comesOut 11 = .ok (.aload_n 0, 1) := by decide +kernel
theorem dX10_comesOut_12 : decode cX10_comesOut 12 = .ok (.getfield 295, 3) := by decide +kernel
theorem dX10_comesOut_15 : decode cX10_comesOut 15 = .ok (.iconst 1, 1) := by decide +kernel
theorem dX10_comesOut_16 : decode cX10_comesOut 16 = .ok (.isub, 1) := by decide +kernel
theorem dX10_comesOut_17 : decode cX10_comesOut 17 = .ok (.iaload, 1) := by decide +kernel
theorem dX10_comesOut_18 : decode cX10_comesOut 18 = .ok (.istore_n 2, 1) := by decide +kernel
theorem dX10_comesOut_19 : decode cX10_comesOut 19 = .ok (.iload_n 2, 1) := by decide +kernel
theorem dX10_comesOut_20 : decode cX10_comesOut 20 = .ok (.bipush 6, 2) := by decide +kernel
theorem dX10_comesOut_22 : decode cX10_comesOut 22 = .ok (.if_icmp .eq 19, 3) := by decide +kernel
theorem dX10_comesOut_25 : decode cX10_comesOut 25 = .ok (.iload_n 1, 1) := by decide +kernel
theorem dX10_comesOut_26 : decode cX10_comesOut 26 = .ok (.ifCond .eq 16, 3) := by decide +kernel
theorem dX10_comesOut_29 : decode cX10_comesOut 29 = .ok (.iload_n 2, 1) := by decide +kernel
theorem dX10_comesOut_30 : decode cX10_comesOut 30 = .ok (.bipush 8, 2) := by decide +kernel
theorem dX10_comesOut_32 : decode cX10_comesOut 32 = .ok (.if_icmp .eq 9, 3) := by decide +kernel
theorem dX10_comesOut_35 : decode cX10_comesOut 35 = .ok (.iload_n 2, 1) := by decide +kernel
theorem dX10_comesOut_36 : decode cX10_comesOut 36 = .ok (.bipush 9, 2) := by decide +kernel
theorem dX10_comesOut_38 : decode cX10_comesOut 38 = .ok (.if_icmp .ne 4, 3) := by decide +kernel
theorem dX10_comesOut_41 : decode cX10_comesOut 41 = .ok (.return_, 1) := by decide +kernel
theorem dX10_comesOut_42 : decode cX10_comesOut 42 = .ok (.aload_n 0, 1) := by decide +kernel
theorem dX10_comesOut_43 : decode cX10_comesOut 43 = .ok (.dup, 1) := by decide +kernel
theorem dX10_comesOut_44 : decode cX10_comesOut 44 = .ok (.getfield 295, 3) := by decide +kernel
theorem dX10_comesOut_47 : decode cX10_comesOut 47 = .ok (.iconst 1, 1) := by decide +kernel
theorem dX10_comesOut_48 : decode cX10_comesOut 48 = .ok (.isub, 1) := by decide +kernel
theorem dX10_comesOut_49 : decode cX10_comesOut 49 = .ok (.putfield 295, 3) := by decide +kernel
theorem dX10_comesOut_52 : decode cX10_comesOut 52 = .ok (.aload_n 0, 1) := by decide +kernel
theorem dX10_comesOut_53 : decode cX10_comesOut 53 = .ok (.iload_n 2, 1) := by decide +kernel
theorem dX10_comesOut_54 : decode cX10_comesOut 54 = .ok (.bipush 8, 2) := by decide +kernel
theorem dX10_comesOut_56 : decode cX10_comesOut 56 = .ok (.if_icmp .ne 7, 3) := by decide +kernel
theorem dX10_comesOut_59 : decode cX10_comesOut 59 = .ok (.iconst 2, 1) := by decide +kernel
theorem dX10_comesOut_60 : decode cX10_comesOut 60 = .ok (.goto 24, 3) := by decide +kernel
theorem dX10_comesOut_63 : decode cX10_comesOut 63 = .ok (.iload_n 2, 1) := by decide +kernel
theorem dX10_comesOut_64 : decode cX10_comesOut 64 = .ok (.bipush 9, 2) := by decide +kernel
theorem dX10_comesOut_66 : decode cX10_comesOut 66 = .ok (.if_icmp .ne 7, 3) := by decide +kernel
theorem dX10_comesOut_69 : decode cX10_comesOut 69 = .ok (.iconst 3, 1) := by decide +kernel
theorem dX10_comesOut_70 : decode cX10_comesOut 70 = .ok (.goto 14, 3) := by decide +kernel
theorem dX10_comesOut_73 : decode cX10_comesOut 73 = .ok (.iload_n 2, 1) := by decide +kernel
theorem dX10_comesOut_74 : decode cX10_comesOut 74 = .ok (.bipush 10, 2) := by decide +kernel
theorem dX10_comesOut_76 : decode cX10_comesOut 76 = .ok (.if_icmp .ne 7, 3) := by decide +kernel
theorem dX10_comesOut_79 : decode cX10_comesOut 79 = .ok (.iconst 4, 1) := by decide +kernel
theorem dX10_comesOut_80 : decode cX10_comesOut 80 = .ok (.goto 4, 3) := by decide +kernel
theorem dX10_comesOut_83 : decode cX10_comesOut 83 = .ok (.iconst 5, 1) := by decide +kernel
theorem dX10_comesOut_84 : decode cX10_comesOut 84 = .ok (.iconst 0, 1) := by decide +kernel
theorem dX10_comesOut_85 : decode cX10_comesOut 85 = .ok (.invokevirtual 298, 3) := by decide +kernel
theorem dX10_comesOut_88 : decode cX10_comesOut 88 = .ok (.goto (-88), 3) := by decide +kernel
theorem dX10_comesOut_91 : decode cX10_comesOut 91 = .ok (.return_, 1) := by decide +kernel
theorem dX10_expression_0 : decode cX10_expression 0 = .ok (.aload_n 0, 1) := by decide +kernel
theorem dX10_expression_1 : decode cX10_expression 1 = .ok (.iconst 0, 1) := by decide +kernel
theorem dX10_expression_2 : decode cX10_expression 2 = .ok (.putfield 295, 3) := by decide +kernel
theorem dX10_expression_5 : decode cX10_expression 5 = .ok (.aload_n 0, 1) := by decide +kernel
theorem dX10_expression_6 : decode cX10_expression 6 = .ok (.getfield 225, 3) := by decide +kernel
theorem dX10_expression_9 : decode cX10_expression 9 = .ok (.istore_n 1, 1) := by decide +kernel
theorem dX10_expression_10 : decode cX10_expression 10 = .ok (.iconst 1, 1) := by decide +kernel
theorem dX10_expression_11 : decode cX10_expression 11 = .ok (.istore_n 2, 1) := by decide +kernel
theorem dX10_expression_12 : decode cX10_expression 12 = .ok (.iload_n 2, 1) := by decide +kernel
theorem dX10_expression_13 : decode cX10_expression 13 = .ok (.ifCond .eq 259, 3) := by decide +kernel
theorem dX10_expression_16 : decode cX10_expression 16 = .ok (.aload_n 0, 1) := by decide +kernel
theorem dX10_expression_17 : decode cX10_expression 17 = .ok (.getfield 198, 3) := by decide +kernel
theorem dX10_expression_20 : decode cX10_expression 20 = .ok (.ifCond .ne 252, 3) := by decide +kernel
theorem dX10_expression_23 : decode cX10_expression 23 = .ok (.aload_n 0, 1) := by decide +kernel
theorem dX10_expression_24 : decode cX10_expression 24 = .ok (.bipush 6, 2) := by decide +kernel
theorem dX10_expression_26 : decode cX10_expression 26 = .ok (.invokevirtual 216, 3) := by decide +kernel
theorem dX10_expression_29 : decode cX10_expression 29 = .ok (.ifCond .eq 55, 3) := by decide +kernel
theorem dX10_expression_32 : decode cX10_expression 32 = .ok (.aload_n 0, 1) := by decide +kernel
theorem dX10_expression_33 : decode cX10_expression 33 = .ok (.getfield 225, 3) := by decide +kernel
theorem dX10_expression_36 : decode cX10_expression 36 = .ok (.bipush 6, 2) := by decide +kernel
theorem dX10_expression_38 : decode cX10_expression 38 = .ok (.if_icmp .ne 8, 3) := by decide +kernel
theorem dX10_expression_41 : decode cX10_expression 41 = .ok (.aload_n 0, 1) := by decide +kernel
theorem dX10_expression_42 : decode cX10_expression 42 = .ok (.iconst 2, 1) := by decide +kernel
theorem dX10_expression_43 : decode cX10_expression 43 = .ok (.invokevirtual 213, 3) := by decide +kernel
theorem dX10_expression_46 : decode cX10_expression 46 = .ok (.aload_n 0, 1) := by decide +kernel
theorem dX10_expression_47 : decode cX10_expression 47 = .ok (.dup, 1) := by decide +kernel
theorem dX10_expression_48 : decode cX10_expression 48 = .ok (.getfield 225, 3) := by decide +kernel
theorem dX10_expression_51 : decode cX10_expression 51 = .ok (.iconst 1, 1) := by decide +kernel
theorem dX10_expression_52 : decode cX10_expression 52 = .ok (.iadd, 1) := by decide +kernel
theorem dX10_expression_53 : decode cX10_expression 53 = .ok (.putfield 225, 3) := by decide +kernel
theorem dX10_expression_56 : decode cX10_expression 56 = .ok (.aload_n 0, 1) := by decide +kernel
theorem dX10_expression_57 : decode cX10_expression 57 = .ok (.invokevirtual 219, 3) := by decide +kernel
theorem dX10_expression_60 : decode cX10_expression 60 = .ok (.aload_n 0, 1) := by decide +kernel
theorem dX10_expression_61 : decode cX10_expression 61 = .ok (.getfield 98, 3) := by decide +kernel
theorem dX10_expression_64 : decode cX10_expression 64 = .ok (.aload_n 0, 1) := by decide +kernel
theorem dX10_expression_65 : decode cX10_expression 65 = .ok (.getfield 295, 3) := by decide +kernel
theorem dX10_expression_68 : decode cX10_expression 68 = .ok (.bipush 6, 2) := by decide +kernel
theorem dX10_expression_70 : decode cX10_expression 70 = .ok (.iastore, 1) := by decide +kernel
theorem dX10_expression_71 : decode cX10_expression 71 = .ok (.aload_n 0, 1) := by decide +kernel
theorem dX10_expression_72 : decode cX10_expression 72 = .ok (.dup, 1) := by decide +kernel
theorem dX10_expression_73 : decode cX10_expression 73 = .ok (.getfield 295, 3) := by decide +kernel
theorem dX10_expression_76 : decode cX10_expression 76 = .ok (.iconst 1, 1) := by decide +kernel
theorem dX10_expression_77 : decode cX10_expression 77 = .ok (.iadd, 1) := by decide +kernel
theorem dX10_expression_78 : decode cX10_expression 78 = .ok (.putfield 295, 3) := by decide +kernel
theorem dX10_expression_81 : decode cX10_expression 81 = .ok (.goto (-58), 3) := by decide +kernel
theorem dX10_expression_84 : decode cX10_expression 84 = .ok (.aload_n 0, 1) := by decide +kernel
theorem dX10_expression_85 : decode cX10_expression 85 = .ok (.invokevirtual 301, 3) := by decide +kernel
theorem dX10_expression_88 : decode cX10_expression 88 = .ok (.aload_n 0, 1) := by decide +kernel
theorem dX10_expression_89 : decode cX10_expression 89 = .ok (.getfield 198, 3) := by decide +kernel
theorem dX10_expression_92 : decode cX10_expression 92 = .ok (.ifCond .le 4, 3) := by decide +kernel
theorem dX10_expression_95 : decode cX10_expression 95 = .ok (.return_, 1) := by decide +kernel
theorem dX10_expression_96 : decode cX10_expression 96 = .ok (.aload_n 0, 1) := by decide +kernel
theorem dX10_expression_97 : decode cX10_expression 97 = .ok (.bipush 7, 2) := by decide +kernel
theorem dX10_expression_99 : decode cX10_expression 99 = .ok (.invokevirtual 216, 3) := by decide +kernel
theorem dX10_expression_102 : decode cX10_expression 102 = .ok (.ifCond .eq 43, 3) := by decide +kernel
theorem dX10_expression_105 : decode cX10_expression 105 = .ok (.aload_n 0, 1) := by decide +kernel
theorem dX10_expression_106 : decode cX10_expression 106 = .ok (.getfield 225, 3) := by decide +kernel
theorem dX10_expression_109 : decode cX10_expression 109 = .ok (.iload_n 1, 1) := by decide +kernel
theorem dX10_expression_110 : decode cX10_expression 110 = .ok (.if_icmp .le 35, 3) := by decide +kernel
theorem dX10_expression_113 : decode cX10_expression 113 = .ok (.aload_n 0, 1) := by decide +kernel
theorem dX10_expression_114 : decode cX10_expression 114 = .ok (.iconst 0, 1) := by decide +kernel
theorem dX10_expression_115 : decode cX10_expression 115 = .ok (.invokevirtual 304, 3) := by decide +kernel
theorem dX10_expression_118 : decode cX10_expression 118 = .ok (.aload_n 0, 1) := by decide +kernel
theorem dX10_expression_119 : decode cX10_expression 119 = .ok (.dup, 1) := by decide +kernel
theorem dX10_expression_120 : decode cX10_expression 120 = .ok (.getfield 295, 3) := by decide +kernel
theorem dX10_expression_123 : decode cX10_expression 123 = .ok (.iconst 1, 1) := by decide +kernel
theorem dX10_expression_124 : decode cX10_expression 124 = .ok (.isub, 1) := by decide +kernel
theorem dX10_expression_125 : decode cX10_expression 125 = .ok (.putfield 295, 3) := by decide +kernel
theorem dX10_expression_128 : decode cX10_expression 128 = .ok (.aload_n 0, 1) := by decide +kernel
theorem dX10_expression_129 : decode cX10_expression 129 = .ok (.dup, 1) := by decide +kernel
theorem dX10_expression_130 : decode cX10_expression 130 = .ok (.getfield 225, 3) := by decide +kernel
