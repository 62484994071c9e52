/-! decode rows 6 -/
theorem dX10_expression_133 : decode cX10_expression 133 = .ok (.iconst 1, 1) := by decide +kernel
theorem dX10_expression_134 : decode cX10_expression 134 = .ok (.isub, 1) := by decide +kernel
theorem dX10_expression_135 : decode cX10_expression 135 = .ok (.putfield 225, 3) := by decide +kernel
theorem dX10_expression_138 : decode cX10_expression 138 = .ok (.aload_n 0, 1) := by decide +kernel
theorem dX10_expression_139 : decode cX10_expression 139 = .ok (.invokevirtual 219, 3) := by decide +kernel
theorem dX10_expression_142 : decode cX10_expression 142 = .ok (.goto (-46), 3) := by decide +kernel
theorem dX10_expression_145 : decode cX10_expression 145 = .ok (.aload_n 0, 1) := by decide +kernel
theorem dX10_expression_146 : decode cX10_expression 146 = .ok (.bipush 8, 2) := by decide +kernel
theorem dX10_expression_148 : decode cX10_expression 148 = .ok (.invokevirtual 216, 3) := by decide +kernel
theorem dX10_expression_151 : decode cX10_expression 151 = .ok (.ifCond .ne 30, 3) := by decide +kernel
theorem dX10_expression_154 : decode cX10_expression 154 = .ok (.aload_n 0, 1) := by decide +kernel
theorem dX10_expression_155 : decode cX10_expression 155 = .ok (.bipush 9, 2) := by decide +kernel
theorem dX10_expression_157 : decode cX10_expression 157 = .ok (.invokevirtual 216, 3) := by decide +kernel
theorem dX10_expression_160 : decode cX10_expression 160 = .ok (.ifCond .ne 21, 3) := by decide +kernel
theorem dX10_expression_163 : decode cX10_expression 163 = .ok (.aload_n 0, 1) := by decide +kernel
theorem dX10_expression_164 : decode cX10_expression 164 = .ok (.bipush 10, 2) := by decide +kernel
theorem dX10_expression_166 : decode cX10_expression 166 = .ok (.invokevirtual 216, 3) := by decide +kernel
theorem dX10_expression_169 : decode cX10_expression 169 = .ok (.ifCond .ne 12, 3) := by decide +kernel
theorem dX10_expression_172 : decode cX10_expression 172 = .ok (.aload_n 0, 1) := by decide +kernel
theorem dX10_expression_173 : decode cX10_expression 173 = .ok (.bipush 15, 2) := by decide +kernel
theorem dX10_expression_175 : decode cX10_expression 175 = .ok (.invokevirtual 216, 3) := by decide +kernel
theorem dX10_expression_178 : decode cX10_expression 178 = .ok (.ifCond .eq 7, 3) := by decide +kernel
theorem dX10_expression_181 : decode cX10_expression 181 = .ok (.iconst 1, 1) := by decide +kernel
theorem dX10_expression_182 : decode cX10_expression 182 = .ok (.goto 4, 3) := by decide +kernel
theorem dX10_expression_185 : decode cX10_expression 185 = .ok (.iconst 0, 1) := by decide +kernel
theorem dX10_expression_186 : decode cX10_expression 186 = .ok (.istore_n 2, 1) := by decide +kernel
theorem dX10_expression_187 : decode cX10_expression 187 = .ok (.iload_n 2, 1) := by decide +kernel
theorem dX10_expression_188 : decode cX10_expression 188 = .ok (.ifCond .ne 22, 3) := by decide +kernel
theorem dX10_expression_191 : decode cX10_expression 191 = .ok (.aload_n 0, 1) := by decide +kernel
theorem dX10_expression_192 : decode cX10_expression 192 = .ok (.getfield 225, 3) := by decide +kernel
theorem dX10_expression_195 : decode cX10_expression 195 = .ok (.iload_n 1, 1) := by decide +kernel
theorem dX10_expression_196 : decode cX10_expression 196 = .ok (.if_icmp .le 8, 3) := by decide +kernel
theorem dX10_expression_199 : decode cX10_expression 199 = .ok (.aload_n 0, 1) := by decide +kernel
theorem dX10_expression_200 : decode cX10_expression 200 = .ok (.iconst 1, 1) := by decide +kernel
theorem dX10_expression_201 : decode cX10_expression 201 = .ok (.invokevirtual 213, 3) := by decide +kernel
theorem dX10_expression_204 : decode cX10_expression 204 = .ok (.aload_n 0, 1) := by decide +kernel
theorem dX10_expression_205 : decode cX10_expression 205 = .ok (.iconst 0, 1) := by decide +kernel
theorem dX10_expression_206 : decode cX10_expression 206 = .ok (.invokevirtual 304, 3) := by decide +kernel
theorem dX10_expression_209 : decode cX10_expression 209 = .ok (.return_, 1) := by decide +kernel
theorem dX10_expression_210 : decode cX10_expression 210 = .ok (.aload_n 0, 1) := by decide +kernel
theorem dX10_expression_211 : decode cX10_expression 211 = .ok (.aload_n 0, 1) := by decide +kernel
theorem dX10_expression_212 : decode cX10_expression 212 = .ok (.bipush 10, 2) := by decide +kernel
theorem dX10_expression_214 : decode cX10_expression 214 = .ok (.invokevirtual 216, 3) := by decide +kernel
theorem dX10_expression_217 : decode cX10_expression 217 = .ok (.ifCond .ne 12, 3) := by decide +kernel
theorem dX10_expression_220 : decode cX10_expression 220 = .ok (.aload_n 0, 1) := by decide +kernel
theorem dX10_expression_221 : decode cX10_expression 221 = .ok (.bipush 15, 2) := by decide +kernel
theorem dX10_expression_223 : decode cX10_expression 223 = .ok (.invokevirtual 216, 3) := by decide +kernel
theorem dX10_expression_226 : decode cX10_expression 226 = .ok (.ifCond .eq 7, 3) := by decide +kernel
theorem dX10_expression_229 : decode cX10_expression 229 = .ok (.iconst 1, 1) := by decide +kernel
theorem dX10_expression_230 : decode cX10_expression 230 = .ok (.goto 4, 3) := by decide +kernel
theorem dX10_expression_233 : decode cX10_expression 233 = .ok (.iconst 0, 1) := by decide +kernel
theorem dX10_expression_234 : decode cX10_expression 234 = .ok (.invokevirtual 304, 3) := by decide +kernel
theorem dX10_expression_237 : decode cX10_expression 237 = .ok (.aload_n 0, 1) := by decide +kernel
theorem dX10_expression_238 : decode cX10_expression 238 = .ok (.getfield 98, 3) := by decide +kernel
theorem dX10_expression_241 : decode cX10_expression 241 = .ok (.aload_n 0, 1) := by decide +kernel
theorem dX10_expression_242 : decode cX10_expression 242 = .ok (.getfield 295, 3) := by decide +kernel
theorem dX10_expression_245 : decode cX10_expression 245 = .ok (.aload_n 0, 1) := by decide +kernel
theorem dX10_expression_246 : decode cX10_expression 246 = .ok (.getfield 20, 3) := by decide +kernel
theorem dX10_expression_249 : decode cX10_expression 249 = .ok (.aload_n 0, 1) := by decide +kernel
theorem dX10_expression_250 : decode cX10_expression 250 = .ok (.getfield 201, 3) := by decide +kernel
theorem dX10_expression_253 : decode cX10_expression 253 = .ok (.iaload, 1) := by decide +kernel
theorem dX10_expression_254 : decode cX10_expression 254 = .ok (.iastore, 1) := by decide +kernel
theorem dX10_expression_255 : decode cX10_expression 255 = .ok (.aload_n 0, 1) := by decide +kernel
theorem dX10_expression_256 : decode cX10_expression 256 = .ok (.dup, 1) := by decide +kernel
theorem dX10_expression_257 : decode cX10_expression 257 = .ok (.getfield 295, 3) := by decide +kernel
theorem dX10_expression_260 : decode cX10_expression 260 = .ok (.iconst 1, 1) := by decide +kernel
theorem dX10_expression_261 : decode cX10_expression 261 = .ok (.iadd, 1) := by decide +kernel
theorem dX10_expression_262 : decode cX10_expression 262 = .ok (.putfield 295, 3) := by decide +kernel
theorem dX10_expression_265 : decode cX10_expression 265 = .ok (.aload_n 0, 1) := by decide +kernel
theorem dX10_expression_266 : decode cX10_expression 266 = .ok (.invokevirtual 219, 3) := by decide +kernel
theorem dX10_expression_269 : decode cX10_expression 269 = .ok (.goto (-257), 3) := by decide +kernel
theorem dX10_expression_272 : decode cX10_expression 272 = .ok (.return_, 1) := by decide +kernel
theorem dX10_unit_0 : decode cX10_unit 0 = .ok (.aload_n 0, 1) := by decide +kernel
theorem dX10_unit_1 : decode cX10_unit 1 = .ok (.iconst 2, 1) := by decide +kernel
theorem dX10_unit_2 : decode cX10_unit 2 = .ok (.invokevirtual 216, 3) := by decide +kernel
theorem dX10_unit_5 : decode cX10_unit 5 = .ok (.ifCond .eq 24, 3) := by decide +kernel
theorem dX10_unit_8 : decode cX10_unit 8 = .ok (.aload_n 0, 1) := by decide +kernel
theorem dX10_unit_9 : decode cX10_unit 9 = .ok (.iconst 0, 1) := by decide +kernel
theorem dX10_unit_10 : decode cX10_unit 10 = .ok (.aload_n 0, 1) := by decide +kernel
theorem dX10_unit_11 : decode cX10_unit 11 = .ok (.getfield 27, 3) := by decide +kernel
theorem dX10_unit_14 : decode cX10_unit 14 = .ok (.aload_n 0, 1) := by decide +kernel
theorem dX10_unit_15 : decode cX10_unit 15 = .ok (.getfield 201, 3) := by decide +kernel
theorem dX10_unit_18 : decode cX10_unit 18 = .ok (.iaload, 1) := by decide +kernel
theorem dX10_unit_19 : decode cX10_unit 19 = .ok (.invokevirtual 298, 3) := by decide +kernel
theorem dX10_unit_22 : decode cX10_unit 22 = .ok (.aload_n 0, 1) := by decide +kernel
theorem dX10_unit_23 : decode cX10_unit 23 = .ok (.invokevirtual 219, 3) := by decide +kernel
theorem dX10_unit_26 : decode cX10_unit 26 = .ok (.goto 67, 3) := by decide +kernel
theorem dX10_unit_29 : decode cX10_unit 29 = .ok (.aload_n 0, 1) := by decide +kernel
theorem dX10_unit_30 : decode cX10_unit 30 = .ok (.getfield 198, 3) := by decide +kernel
theorem dX10_unit_33 : decode cX10_unit 33 = .ok (.ifCond .ne 55, 3) := by decide +kernel
theorem dX10_unit_36 : decode cX10_unit 36 = .ok (.aload_n 0, 1) := by decide +kernel
theorem dX10_unit_37 : decode cX10_unit 37 = .ok (.getfield 20, 3) := by decide +kernel
theorem dX10_unit_40 : decode cX10_unit 40 = .ok (.aload_n 0, 1) := by decide +kernel
theorem dX10_unit_41 : decode cX10_unit 41 = .ok (.getfield 201, 3) := by decide +kernel
theorem dX10_unit_44 : decode cX10_unit 44 = .ok (.iaload, 1) := by decide +kernel
theorem dX10_unit_45 : decode cX10_unit 45 = .ok (.bipush 31, 2) := by decide +kernel
theorem dX10_unit_47 : decode cX10_unit 47 = .ok (.if_icmp .lt 41, 3) := by decide +kernel
theorem dX10_unit_50 : decode cX10_unit 50 = .ok (.aload_n 0, 1) := by decide +kernel
theorem dX10_unit_51 : decode cX10_unit 51 = .ok (.getfield 20, 3) := by decide +kernel
theorem dX10_unit_54 : decode cX10_unit 54 = .ok (.aload_n 0, 1) := by decide +kernel
theorem dX10_unit_55 : decode cX10_unit 55 = .ok (.getfield 201, 3) := by decide +kernel
theorem dX10_unit_58 : decode cX10_unit 58 = .ok (.iaload, 1) := by decide +kernel
theorem dX10_unit_59 : decode cX10_unit 59 = .ok (.bipush 36, 2) := by decide +kernel
theorem dX10_unit_61 : decode cX10_unit 61 = .ok (.if_icmp .gt 27, 3) := by decide +kernel
theorem dX10_unit_64 : decode cX10_unit 64 = .ok (.aload_n 0, 1) := by decide +kernel
theorem dX10_unit_65 : decode cX10_unit 65 = .ok (.iconst 1, 1) := by decide +kernel
theorem dX10_unit_66 : decode cX10_unit 66 = .ok (.aload_n 0, 1) := by decide +kernel
theorem dX10_unit_67 : decode cX10_unit 67 = .ok (.getfield 20, 3) := by decide +kernel
theorem dX10_unit_70 : decode cX10_unit 70 = .ok (.aload_n 0, 1) := by decide +kernel
theorem dX10_unit_71 : decode cX10_unit 71 = .ok (.getfield 201, 3) := by decide +kernel
theorem dX10_unit_74 : decode cX10_unit 74 = .ok (.iaload, 1) := by decide +kernel
theorem dX10_unit_75 : decode cX10_unit 75 = .ok (.bipush 31, 2) := by decide +kernel
theorem dX10_unit_77 : decode cX10_unit 77 = .ok (.isub, 1) := by decide +kernel
theorem dX10_unit_78 : decode cX10_unit 78 = .ok (.invokevirtual 298, 3) := by decide +kernel
theorem dX10_unit_81 : decode cX10_unit 81 = .ok (.aload_n 0, 1) := by decide +kernel
theorem dX10_unit_82 : decode cX10_unit 82 = .ok (.invokevirtual 219, 3) := by decide +kernel
theorem dX10_unit_85 : decode cX10_unit 85 = .ok (.goto 8, 3) := by decide +kernel
theorem dX10_unit_88 : decode cX10_unit 88 = .ok (.aload_n 0, 1) := by decide +kernel
theorem dX10_unit_89 : decode cX10_unit 89 = .ok (.iconst 1, 1) := by decide +kernel
theorem dX10_unit_90 : decode cX10_unit 90 = .ok (.invokevirtual 213, 3) := by decide +kernel
theorem dX10_unit_93 : decode cX10_unit 93 = .ok (.return_, 1) := by decide +kernel
theorem dX10_termOf_0 : decode cX10_termOf 0 = .ok (.iconst 0, 1) := by decide +kernel
theorem dX10_termOf_1 : decode cX10_termOf 1 = .ok (.istore_n 3, 1) := by decide +kernel
theorem dX10_termOf_2 : decode cX10_termOf 2 = .ok (.iload_n 1, 1) := by decide +kernel
theorem dX10_termOf_3 : decode cX10_termOf 3 = .ok (.istore 4, 2) := by decide +kernel
theorem dX10_termOf_5 : decode cX10_termOf 5 = .ok (.iload 4, 2) := by decide +kernel
theorem dX10_termOf_7 : decode cX10_termOf 7 = .ok (.iload_n 2, 1) := by decide +kernel
theorem dX10_termOf_8 : decode cX10_termOf 8 = .ok (.if_icmp .ge 157, 3) := by decide +kernel
theorem dX10_termOf_11 : decode cX10_termOf 11 = .ok (.aload_n 0, 1) := by decide +kernel
theorem dX10_termOf_12 : decode cX10_termOf 12 = .ok (.getfield 92, 3) := by decide +kernel
theorem dX10_termOf_15 : decode cX10_termOf 15 = .ok (.iload 4, 2) := by decide +kernel
theorem dX10_termOf_17 : decode cX10_termOf 17 = .ok (.iaload, 1) := by decide +kernel
theorem dX10_termOf_18 : decode cX10_termOf 18 = .ok (.istore 5, 2) := by decide +kernel
theorem dX10_termOf_20 : decode cX10_termOf 20 = .ok (.iload 5, 2) := by decide +kernel
theorem dX10_termOf_22 : decode cX10_termOf 22 = .ok (.iconst 2, 1) := by decide +kernel
theorem dX10_termOf_23 : decode cX10_termOf 23 = .ok (.if_icmp .ge 42, 3) := by decide +kernel
theorem dX10_termOf_26 : decode cX10_termOf 26 = .ok (.aload_n 0, 1) := by decide +kernel
theorem dX10_termOf_27 : decode cX10_termOf 27 = .ok (.getfield 104, 3) := by decide +kernel
theorem dX10_termOf_30 : decode cX10_termOf 30 = .ok (.iload_n 3, 1) := by decide +kernel
theorem dX10_termOf_31 : decode cX10_termOf 31 = .ok (.iload 5, 2) := by decide +kernel
theorem dX10_termOf_33 : decode cX10_termOf 33 = .ok (.ifCond .ne 13, 3) := by decide +kernel
theorem dX10_termOf_36 : decode cX10_termOf 36 = .ok (.aload_n 0, 1) := by decide +kernel
theorem dX10_termOf_37 : decode cX10_termOf 37 = .ok (.getfield 95, 3) := by decide +kernel
theorem dX10_termOf_40 : decode cX10_termOf 40 = .ok (.iload 4, 2) := by decide +kernel
theorem dX10_termOf_42 : decode cX10_termOf 42 = .ok (.iaload, 1) := by decide +kernel
theorem dX10_termOf_43 : decode cX10_termOf 43 = .ok (.goto 15, 3) := by decide +kernel
theorem dX10_termOf_46 : decode cX10_termOf 46 = .ok (.aload_n 0, 1) := by decide +kernel
theorem dX10_termOf_47 : decode cX10_termOf 47 = .ok (.getfield 101, 3) := by decide +kernel
theorem dX10_termOf_50 : decode cX10_termOf 50 = .ok (.aload_n 0, 1) := by decide +kernel
theorem dX10_termOf_51 : decode cX10_termOf 51 = .ok (.getfield 95, 3) := by decide +kernel
theorem dX10_termOf_54 : decode cX10_termOf 54 = .ok (.iload 4, 2) := by decide +kernel
theorem dX10_termOf_56 : decode cX10_termOf 56 = .ok (.iaload, 1) := by decide +kernel
theorem dX10_termOf_57 : decode cX10_termOf 57 = .ok (.iaload, 1) := by decide +kernel
theorem dX10_termOf_58 : decode cX10_termOf 58 = .ok (.iastore, 1) := by decide +kernel
theorem dX10_termOf_59 : decode cX10_termOf 59 = .ok (.iinc 3 1, 3) := by decide +kernel
theorem dX10_termOf_62 : decode cX10_termOf 62 = .ok (.goto 97, 3) := by decide +kernel
theorem dX10_termOf_65 : decode cX10_termOf 65 = .ok (.iinc 3 (-1), 3) := by decide +kernel
theorem dX10_termOf_68 : decode cX10_termOf 68 = .ok (.aload_n 0, 1) := by decide +kernel
theorem dX10_termOf_69 : decode cX10_termOf 69 = .ok (.getfield 104, 3) := by decide +kernel
theorem dX10_termOf_72 : decode cX10_termOf 72 = .ok (.iload_n 3, 1) := by decide +kernel
theorem dX10_termOf_73 : decode cX10_termOf 73 = .ok (.iconst 1, 1) := by decide +kernel
theorem dX10_termOf_74 : decode cX10_termOf 74 = .ok (.isub, 1) := by decide +kernel
theorem dX10_termOf_75 : decode cX10_termOf 75 = .ok (.iaload, 1) := by decide +kernel
theorem dX10_termOf_76 : decode cX10_termOf 76 = .ok (.istore 6, 2) := by decide +kernel
theorem dX10_termOf_78 : decode cX10_termOf 78 = .ok (.aload_n 0, 1) := by decide +kernel
theorem dX10_termOf_79 : decode cX10_termOf 79 = .ok (.getfield 104, 3) := by decide +kernel
theorem dX10_termOf_82 : decode cX10_termOf 82 = .ok (.iload_n 3, 1) := by decide +kernel
theorem dX10_termOf_83 : decode cX10_termOf 83 = .ok (.iaload, 1) := by decide +kernel
theorem dX10_termOf_84 : decode cX10_termOf 84 = .ok (.istore 7, 2) := by decide +kernel
theorem dX10_termOf_86 : decode cX10_termOf 86 = .ok (.iload 5, 2) := by decide +kernel
theorem dX10_termOf_88 : decode cX10_termOf 88 = .ok (.iconst 5, 1) := by decide +kernel
theorem dX10_termOf_89 : decode cX10_termOf 89 = .ok (.if_icmp .ne 15, 3) := by decide +kernel
theorem dX10_termOf_92 : decode cX10_termOf 92 = .ok (.iload 7, 2) := by decide +kernel
theorem dX10_termOf_94 : decode cX10_termOf 94 = .ok (.ifCond .ne 10, 3) := by decide +kernel
theorem dX10_termOf_97 : decode cX10_termOf 97 = .ok (.aload_n 0, 1) := by decide +kernel
theorem dX10_termOf_98 : decode cX10_termOf 98 = .ok (.iconst 1, 1) := by decide +kernel
theorem dX10_termOf_99 : decode cX10_termOf 99 = .ok (.putfield 308, 3) := by decide +kernel
theorem dX10_termOf_102 : decode cX10_termOf 102 = .ok (.iconst 0, 1) := by decide +kernel
theorem dX10_termOf_103 : decode cX10_termOf 103 = .ok (.ireturn, 1) := by decide +kernel
theorem dX10_termOf_104 : decode cX10_termOf 104 = .ok (.aload_n 0, 1) := by decide +kernel
theorem dX10_termOf_105 : decode cX10_termOf 105 = .ok (.getfield 104, 3) := by decide +kernel
theorem dX10_termOf_108 : decode cX10_termOf 108 = .ok (.iload_n 3, 1) := by decide +kernel
theorem dX10_termOf_109 : decode cX10_termOf 109 = .ok (.iconst 1, 1) := by decide +kernel
theorem dX10_termOf_110 : decode cX10_termOf 110 = .ok (.isub, 1) := by decide +kernel
theorem dX10_termOf_111 : decode cX10_termOf 111 = .ok (.iload 5, 2) := by decide +kernel
theorem dX10_termOf_113 : decode cX10_termOf 113 = .ok (.iconst 2, 1) := by decide +kernel
theorem dX10_termOf_114 : decode cX10_termOf 114 = .ok (.if_icmp .ne 11, 3) := by decide +kernel
theorem dX10_termOf_117 : decode cX10_termOf 117 = .ok (.iload 6, 2) := by decide +kernel
theorem dX10_termOf_119 : decode cX10_termOf 119 = .ok (.iload 7, 2) := by decide +kernel
theorem dX10_termOf_121 : decode cX10_termOf 121 = .ok (.iadd, 1) := by decide +kernel
theorem dX10_termOf_122 : decode cX10_termOf 122 = .ok (.goto 36, 3) := by decide +kernel
theorem dX10_termOf_125 : decode cX10_termOf 125 = .ok (.iload 5, 2) := by decide +kernel
theorem dX10_termOf_127 : decode cX10_termOf 127 = .ok (.iconst 3, 1) := by decide +kernel
theorem dX10_termOf_128 : decode cX10_termOf 128 = .ok (.if_icmp .ne 11, 3) := by decide +kernel
theorem dX10_termOf_131 : decode cX10_termOf 131 = .ok (.iload 6, 2) := by decide +kernel
theorem dX10_termOf_133 : decode cX10_termOf 133 = .ok (.iload 7, 2) := by decide +kernel
theorem dX10_termOf_135 : decode cX10_termOf 135 = .ok (.isub, 1) := by decide +kernel
theorem dX10_termOf_136 : decode cX10_termOf 136 = .ok (.goto 22, 3) := by decide +kernel
theorem dX10_termOf_139 : decode cX10_termOf 139 = .ok (.iload 5, 2) := by decide +kernel
theorem dX10_termOf_141 : decode cX10_termOf 141 = .ok (.iconst 4, 1) := by decide +kernel
theorem dX10_termOf_142 : decode cX10_termOf 142 = .ok (.if_icmp .ne 11, 3) := by decide +kernel
theorem dX10_termOf_145 : decode cX10_termOf 145 = .ok (.iload 6, 2) := by decide +kernel
theorem dX10_termOf_147 : decode cX10_termOf 147 = .ok (.iload 7, 2) := by decide +kernel
theorem dX10_termOf_149 : decode cX10_termOf 149 = .ok (.imul, 1) := by decide +kernel
theorem dX10_termOf_150 : decode cX10_termOf 150 = .ok (.goto 8, 3) := by decide +kernel
theorem dX10_termOf_153 : decode cX10_termOf 153 = .ok (.iload 6, 2) := by decide +kernel
theorem dX10_termOf_155 : decode cX10_termOf 155 = .ok (.iload 7, 2) := by decide +kernel
theorem dX10_termOf_157 : decode cX10_termOf 157 = .ok (.idiv, 1) := by decide +kernel
theorem dX10_termOf_158 : decode cX10_termOf 158 = .ok (.iastore, 1) := by decide +kernel
theorem dX10_termOf_159 : decode cX10_termOf 159 = .ok (.iinc 4 1, 3) := by decide +kernel
theorem dX10_termOf_162 : decode cX10_termOf 162 = .ok (.goto (-157), 3) := by decide +kernel
theorem dX10_termOf_165 : decode cX10_termOf 165 = .ok (.aload_n 0, 1) := by decide +kernel
theorem dX10_termOf_166 : decode cX10_termOf 166 = .ok (.getfield 104, 3) := by decide +kernel
theorem dX10_termOf_169 : decode cX10_termOf 169 = .ok (.iconst 0, 1) := by decide +kernel
theorem dX10_termOf_170 : decode cX10_termOf 170 = .ok (.iaload, 1) := by decide +kernel
theorem dX10_termOf_171 : decode cX10_termOf 171 = .ok (.ireturn, 1) := by decide +kernel
theorem dX10_in_0 : decode cX10_in 0 = .ok (.iload_n 0, 1) := by decide +kernel
theorem dX10_in_1 : decode cX10_in 1 = .ok (.iload_n 1, 1) := by decide +kernel
theorem dX10_in_2 : decode cX10_in 2 = .ok (.if_icmp .lt 12, 3) := by decide +kernel
theorem dX10_in_5 : decode cX10_in 5 = .ok (.iload_n 0, 1) := by decide +kernel
theorem dX10_in_6 : decode cX10_in 6 = .ok (.iload_n 2, 1) := by decide +kernel
theorem dX10_in_7 : decode cX10_in 7 = .ok (.if_icmp .gt 7, 3) := by decide +kernel
theorem dX10_in_10 : decode cX10_in 10 = .ok (.iconst 1, 1) := by decide +kernel
theorem dX10_in_11 : decode cX10_in 11 = .ok (.goto 4, 3) := by decide +kernel
theorem dX10_in_14 : decode cX10_in 14 = .ok (.iconst 0, 1) := by decide +kernel
theorem dX10_in_15 : decode cX10_in 15 = .ok (.ireturn, 1) := by decide +kernel
theorem dX10_isMan_0 : decode cX10_isMan 0 = .ok (.iload_n 1, 1) := by decide +kernel
theorem dX10_isMan_1 : decode cX10_isMan 1 = .ok (.iconst 0, 1) := by decide +kernel
theorem dX10_isMan_2 : decode cX10_isMan 2 = .ok (.aload_n 0, 1) := by decide +kernel
theorem dX10_isMan_3 : decode cX10_isMan 3 = .ok (.getfield 49, 3) := by decide +kernel
theorem dX10_isMan_6 : decode cX10_isMan 6 = .ok (.aload_n 0, 1) := by decide +kernel
theorem dX10_isMan_7 : decode cX10_isMan 7 = .ok (.getfield 228, 3) := by decide +kernel
theorem dX10_isMan_10 : decode cX10_isMan 10 = .ok (.iaload, 1) := by decide +kernel
theorem dX10_isMan_11 : decode cX10_isMan 11 = .ok (.iconst 1, 1) := by decide +kernel
theorem dX10_isMan_12 : decode cX10_isMan 12 = .ok (.isub, 1) := by decide +kernel
theorem dX10_isMan_13 : decode cX10_isMan 13 = .ok (.invokestatic 312, 3) := by decide +kernel
theorem dX10_isMan_16 : decode cX10_isMan 16 = .ok (.ireturn, 1) := by decide +kernel
theorem dX10_isDeed_0 : decode cX10_isDeed 0 = .ok (.iload_n 1, 1) := by decide +kernel
theorem dX10_isDeed_1 : decode cX10_isDeed 1 = .ok (.iconst 0, 1) := by decide +kernel
theorem dX10_isDeed_2 : decode cX10_isDeed 2 = .ok (.aload_n 0, 1) := by decide +kernel
theorem dX10_isDeed_3 : decode cX10_isDeed 3 = .ok (.getfield 55, 3) := by decide +kernel
theorem dX10_isDeed_6 : decode cX10_isDeed 6 = .ok (.aload_n 0, 1) := by decide +kernel
theorem dX10_isDeed_7 : decode cX10_isDeed 7 = .ok (.getfield 228, 3) := by decide +kernel
theorem dX10_isDeed_10 : decode cX10_isDeed 10 = .ok (.iaload, 1) := by decide +kernel
theorem dX10_isDeed_11 : decode cX10_isDeed 11 = .ok (.iconst 1, 1) := by decide +kernel
theorem dX10_isDeed_12 : decode cX10_isDeed 12 = .ok (.isub, 1) := by decide +kernel
theorem dX10_isDeed_13 : decode cX10_isDeed 13 = .ok (.invokestatic 312, 3) := by decide +kernel
theorem dX10_isDeed_16 : decode cX10_isDeed 16 = .ok (.ireturn, 1) := by decide +kernel
theorem dX10_copies_0 : decode cX10_copies 0 = .ok (.iconst 0, 1) := by decide +kernel
theorem dX10_copies_1 : decode cX10_copies 1 = .ok (.istore_n 1, 1) := by decide +kernel
theorem dX10_copies_2 : decode cX10_copies 2 = .ok (.iload_n 1, 1) := by decide +kernel
theorem dX10_copies_3 : decode cX10_copies 3 = .ok (.sipush 210, 3) := by decide +kernel
theorem dX10_copies_6 : decode cX10_copies 6 = .ok (.if_icmp .ge 21, 3) := by decide +kernel
theorem dX10_copies_9 : decode cX10_copies 9 = .ok (.aload_n 0, 1) := by decide +kernel
theorem dX10_copies_10 : decode cX10_copies 10 = .ok (.getfield 110, 3) := by decide +kernel
theorem dX10_copies_13 : decode cX10_copies 13 = .ok (.iload_n 1, 1) := by decide +kernel
theorem dX10_copies_14 : decode cX10_copies 14 = .ok (.aload_n 0, 1) := by decide +kernel
theorem dX10_copies_15 : decode cX10_copies 15 = .ok (.getfield 107, 3) := by decide +kernel
theorem dX10_copies_18 : decode cX10_copies 18 = .ok (.iload_n 1, 1) := by decide +kernel
theorem dX10_copies_19 : decode cX10_copies 19 = .ok (.iaload, 1) := by decide +kernel
theorem dX10_copies_20 : decode cX10_copies 20 = .ok (.iastore, 1) := by decide +kernel
theorem dX10_copies_21 : decode cX10_copies 21 = .ok (.iinc 1 1, 3) := by decide +kernel
theorem dX10_copies_24 : decode cX10_copies 24 = .ok (.goto (-22), 3) := by decide +kernel
theorem dX10_copies_27 : decode cX10_copies 27 = .ok (.return_, 1) := by decide +kernel
theorem dX10_copiesAll_0 : decode cX10_copiesAll 0 = .ok (.iconst 0, 1) := by decide +kernel
theorem dX10_copiesAll_1 : decode cX10_copiesAll 1 = .ok (.istore_n 1, 1) := by decide +kernel
theorem dX10_copiesAll_2 : decode cX10_copiesAll 2 = .ok (.iload_n 1, 1) := by decide +kernel
theorem dX10_copiesAll_3 : decode cX10_copiesAll 3 = .ok (.sipush 1720, 3) := by decide +kernel
theorem dX10_copiesAll_6 : decode cX10_copiesAll 6 = .ok (.if_icmp .ge 21, 3) := by decide +kernel
theorem dX10_copiesAll_9 : decode cX10_copiesAll 9 = .ok (.aload_n 0, 1) := by decide +kernel
theorem dX10_copiesAll_10 : decode cX10_copiesAll 10 = .ok (.getfield 110, 3) := by decide +kernel
theorem dX10_copiesAll_13 : decode cX10_copiesAll 13 = .ok (.iload_n 1, 1) := by decide +kernel
theorem dX10_copiesAll_14 : decode cX10_copiesAll 14 = .ok (.aload_n 0, 1) := by decide +kernel
theorem dX10_copiesAll_15 : decode cX10_copiesAll 15 = .ok (.getfield 107, 3) := by decide +kernel
theorem dX10_copiesAll_18 : decode cX10_copiesAll 18 = .ok (.iload_n 1, 1) := by decide +kernel
theorem dX10_copiesAll_19 : decode cX10_copiesAll 19 = .ok (.iaload, 1) := by decide +kernel
theorem dX10_copiesAll_20 : decode cX10_copiesAll 20 = .ok (.iastore, 1) := by decide +kernel
theorem dX10_copiesAll_21 : decode cX10_copiesAll 21 = .ok (.iinc 1 1, 3) := by decide +kernel
theorem dX10_copiesAll_24 : decode cX10_copiesAll 24 = .ok (.goto (-22), 3) := by decide +kernel
theorem dX10_copiesAll_27 : decode cX10_copiesAll 27 = .ok (.return_, 1) := by decide +kernel
theorem dX10_haveOf_0 : decode cX10_haveOf 0 = .ok (.iconst 0, 1) := by decide +kernel
theorem dX10_haveOf_1 : decode cX10_haveOf 1 = .ok (.istore_n 2, 1) := by decide +kernel
theorem dX10_haveOf_2 : decode cX10_haveOf 2 = .ok (.iconst 0, 1) := by decide +kernel
theorem dX10_haveOf_3 : decode cX10_haveOf 3 = .ok (.istore_n 3, 1) := by decide +kernel
theorem dX10_haveOf_4 : decode cX10_haveOf 4 = .ok (.iload_n 3, 1) := by decide +kernel
theorem dX10_haveOf_5 : decode cX10_haveOf 5 = .ok (.bipush 8, 2) := by decide +kernel
theorem dX10_haveOf_7 : decode cX10_haveOf 7 = .ok (.if_icmp .ge 23, 3) := by decide +kernel
theorem dX10_haveOf_10 : decode cX10_haveOf 10 = .ok (.iload_n 2, 1) := by decide +kernel
theorem dX10_haveOf_11 : decode cX10_haveOf 11 = .ok (.aload_n 0, 1) := by decide +kernel
theorem dX10_haveOf_12 : decode cX10_haveOf 12 = .ok (.getfield 110, 3) := by decide +kernel
theorem dX10_haveOf_15 : decode cX10_haveOf 15 = .ok (.bipush 8, 2) := by decide +kernel
theorem dX10_haveOf_17 : decode cX10_haveOf 17 = .ok (.iload_n 1, 1) := by decide +kernel
theorem dX10_haveOf_18 : decode cX10_haveOf 18 = .ok (.imul, 1) := by decide +kernel
theorem dX10_haveOf_19 : decode cX10_haveOf 19 = .ok (.iload_n 3, 1) := by decide +kernel
theorem dX10_haveOf_20 : decode cX10_haveOf 20 = .ok (.iadd, 1) := by decide +kernel
theorem dX10_haveOf_21 : decode cX10_haveOf 21 = .ok (.iaload, 1) := by decide +kernel
theorem dX10_haveOf_22 : decode cX10_haveOf 22 = .ok (.iadd, 1) := by decide +kernel
theorem dX10_haveOf_23 : decode cX10_haveOf 23 = .ok (.istore_n 2, 1) := by decide +kernel
theorem dX10_haveOf_24 : decode cX10_haveOf 24 = .ok (.iinc 3 1, 3) := by decide +kernel
theorem dX10_haveOf_27 : decode cX10_haveOf 27 = .ok (.goto (-23), 3) := by decide +kernel
theorem dX10_haveOf_30 : decode cX10_haveOf 30 = .ok (.iload_n 2, 1) := by decide +kernel
theorem dX10_haveOf_31 : decode cX10_haveOf 31 = .ok (.ireturn, 1) := by decide +kernel
theorem dX10_timesOf_0 : decode cX10_timesOf 0 = .ok (.iconst 0, 1) := by decide +kernel
theorem dX10_timesOf_1 : decode cX10_timesOf 1 = .ok (.istore_n 2, 1) := by decide +kernel
theorem dX10_timesOf_2 : decode cX10_timesOf 2 = .ok (.iconst 0, 1) := by decide +kernel
theorem dX10_timesOf_3 : decode cX10_timesOf 3 = .ok (.istore_n 3, 1) := by decide +kernel
theorem dX10_timesOf_4 : decode cX10_timesOf 4 = .ok (.iload_n 3, 1) := by decide +kernel
theorem dX10_timesOf_5 : decode cX10_timesOf 5 = .ok (.bipush 8, 2) := by decide +kernel
theorem dX10_timesOf_7 : decode cX10_timesOf 7 = .ok (.if_icmp .ge 27, 3) := by decide +kernel
theorem dX10_timesOf_10 : decode cX10_timesOf 10 = .ok (.iload_n 2, 1) := by decide +kernel
theorem dX10_timesOf_11 : decode cX10_timesOf 11 = .ok (.aload_n 0, 1) := by decide +kernel
theorem dX10_timesOf_12 : decode cX10_timesOf 12 = .ok (.getfield 110, 3) := by decide +kernel
theorem dX10_timesOf_15 : decode cX10_timesOf 15 = .ok (.sipush 136, 3) := by decide +kernel
theorem dX10_timesOf_18 : decode cX10_timesOf 18 = .ok (.bipush 8, 2) := by decide +kernel
theorem dX10_timesOf_20 : decode cX10_timesOf 20 = .ok (.iload_n 1, 1) := by decide +kernel
theorem dX10_timesOf_21 : decode cX10_timesOf 21 = .ok (.imul, 1) := by decide +kernel
theorem dX10_timesOf_22 : decode cX10_timesOf 22 = .ok (.iadd, 1) := by decide +kernel
theorem dX10_timesOf_23 : decode cX10_timesOf 23 = .ok (.iload_n 3, 1) := by decide +kernel
theorem dX10_timesOf_24 : decode cX10_timesOf 24 = .ok (.iadd, 1) := by decide +kernel
theorem dX10_timesOf_25 : decode cX10_timesOf 25 = .ok (.iaload, 1) := by decide +kernel
theorem dX10_timesOf_26 : decode cX10_timesOf 26 = .ok (.iadd, 1) := by decide +kernel
theorem dX10_timesOf_27 : decode cX10_timesOf 27 = .ok (.istore_n 2, 1) := by decide +kernel
theorem dX10_timesOf_28 : decode cX10_timesOf 28 = .ok (.iinc 3 1, 3) := by decide +kernel
theorem dX10_timesOf_31 : decode cX10_timesOf 31 = .ok (.goto (-27), 3) := by decide +kernel
theorem dX10_timesOf_34 : decode cX10_timesOf 34 = .ok (.iload_n 2, 1) := by decide +kernel
theorem dX10_timesOf_35 : decode cX10_timesOf 35 = .ok (.ireturn, 1) := by decide +kernel
theorem dX10_windOn_0 : decode cX10_windOn 0 = .ok (.aload_n 0, 1) := by decide +kernel
theorem dX10_windOn_1 : decode cX10_windOn 1 = .ok (.getfield 61, 3) := by decide +kernel
theorem dX10_windOn_4 : decode cX10_windOn 4 = .ok (.aload_n 0, 1) := by decide +kernel
theorem dX10_windOn_5 : decode cX10_windOn 5 = .ok (.getfield 228, 3) := by decide +kernel
theorem dX10_windOn_8 : decode cX10_windOn 8 = .ok (.iaload, 1) := by decide +kernel
theorem dX10_windOn_9 : decode cX10_windOn 9 = .ok (.ifCond .ne 7, 3) := by decide +kernel
theorem dX10_windOn_12 : decode cX10_windOn 12 = .ok (.iconst 0, 1) := by decide +kernel
theorem dX10_windOn_13 : decode cX10_windOn 13 = .ok (.goto 27, 3) := by decide +kernel
theorem dX10_windOn_16 : decode cX10_windOn 16 = .ok (.aload_n 0, 1) := by decide +kernel
theorem dX10_windOn_17 : decode cX10_windOn 17 = .ok (.getfield 64, 3) := by decide +kernel
theorem dX10_windOn_20 : decode cX10_windOn 20 = .ok (.bipush 12, 2) := by decide +kernel
theorem dX10_windOn_22 : decode cX10_windOn 22 = .ok (.aload_n 0, 1) := by decide +kernel
theorem dX10_windOn_23 : decode cX10_windOn 23 = .ok (.getfield 228, 3) := by decide +kernel
theorem dX10_windOn_26 : decode cX10_windOn 26 = .ok (.imul, 1) := by decide +kernel
theorem dX10_windOn_27 : decode cX10_windOn 27 = .ok (.iload_n 1, 1) := by decide +kernel
theorem dX10_windOn_28 : decode cX10_windOn 28 = .ok (.aload_n 0, 1) := by decide +kernel
theorem dX10_windOn_29 : decode cX10_windOn 29 = .ok (.getfield 61, 3) := by decide +kernel
theorem dX10_windOn_32 : decode cX10_windOn 32 = .ok (.aload_n 0, 1) := by decide +kernel
theorem dX10_windOn_33 : decode cX10_windOn 33 = .ok (.getfield 228, 3) := by decide +kernel
theorem dX10_windOn_36 : decode cX10_windOn 36 = .ok (.iaload, 1) := by decide +kernel
theorem dX10_windOn_37 : decode cX10_windOn 37 = .ok (.irem, 1) := by decide +kernel
theorem dX10_windOn_38 : decode cX10_windOn 38 = .ok (.iadd, 1) := by decide +kernel
theorem dX10_windOn_39 : decode cX10_windOn 39 = .ok (.iaload, 1) := by decide +kernel
theorem dX10_windOn_40 : decode cX10_windOn 40 = .ok (.ireturn, 1) := by decide +kernel
theorem dX10_setsOf_0 : decode cX10_setsOf 0 = .ok (.aload_n 0, 1) := by decide +kernel
theorem dX10_setsOf_1 : decode cX10_setsOf 1 = .ok (.getfield 101, 3) := by decide +kernel
theorem dX10_setsOf_4 : decode cX10_setsOf 4 = .ok (.iconst 0, 1) := by decide +kernel
theorem dX10_setsOf_5 : decode cX10_setsOf 5 = .ok (.iload_n 2, 1) := by decide +kernel
theorem dX10_setsOf_6 : decode cX10_setsOf 6 = .ok (.iastore, 1) := by decide +kernel
theorem dX10_setsOf_7 : decode cX10_setsOf 7 = .ok (.aload_n 0, 1) := by decide +kernel
theorem dX10_setsOf_8 : decode cX10_setsOf 8 = .ok (.getfield 101, 3) := by decide +kernel
theorem dX10_setsOf_11 : decode cX10_setsOf 11 = .ok (.iconst 1, 1) := by decide +kernel
theorem dX10_setsOf_12 : decode cX10_setsOf 12 = .ok (.iload_n 3, 1) := by decide +kernel
theorem dX10_setsOf_13 : decode cX10_setsOf 13 = .ok (.iastore, 1) := by decide +kernel
theorem dX10_setsOf_14 : decode cX10_setsOf 14 = .ok (.aload_n 0, 1) := by decide +kernel
theorem dX10_setsOf_15 : decode cX10_setsOf 15 = .ok (.getfield 101, 3) := by decide +kernel
theorem dX10_setsOf_18 : decode cX10_setsOf 18 = .ok (.iconst 2, 1) := by decide +kernel
theorem dX10_setsOf_19 : decode cX10_setsOf 19 = .ok (.aload_n 0, 1) := by decide +kernel
theorem dX10_setsOf_20 : decode cX10_setsOf 20 = .ok (.getfield 110, 3) := by decide +kernel
theorem dX10_setsOf_23 : decode cX10_setsOf 23 = .ok (.sipush 200, 3) := by decide +kernel
theorem dX10_setsOf_26 : decode cX10_setsOf 26 = .ok (.iaload, 1) := by decide +kernel
theorem dX10_setsOf_27 : decode cX10_setsOf 27 = .ok (.iastore, 1) := by decide +kernel
theorem dX10_setsOf_28 : decode cX10_setsOf 28 = .ok (.aload_n 0, 1) := by decide +kernel
theorem dX10_setsOf_29 : decode cX10_setsOf 29 = .ok (.getfield 101, 3) := by decide +kernel
theorem dX10_setsOf_32 : decode cX10_setsOf 32 = .ok (.iconst 3, 1) := by decide +kernel
theorem dX10_setsOf_33 : decode cX10_setsOf 33 = .ok (.aload_n 0, 1) := by decide +kernel
theorem dX10_setsOf_34 : decode cX10_setsOf 34 = .ok (.aload_n 0, 1) := by decide +kernel
theorem dX10_setsOf_35 : decode cX10_setsOf 35 = .ok (.getfield 110, 3) := by decide +kernel
theorem dX10_setsOf_38 : decode cX10_setsOf 38 = .ok (.sipush 200, 3) := by decide +kernel
theorem dX10_setsOf_41 : decode cX10_setsOf 41 = .ok (.iaload, 1) := by decide +kernel
theorem dX10_setsOf_42 : decode cX10_setsOf 42 = .ok (.invokevirtual 316, 3) := by decide +kernel
theorem dX10_setsOf_45 : decode cX10_setsOf 45 = .ok (.iastore, 1) := by decide +kernel
theorem dX10_setsOf_46 : decode cX10_setsOf 46 = .ok (.aload_n 0, 1) := by decide +kernel
theorem dX10_setsOf_47 : decode cX10_setsOf 47 = .ok (.getfield 101, 3) := by decide +kernel
theorem dX10_setsOf_50 : decode cX10_setsOf 50 = .ok (.iconst 4, 1) := by decide +kernel
theorem dX10_setsOf_51 : decode cX10_setsOf 51 = .ok (.aload_n 0, 1) := by decide +kernel
theorem dX10_setsOf_52 : decode cX10_setsOf 52 = .ok (.bipush 8, 2) := by decide +kernel
theorem dX10_setsOf_54 : decode cX10_setsOf 54 = .ok (.invokevirtual 319, 3) := by decide +kernel
theorem dX10_setsOf_57 : decode cX10_setsOf 57 = .ok (.iastore, 1) := by decide +kernel
theorem dX10_setsOf_58 : decode cX10_setsOf 58 = .ok (.aload_n 0, 1) := by decide +kernel
theorem dX10_setsOf_59 : decode cX10_setsOf 59 = .ok (.getfield 101, 3) := by decide +kernel
theorem dX10_setsOf_62 : decode cX10_setsOf 62 = .ok (.iconst 5, 1) := by decide +kernel
theorem dX10_setsOf_63 : decode cX10_setsOf 63 = .ok (.iload_n 1, 1) := by decide +kernel
theorem dX10_setsOf_64 : decode cX10_setsOf 64 = .ok (.iastore, 1) := by decide +kernel
theorem dX10_setsOf_65 : decode cX10_setsOf 65 = .ok (.return_, 1) := by decide +kernel
theorem dX10_tells_0 : decode cX10_tells 0 = .ok (.bipush 20, 2) := by decide +kernel
theorem dX10_tells_2 : decode cX10_tells 2 = .ok (.aload_n 0, 1) := by decide +kernel
theorem dX10_tells_3 : decode cX10_tells 3 = .ok (.getfield 228, 3) := by decide +kernel
theorem dX10_tells_6 : decode cX10_tells 6 = .ok (.imul, 1) := by decide +kernel
theorem dX10_tells_7 : decode cX10_tells 7 = .ok (.iload_n 1, 1) := by decide +kernel
theorem dX10_tells_8 : decode cX10_tells 8 = .ok (.iadd, 1) := by decide +kernel
theorem dX10_tells_9 : decode cX10_tells 9 = .ok (.istore_n 3, 1) := by decide +kernel
theorem dX10_tells_10 : decode cX10_tells 10 = .ok (.aload_n 0, 1) := by decide +kernel
theorem dX10_tells_11 : decode cX10_tells 11 = .ok (.getfield 70, 3) := by decide +kernel
theorem dX10_tells_14 : decode cX10_tells 14 = .ok (.iload_n 3, 1) := by decide +kernel
theorem dX10_tells_15 : decode cX10_tells 15 = .ok (.iaload, 1) := by decide +kernel
theorem dX10_tells_16 : decode cX10_tells 16 = .ok (.aload_n 0, 1) := by decide +kernel
theorem dX10_tells_17 : decode cX10_tells 17 = .ok (.getfield 73, 3) := by decide +kernel
theorem dX10_tells_20 : decode cX10_tells 20 = .ok (.iload_n 3, 1) := by decide +kernel
theorem dX10_tells_21 : decode cX10_tells 21 = .ok (.iaload, 1) := by decide +kernel
theorem dX10_tells_22 : decode cX10_tells 22 = .ok (.if_icmp .ne 5, 3) := by decide +kernel
theorem dX10_tells_25 : decode cX10_tells 25 = .ok (.iload_n 2, 1) := by decide +kernel
theorem dX10_tells_26 : decode cX10_tells 26 = .ok (.ireturn, 1) := by decide +kernel
theorem dX10_tells_27 : decode cX10_tells 27 = .ok (.aload_n 0, 1) := by decide +kernel
theorem dX10_tells_28 : decode cX10_tells 28 = .ok (.iconst 0, 1) := by decide +kernel
theorem dX10_tells_29 : decode cX10_tells 29 = .ok (.putfield 308, 3) := by decide +kernel
theorem dX10_tells_32 : decode cX10_tells 32 = .ok (.aload_n 0, 1) := by decide +kernel
theorem dX10_tells_33 : decode cX10_tells 33 = .ok (.getfield 70, 3) := by decide +kernel
theorem dX10_tells_36 : decode cX10_tells 36 = .ok (.iload_n 3, 1) := by decide +kernel
theorem dX10_tells_37 : decode cX10_tells 37 = .ok (.iaload, 1) := by decide +kernel
theorem dX10_tells_38 : decode cX10_tells 38 = .ok (.istore 4, 2) := by decide +kernel
theorem dX10_tells_40 : decode cX10_tells 40 = .ok (.iload 4, 2) := by decide +kernel
theorem dX10_tells_42 : decode cX10_tells 42 = .ok (.aload_n 0, 1) := by decide +kernel
theorem dX10_tells_43 : decode cX10_tells 43 = .ok (.getfield 73, 3) := by decide +kernel
theorem dX10_tells_46 : decode cX10_tells 46 = .ok (.iload_n 3, 1) := by decide +kernel
theorem dX10_tells_47 : decode cX10_tells 47 = .ok (.iaload, 1) := by decide +kernel
theorem dX10_tells_48 : decode cX10_tells 48 = .ok (.if_icmp .ge 112, 3) := by decide +kernel
theorem dX10_tells_51 : decode cX10_tells 51 = .ok (.aload_n 0, 1) := by decide +kernel
theorem dX10_tells_52 : decode cX10_tells 52 = .ok (.getfield 76, 3) := by decide +kernel
theorem dX10_tells_55 : decode cX10_tells 55 = .ok (.iload 4, 2) := by decide +kernel
theorem dX10_tells_57 : decode cX10_tells 57 = .ok (.baload, 1) := by decide +kernel
theorem dX10_tells_58 : decode cX10_tells 58 = .ok (.ifCond .eq 62, 3) := by decide +kernel
theorem dX10_tells_61 : decode cX10_tells 61 = .ok (.aload_n 0, 1) := by decide +kernel
theorem dX10_tells_62 : decode cX10_tells 62 = .ok (.aload_n 0, 1) := by decide +kernel
theorem dX10_tells_63 : decode cX10_tells 63 = .ok (.getfield 80, 3) := by decide +kernel
theorem dX10_tells_66 : decode cX10_tells 66 = .ok (.iload 4, 2) := by decide +kernel
theorem dX10_tells_68 : decode cX10_tells 68 = .ok (.iaload, 1) := by decide +kernel
theorem dX10_tells_69 : decode cX10_tells 69 = .ok (.aload_n 0, 1) := by decide +kernel
theorem dX10_tells_70 : decode cX10_tells 70 = .ok (.getfield 83, 3) := by decide +kernel
theorem dX10_tells_73 : decode cX10_tells 73 = .ok (.iload 4, 2) := by decide +kernel
theorem dX10_tells_75 : decode cX10_tells 75 = .ok (.iaload, 1) := by decide +kernel
theorem dX10_tells_76 : decode cX10_tells 76 = .ok (.invokevirtual 322, 3) := by decide +kernel
theorem dX10_tells_79 : decode cX10_tells 79 = .ok (.istore 5, 2) := by decide +kernel
theorem dX10_tells_81 : decode cX10_tells 81 = .ok (.aload_n 0, 1) := by decide +kernel
theorem dX10_tells_82 : decode cX10_tells 82 = .ok (.aload_n 0, 1) := by decide +kernel
theorem dX10_tells_83 : decode cX10_tells 83 = .ok (.getfield 83, 3) := by decide +kernel
theorem dX10_tells_86 : decode cX10_tells 86 = .ok (.iload 4, 2) := by decide +kernel
theorem dX10_tells_88 : decode cX10_tells 88 = .ok (.iaload, 1) := by decide +kernel
theorem dX10_tells_89 : decode cX10_tells 89 = .ok (.aload_n 0, 1) := by decide +kernel
theorem dX10_tells_90 : decode cX10_tells 90 = .ok (.getfield 86, 3) := by decide +kernel
theorem dX10_tells_93 : decode cX10_tells 93 = .ok (.iload 4, 2) := by decide +kernel
theorem dX10_tells_95 : decode cX10_tells 95 = .ok (.iaload, 1) := by decide +kernel
theorem dX10_tells_96 : decode cX10_tells 96 = .ok (.invokevirtual 322, 3) := by decide +kernel
theorem dX10_tells_99 : decode cX10_tells 99 = .ok (.istore 6, 2) := by decide +kernel
theorem dX10_tells_101 : decode cX10_tells 101 = .ok (.aload_n 0, 1) := by decide +kernel
theorem dX10_tells_102 : decode cX10_tells 102 = .ok (.getfield 308, 3) := by decide +kernel
theorem dX10_tells_105 : decode cX10_tells 105 = .ok (.ifCond .eq 5, 3) := by decide +kernel
theorem dX10_tells_108 : decode cX10_tells 108 = .ok (.iconst 0, 1) := by decide +kernel
theorem dX10_tells_109 : decode cX10_tells 109 = .ok (.ireturn, 1) := by decide +kernel
theorem dX10_tells_110 : decode cX10_tells 110 = .ok (.iload 5, 2) := by decide +kernel
theorem dX10_tells_112 : decode cX10_tells 112 = .ok (.iload 6, 2) := by decide +kernel
theorem dX10_tells_114 : decode cX10_tells 114 = .ok (.if_icmp .lt 6, 3) := by decide +kernel
theorem dX10_tells_117 : decode cX10_tells 117 = .ok (.goto 37, 3) := by decide +kernel
theorem dX10_tells_120 : decode cX10_tells 120 = .ok (.aload_n 0, 1) := by decide +kernel
theorem dX10_tells_121 : decode cX10_tells 121 = .ok (.aload_n 0, 1) := by decide +kernel
theorem dX10_tells_122 : decode cX10_tells 122 = .ok (.getfield 86, 3) := by decide +kernel
theorem dX10_tells_125 : decode cX10_tells 125 = .ok (.iload 4, 2) := by decide +kernel
theorem dX10_tells_127 : decode cX10_tells 127 = .ok (.iaload, 1) := by decide +kernel
theorem dX10_tells_128 : decode cX10_tells 128 = .ok (.aload_n 0, 1) := by decide +kernel
theorem dX10_tells_129 : decode cX10_tells 129 = .ok (.getfield 89, 3) := by decide +kernel
theorem dX10_tells_132 : decode cX10_tells 132 = .ok (.iload 4, 2) := by decide +kernel
theorem dX10_tells_134 : decode cX10_tells 134 = .ok (.iaload, 1) := by decide +kernel
theorem dX10_tells_135 : decode cX10_tells 135 = .ok (.invokevirtual 322, 3) := by decide +kernel
theorem dX10_tells_138 : decode cX10_tells 138 = .ok (.istore 5, 2) := by decide +kernel
theorem dX10_tells_140 : decode cX10_tells 140 = .ok (.aload_n 0, 1) := by decide +kernel
theorem dX10_tells_141 : decode cX10_tells 141 = .ok (.getfield 308, 3) := by decide +kernel
theorem dX10_tells_144 : decode cX10_tells 144 = .ok (.ifCond .eq 7, 3) := by decide +kernel
theorem dX10_tells_147 : decode cX10_tells 147 = .ok (.iconst 0, 1) := by decide +kernel
theorem dX10_tells_148 : decode cX10_tells 148 = .ok (.goto 5, 3) := by decide +kernel
theorem dX10_tells_151 : decode cX10_tells 151 = .ok (.iload 5, 2) := by decide +kernel
theorem dX10_tells_153 : decode cX10_tells 153 = .ok (.ireturn, 1) := by decide +kernel
theorem dX10_tells_154 : decode cX10_tells 154 = .ok (.iinc 4 1, 3) := by decide +kernel
theorem dX10_tells_157 : decode cX10_tells 157 = .ok (.goto (-117), 3) := by decide +kernel
theorem dX10_tells_160 : decode cX10_tells 160 = .ok (.iconst 0, 1) := by decide +kernel
theorem dX10_tells_161 : decode cX10_tells 161 = .ok (.ireturn, 1) := by decide +kernel
theorem dX10_held_0 : decode cX10_held 0 = .ok (.iload_n 0, 1) := by decide +kernel
theorem dX10_held_1 : decode cX10_held 1 = .ok (.ifCond .ge 7, 3) := by decide +kernel
theorem dX10_held_4 : decode cX10_held 4 = .ok (.iconst 0, 1) := by decide +kernel
theorem dX10_held_5 : decode cX10_held 5 = .ok (.goto 17, 3) := by decide +kernel
theorem dX10_held_8 : decode cX10_held 8 = .ok (.iload_n 0, 1) := by decide +kernel
theorem dX10_held_9 : decode cX10_held 9 = .ok (.sipush 999, 3) := by decide +kernel
theorem dX10_held_12 : decode cX10_held 12 = .ok (.if_icmp .le 9, 3) := by decide +kernel
theorem dX10_held_15 : decode cX10_held 15 = .ok (.sipush 999, 3) := by decide +kernel
theorem dX10_held_18 : decode cX10_held 18 = .ok (.goto 4, 3) := by decide +kernel
theorem dX10_held_21 : decode cX10_held 21 = .ok (.iload_n 0, 1) := by decide +kernel
theorem dX10_held_22 : decode cX10_held 22 = .ok (.ireturn, 1) := by decide +kernel
theorem dX10_fineOf_0 : decode cX10_fineOf 0 = .ok (.aload_n 0, 1) := by decide +kernel
theorem dX10_fineOf_1 : decode cX10_fineOf 1 = .ok (.iload_n 1, 1) := by decide +kernel
theorem dX10_fineOf_2 : decode cX10_fineOf 2 = .ok (.aload_n 0, 1) := by decide +kernel
theorem dX10_fineOf_3 : decode cX10_fineOf 3 = .ok (.iload_n 1, 1) := by decide +kernel
theorem dX10_fineOf_4 : decode cX10_fineOf 4 = .ok (.invokevirtual 319, 3) := by decide +kernel
theorem dX10_fineOf_7 : decode cX10_fineOf 7 = .ok (.aload_n 0, 1) := by decide +kernel
theorem dX10_fineOf_8 : decode cX10_fineOf 8 = .ok (.getfield 110, 3) := by decide +kernel
theorem dX10_fineOf_11 : decode cX10_fineOf 11 = .ok (.sipush 136, 3) := by decide +kernel
theorem dX10_fineOf_14 : decode cX10_fineOf 14 = .ok (.bipush 8, 2) := by decide +kernel
theorem dX10_fineOf_16 : decode cX10_fineOf 16 = .ok (.iload_n 1, 1) := by decide +kernel
theorem dX10_fineOf_17 : decode cX10_fineOf 17 = .ok (.imul, 1) := by decide +kernel
theorem dX10_fineOf_18 : decode cX10_fineOf 18 = .ok (.iadd, 1) := by decide +kernel
theorem dX10_fineOf_19 : decode cX10_fineOf 19 = .ok (.iload_n 2, 1) := by decide +kernel
theorem dX10_fineOf_20 : decode cX10_fineOf 20 = .ok (.iadd, 1) := by decide +kernel
theorem dX10_fineOf_21 : decode cX10_fineOf 21 = .ok (.iaload, 1) := by decide +kernel
theorem dX10_fineOf_22 : decode cX10_fineOf 22 = .ok (.invokevirtual 325, 3) := by decide +kernel
theorem dX10_fineOf_25 : decode cX10_fineOf 25 = .ok (.aload_n 0, 1) := by decide +kernel
theorem dX10_fineOf_26 : decode cX10_fineOf 26 = .ok (.iload_n 2, 1) := by decide +kernel
theorem dX10_fineOf_27 : decode cX10_fineOf 27 = .ok (.bipush 10, 2) := by decide +kernel
theorem dX10_fineOf_29 : decode cX10_fineOf 29 = .ok (.invokevirtual 328, 3) := by decide +kernel
theorem dX10_fineOf_32 : decode cX10_fineOf 32 = .ok (.invokestatic 331, 3) := by decide +kernel
theorem dX10_fineOf_35 : decode cX10_fineOf 35 = .ok (.ireturn, 1) := by decide +kernel
theorem dX10_isWarm_0 : decode cX10_isWarm 0 = .ok (.aload_n 0, 1) := by decide +kernel
theorem dX10_isWarm_1 : decode cX10_isWarm 1 = .ok (.iload_n 1, 1) := by decide +kernel
theorem dX10_isWarm_2 : decode cX10_isWarm 2 = .ok (.invokevirtual 319, 3) := by decide +kernel
theorem dX10_isWarm_5 : decode cX10_isWarm 5 = .ok (.istore_n 2, 1) := by decide +kernel
theorem dX10_isWarm_6 : decode cX10_isWarm 6 = .ok (.aload_n 0, 1) := by decide +kernel
theorem dX10_isWarm_7 : decode cX10_isWarm 7 = .ok (.iload_n 1, 1) := by decide +kernel
theorem dX10_isWarm_8 : decode cX10_isWarm 8 = .ok (.iload_n 2, 1) := by decide +kernel
theorem dX10_isWarm_9 : decode cX10_isWarm 9 = .ok (.aload_n 0, 1) := by decide +kernel
theorem dX10_isWarm_10 : decode cX10_isWarm 10 = .ok (.iload_n 1, 1) := by decide +kernel
theorem dX10_isWarm_11 : decode cX10_isWarm 11 = .ok (.invokevirtual 334, 3) := by decide +kernel
theorem dX10_isWarm_14 : decode cX10_isWarm 14 = .ok (.invokevirtual 325, 3) := by decide +kernel
theorem dX10_isWarm_17 : decode cX10_isWarm 17 = .ok (.aload_n 0, 1) := by decide +kernel
theorem dX10_isWarm_18 : decode cX10_isWarm 18 = .ok (.bipush 17, 2) := by decide +kernel
theorem dX10_isWarm_20 : decode cX10_isWarm 20 = .ok (.iload_n 2, 1) := by decide +kernel
theorem dX10_isWarm_21 : decode cX10_isWarm 21 = .ok (.aload_n 0, 1) := by decide +kernel
theorem dX10_isWarm_22 : decode cX10_isWarm 22 = .ok (.aload_n 0, 1) := by decide +kernel
theorem dX10_isWarm_23 : decode cX10_isWarm 23 = .ok (.getfield 110, 3) := by decide +kernel
theorem dX10_isWarm_26 : decode cX10_isWarm 26 = .ok (.sipush 200, 3) := by decide +kernel
theorem dX10_isWarm_29 : decode cX10_isWarm 29 = .ok (.iaload, 1) := by decide +kernel
theorem dX10_isWarm_30 : decode cX10_isWarm 30 = .ok (.invokevirtual 316, 3) := by decide +kernel
theorem dX10_isWarm_33 : decode cX10_isWarm 33 = .ok (.isub, 1) := by decide +kernel
theorem dX10_isWarm_34 : decode cX10_isWarm 34 = .ok (.invokevirtual 328, 3) := by decide +kernel
theorem dX10_isWarm_37 : decode cX10_isWarm 37 = .ok (.ifCond .le 7, 3) := by decide +kernel
theorem dX10_isWarm_40 : decode cX10_isWarm 40 = .ok (.iconst 1, 1) := by decide +kernel
theorem dX10_isWarm_41 : decode cX10_isWarm 41 = .ok (.goto 4, 3) := by decide +kernel
theorem dX10_isWarm_44 : decode cX10_isWarm 44 = .ok (.iconst 0, 1) := by decide +kernel
theorem dX10_isWarm_45 : decode cX10_isWarm 45 = .ok (.ireturn, 1) := by decide +kernel
theorem dX10_moves_0 : decode cX10_moves 0 = .ok (.iload_n 3, 1) := by decide +kernel
theorem dX10_moves_1 : decode cX10_moves 1 = .ok (.istore 5, 2) := by decide +kernel
theorem dX10_moves_3 : decode cX10_moves 3 = .ok (.iconst (-1), 1) := by decide +kernel
theorem dX10_moves_4 : decode cX10_moves 4 = .ok (.istore 6, 2) := by decide +kernel
theorem dX10_moves_6 : decode cX10_moves 6 = .ok (.iload 6, 2) := by decide +kernel
theorem dX10_moves_8 : decode cX10_moves 8 = .ok (.bipush 8, 2) := by decide +kernel
theorem dX10_moves_10 : decode cX10_moves 10 = .ok (.if_icmp .ge 110, 3) := by decide +kernel
theorem dX10_moves_13 : decode cX10_moves 13 = .ok (.iload 6, 2) := by decide +kernel
theorem dX10_moves_15 : decode cX10_moves 15 = .ok (.iload 4, 2) := by decide +kernel
theorem dX10_moves_17 : decode cX10_moves 17 = .ok (.if_icmp .ne 6, 3) := by decide +kernel
theorem dX10_moves_20 : decode cX10_moves 20 = .ok (.goto 94, 3) := by decide +kernel
theorem dX10_moves_23 : decode cX10_moves 23 = .ok (.iload 6, 2) := by decide +kernel
theorem dX10_moves_25 : decode cX10_moves 25 = .ok (.ifCond .ge 8, 3) := by decide +kernel
theorem dX10_moves_28 : decode cX10_moves 28 = .ok (.iload 4, 2) := by decide +kernel
theorem dX10_moves_30 : decode cX10_moves 30 = .ok (.goto 5, 3) := by decide +kernel
theorem dX10_moves_33 : decode cX10_moves 33 = .ok (.iload 6, 2) := by decide +kernel
theorem dX10_moves_35 : decode cX10_moves 35 = .ok (.istore 7, 2) := by decide +kernel
theorem dX10_moves_37 : decode cX10_moves 37 = .ok (.aload_n 0, 1) := by decide +kernel
theorem dX10_moves_38 : decode cX10_moves 38 = .ok (.getfield 110, 3) := by decide +kernel
theorem dX10_moves_41 : decode cX10_moves 41 = .ok (.bipush 8, 2) := by decide +kernel
theorem dX10_moves_43 : decode cX10_moves 43 = .ok (.iload_n 1, 1) := by decide +kernel
theorem dX10_moves_44 : decode cX10_moves 44 = .ok (.imul, 1) := by decide +kernel
theorem dX10_moves_45 : decode cX10_moves 45 = .ok (.iload 7, 2) := by decide +kernel
theorem dX10_moves_47 : decode cX10_moves 47 = .ok (.iadd, 1) := by decide +kernel
theorem dX10_moves_48 : decode cX10_moves 48 = .ok (.iaload, 1) := by decide +kernel
theorem dX10_moves_49 : decode cX10_moves 49 = .ok (.iload 5, 2) := by decide +kernel
theorem dX10_moves_51 : decode cX10_moves 51 = .ok (.if_icmp .ge 18, 3) := by decide +kernel
theorem dX10_moves_54 : decode cX10_moves 54 = .ok (.aload_n 0, 1) := by decide +kernel
theorem dX10_moves_55 : decode cX10_moves 55 = .ok (.getfield 110, 3) := by decide +kernel
theorem dX10_moves_58 : decode cX10_moves 58 = .ok (.bipush 8, 2) := by decide +kernel
theorem dX10_moves_60 : decode cX10_moves 60 = .ok (.iload_n 1, 1) := by decide +kernel
theorem dX10_moves_61 : decode cX10_moves 61 = .ok (.imul, 1) := by decide +kernel
theorem dX10_moves_62 : decode cX10_moves 62 = .ok (.iload 7, 2) := by decide +kernel
theorem dX10_moves_64 : decode cX10_moves 64 = .ok (.iadd, 1) := by decide +kernel
theorem dX10_moves_65 : decode cX10_moves 65 = .ok (.iaload, 1) := by decide +kernel
theorem dX10_moves_66 : decode cX10_moves 66 = .ok (.goto 5, 3) := by decide +kernel
theorem dX10_moves_69 : decode cX10_moves 69 = .ok (.iload 5, 2) := by decide +kernel
theorem dX10_moves_71 : decode cX10_moves 71 = .ok (.istore 8, 2) := by decide +kernel
theorem dX10_moves_73 : decode cX10_moves 73 = .ok (.aload_n 0, 1) := by decide +kernel
theorem dX10_moves_74 : decode cX10_moves 74 = .ok (.getfield 110, 3) := by decide +kernel
theorem dX10_moves_77 : decode cX10_moves 77 = .ok (.bipush 8, 2) := by decide +kernel
theorem dX10_moves_79 : decode cX10_moves 79 = .ok (.iload_n 1, 1) := by decide +kernel
theorem dX10_moves_80 : decode cX10_moves 80 = .ok (.imul, 1) := by decide +kernel
theorem dX10_moves_81 : decode cX10_moves 81 = .ok (.iload 7, 2) := by decide +kernel
theorem dX10_moves_83 : decode cX10_moves 83 = .ok (.iadd, 1) := by decide +kernel
theorem dX10_moves_84 : decode cX10_moves 84 = .ok (.dup2, 1) := by decide +kernel
theorem dX10_moves_85 : decode cX10_moves 85 = .ok (.iaload, 1) := by decide +kernel
theorem dX10_moves_86 : decode cX10_moves 86 = .ok (.iload 8, 2) := by decide +kernel
theorem dX10_moves_88 : decode cX10_moves 88 = .ok (.isub, 1) := by decide +kernel
theorem dX10_moves_89 : decode cX10_moves 89 = .ok (.iastore, 1) := by decide +kernel
theorem dX10_moves_90 : decode cX10_moves 90 = .ok (.aload_n 0, 1) := by decide +kernel
theorem dX10_moves_91 : decode cX10_moves 91 = .ok (.getfield 110, 3) := by decide +kernel
theorem dX10_moves_94 : decode cX10_moves 94 = .ok (.bipush 8, 2) := by decide +kernel
theorem dX10_moves_96 : decode cX10_moves 96 = .ok (.iload_n 2, 1) := by decide +kernel
theorem dX10_moves_97 : decode cX10_moves 97 = .ok (.imul, 1) := by decide +kernel
theorem dX10_moves_98 : decode cX10_moves 98 = .ok (.iload 7, 2) := by decide +kernel
theorem dX10_moves_100 : decode cX10_moves 100 = .ok (.iadd, 1) := by decide +kernel
theorem dX10_moves_101 : decode cX10_moves 101 = .ok (.dup2, 1) := by decide +kernel
theorem dX10_moves_102 : decode cX10_moves 102 = .ok (.iaload, 1) := by decide +kernel
theorem dX10_moves_103 : decode cX10_moves 103 = .ok (.iload 8, 2) := by decide +kernel
theorem dX10_moves_105 : decode cX10_moves 105 = .ok (.iadd, 1) := by decide +kernel
theorem dX10_moves_106 : decode cX10_moves 106 = .ok (.iastore, 1) := by decide +kernel
theorem dX10_moves_107 : decode cX10_moves 107 = .ok (.iload 5, 2) := by decide +kernel
theorem dX10_moves_109 : decode cX10_moves 109 = .ok (.iload 8, 2) := by decide +kernel
theorem dX10_moves_111 : decode cX10_moves 111 = .ok (.isub, 1) := by decide +kernel
theorem dX10_moves_112 : decode cX10_moves 112 = .ok (.istore 5, 2) := by decide +kernel
theorem dX10_moves_114 : decode cX10_moves 114 = .ok (.iinc 6 1, 3) := by decide +kernel
theorem dX10_moves_117 : decode cX10_moves 117 = .ok (.goto (-111), 3) := by decide +kernel
theorem dX10_moves_120 : decode cX10_moves 120 = .ok (.return_, 1) := by decide +kernel
theorem dX10_weekGoes_0 : decode cX10_weekGoes 0 = .ok (.iconst 0, 1) := by decide +kernel
theorem dX10_weekGoes_1 : decode cX10_weekGoes 1 = .ok (.istore_n 1, 1) := by decide +kernel
theorem dX10_weekGoes_2 : decode cX10_weekGoes 2 = .ok (.iload_n 1, 1) := by decide +kernel
theorem dX10_weekGoes_3 : decode cX10_weekGoes 3 = .ok (.aload_n 0, 1) := by decide +kernel
theorem dX10_weekGoes_4 : decode cX10_weekGoes 4 = .ok (.getfield 49, 3) := by decide +kernel
theorem dX10_weekGoes_7 : decode cX10_weekGoes 7 = .ok (.aload_n 0, 1) := by decide +kernel
theorem dX10_weekGoes_8 : decode cX10_weekGoes 8 = .ok (.getfield 228, 3) := by decide +kernel
theorem dX10_weekGoes_11 : decode cX10_weekGoes 11 = .ok (.iaload, 1) := by decide +kernel
theorem dX10_weekGoes_12 : decode cX10_weekGoes 12 = .ok (.if_icmp .ge 76, 3) := by decide +kernel
theorem dX10_weekGoes_15 : decode cX10_weekGoes 15 = .ok (.aload_n 0, 1) := by decide +kernel
theorem dX10_weekGoes_16 : decode cX10_weekGoes 16 = .ok (.iload_n 1, 1) := by decide +kernel
theorem dX10_weekGoes_17 : decode cX10_weekGoes 17 = .ok (.invokevirtual 319, 3) := by decide +kernel
theorem dX10_weekGoes_20 : decode cX10_weekGoes 20 = .ok (.istore_n 2, 1) := by decide +kernel
theorem dX10_weekGoes_21 : decode cX10_weekGoes 21 = .ok (.aload_n 0, 1) := by decide +kernel
theorem dX10_weekGoes_22 : decode cX10_weekGoes 22 = .ok (.iload_n 1, 1) := by decide +kernel
theorem dX10_weekGoes_23 : decode cX10_weekGoes 23 = .ok (.iload_n 2, 1) := by decide +kernel
theorem dX10_weekGoes_24 : decode cX10_weekGoes 24 = .ok (.aload_n 0, 1) := by decide +kernel
theorem dX10_weekGoes_25 : decode cX10_weekGoes 25 = .ok (.iload_n 1, 1) := by decide +kernel
theorem dX10_weekGoes_26 : decode cX10_weekGoes 26 = .ok (.invokevirtual 334, 3) := by decide +kernel
theorem dX10_weekGoes_29 : decode cX10_weekGoes 29 = .ok (.invokevirtual 325, 3) := by decide +kernel
theorem dX10_weekGoes_32 : decode cX10_weekGoes 32 = .ok (.aload_n 0, 1) := by decide +kernel
theorem dX10_weekGoes_33 : decode cX10_weekGoes 33 = .ok (.bipush 16, 2) := by decide +kernel
theorem dX10_weekGoes_35 : decode cX10_weekGoes 35 = .ok (.iconst 0, 1) := by decide +kernel
theorem dX10_weekGoes_36 : decode cX10_weekGoes 36 = .ok (.invokevirtual 328, 3) := by decide +kernel
theorem dX10_weekGoes_39 : decode cX10_weekGoes 39 = .ok (.invokestatic 331, 3) := by decide +kernel
theorem dX10_weekGoes_42 : decode cX10_weekGoes 42 = .ok (.istore_n 3, 1) := by decide +kernel
theorem dX10_weekGoes_43 : decode cX10_weekGoes 43 = .ok (.iload_n 2, 1) := by decide +kernel
theorem dX10_weekGoes_44 : decode cX10_weekGoes 44 = .ok (.iload_n 3, 1) := by decide +kernel
theorem dX10_weekGoes_45 : decode cX10_weekGoes 45 = .ok (.iadd, 1) := by decide +kernel
theorem dX10_weekGoes_46 : decode cX10_weekGoes 46 = .ok (.sipush 9999, 3) := by decide +kernel
theorem dX10_weekGoes_49 : decode cX10_weekGoes 49 = .ok (.if_icmp .le 20, 3) := by decide +kernel
theorem dX10_weekGoes_52 : decode cX10_weekGoes 52 = .ok (.iload_n 2, 1) := by decide +kernel
theorem dX10_weekGoes_53 : decode cX10_weekGoes 53 = .ok (.sipush 9999, 3) := by decide +kernel
theorem dX10_weekGoes_56 : decode cX10_weekGoes 56 = .ok (.if_icmp .le 7, 3) := by decide +kernel
theorem dX10_weekGoes_59 : decode cX10_weekGoes 59 = .ok (.iconst 0, 1) := by decide +kernel
theorem dX10_weekGoes_60 : decode cX10_weekGoes 60 = .ok (.goto 8, 3) := by decide +kernel
theorem dX10_weekGoes_63 : decode cX10_weekGoes 63 = .ok (.sipush 9999, 3) := by decide +kernel
theorem dX10_weekGoes_66 : decode cX10_weekGoes 66 = .ok (.iload_n 2, 1) := by decide +kernel
theorem dX10_weekGoes_67 : decode cX10_weekGoes 67 = .ok (.isub, 1) := by decide +kernel
theorem dX10_weekGoes_68 : decode cX10_weekGoes 68 = .ok (.istore_n 3, 1) := by decide +kernel
theorem dX10_weekGoes_69 : decode cX10_weekGoes 69 = .ok (.aload_n 0, 1) := by decide +kernel
theorem dX10_weekGoes_70 : decode cX10_weekGoes 70 = .ok (.getfield 110, 3) := by decide +kernel
theorem dX10_weekGoes_73 : decode cX10_weekGoes 73 = .ok (.bipush 9, 2) := by decide +kernel
theorem dX10_weekGoes_75 : decode cX10_weekGoes 75 = .ok (.iload_n 1, 1) := by decide +kernel
theorem dX10_weekGoes_76 : decode cX10_weekGoes 76 = .ok (.imul, 1) := by decide +kernel
theorem dX10_weekGoes_77 : decode cX10_weekGoes 77 = .ok (.dup2, 1) := by decide +kernel
theorem dX10_weekGoes_78 : decode cX10_weekGoes 78 = .ok (.iaload, 1) := by decide +kernel
theorem dX10_weekGoes_79 : decode cX10_weekGoes 79 = .ok (.iload_n 3, 1) := by decide +kernel
theorem dX10_weekGoes_80 : decode cX10_weekGoes 80 = .ok (.iadd, 1) := by decide +kernel
theorem dX10_weekGoes_81 : decode cX10_weekGoes 81 = .ok (.iastore, 1) := by decide +kernel
theorem dX10_weekGoes_82 : decode cX10_weekGoes 82 = .ok (.iinc 1 1, 3) := by decide +kernel
theorem dX10_weekGoes_85 : decode cX10_weekGoes 85 = .ok (.goto (-83), 3) := by decide +kernel
theorem dX10_weekGoes_88 : decode cX10_weekGoes 88 = .ok (.aload_n 0, 1) := by decide +kernel
theorem dX10_weekGoes_89 : decode cX10_weekGoes 89 = .ok (.getfield 110, 3) := by decide +kernel
theorem dX10_weekGoes_92 : decode cX10_weekGoes 92 = .ok (.sipush 200, 3) := by decide +kernel
theorem dX10_weekGoes_95 : decode cX10_weekGoes 95 = .ok (.iaload, 1) := by decide +kernel
theorem dX10_weekGoes_96 : decode cX10_weekGoes 96 = .ok (.iconst 1, 1) := by decide +kernel
theorem dX10_weekGoes_97 : decode cX10_weekGoes 97 = .ok (.iadd, 1) := by decide +kernel
theorem dX10_weekGoes_98 : decode cX10_weekGoes 98 = .ok (.istore_n 1, 1) := by decide +kernel
theorem dX10_weekGoes_99 : decode cX10_weekGoes 99 = .ok (.aload_n 0, 1) := by decide +kernel
theorem dX10_weekGoes_100 : decode cX10_weekGoes 100 = .ok (.getfield 67, 3) := by decide +kernel
theorem dX10_weekGoes_103 : decode cX10_weekGoes 103 = .ok (.aload_n 0, 1) := by decide +kernel
theorem dX10_weekGoes_104 : decode cX10_weekGoes 104 = .ok (.getfield 228, 3) := by decide +kernel
theorem dX10_weekGoes_107 : decode cX10_weekGoes 107 = .ok (.iaload, 1) := by decide +kernel
theorem dX10_weekGoes_108 : decode cX10_weekGoes 108 = .ok (.ifCond .le 42, 3) := by decide +kernel
theorem dX10_weekGoes_111 : decode cX10_weekGoes 111 = .ok (.iload_n 1, 1) := by decide +kernel
theorem dX10_weekGoes_112 : decode cX10_weekGoes 112 = .ok (.aload_n 0, 1) := by decide +kernel
theorem dX10_weekGoes_113 : decode cX10_weekGoes 113 = .ok (.getfield 67, 3) := by decide +kernel
theorem dX10_weekGoes_116 : decode cX10_weekGoes 116 = .ok (.aload_n 0, 1) := by decide +kernel
theorem dX10_weekGoes_117 : decode cX10_weekGoes 117 = .ok (.getfield 228, 3) := by decide +kernel
theorem dX10_weekGoes_120 : decode cX10_weekGoes 120 = .ok (.iaload, 1) := by decide +kernel
theorem dX10_weekGoes_121 : decode cX10_weekGoes 121 = .ok (.irem, 1) := by decide +kernel
theorem dX10_weekGoes_122 : decode cX10_weekGoes 122 = .ok (.ifCond .ne 28, 3) := by decide +kernel
theorem dX10_weekGoes_125 : decode cX10_weekGoes 125 = .ok (.iconst 0, 1) := by decide +kernel
theorem dX10_weekGoes_126 : decode cX10_weekGoes 126 = .ok (.istore_n 2, 1) := by decide +kernel
theorem dX10_weekGoes_127 : decode cX10_weekGoes 127 = .ok (.iload_n 2, 1) := by decide +kernel
theorem dX10_weekGoes_128 : decode cX10_weekGoes 128 = .ok (.bipush 64, 2) := by decide +kernel
theorem dX10_weekGoes_130 : decode cX10_weekGoes 130 = .ok (.if_icmp .ge 20, 3) := by decide +kernel
theorem dX10_weekGoes_133 : decode cX10_weekGoes 133 = .ok (.aload_n 0, 1) := by decide +kernel
theorem dX10_weekGoes_134 : decode cX10_weekGoes 134 = .ok (.getfield 110, 3) := by decide +kernel
theorem dX10_weekGoes_137 : decode cX10_weekGoes 137 = .ok (.sipush 136, 3) := by decide +kernel
theorem dX10_weekGoes_140 : decode cX10_weekGoes 140 = .ok (.iload_n 2, 1) := by decide +kernel
theorem dX10_weekGoes_141 : decode cX10_weekGoes 141 = .ok (.iadd, 1) := by decide +kernel
theorem dX10_weekGoes_142 : decode cX10_weekGoes 142 = .ok (.iconst 0, 1) := by decide +kernel
theorem dX10_weekGoes_143 : decode cX10_weekGoes 143 = .ok (.iastore, 1) := by decide +kernel
theorem dX10_weekGoes_144 : decode cX10_weekGoes 144 = .ok (.iinc 2 1, 3) := by decide +kernel
theorem dX10_weekGoes_147 : decode cX10_weekGoes 147 = .ok (.goto (-20), 3) := by decide +kernel
theorem dX10_weekGoes_150 : decode cX10_weekGoes 150 = .ok (.aload_n 0, 1) := by decide +kernel
theorem dX10_weekGoes_151 : decode cX10_weekGoes 151 = .ok (.getfield 110, 3) := by decide +kernel
theorem dX10_weekGoes_154 : decode cX10_weekGoes 154 = .ok (.sipush 200, 3) := by decide +kernel
theorem dX10_weekGoes_157 : decode cX10_weekGoes 157 = .ok (.iload_n 1, 1) := by decide +kernel
theorem dX10_weekGoes_158 : decode cX10_weekGoes 158 = .ok (.iastore, 1) := by decide +kernel
theorem dX10_weekGoes_159 : decode cX10_weekGoes 159 = .ok (.return_, 1) := by decide +kernel
theorem dX10_netOf_0 : decode cX10_netOf 0 = .ok (.iconst 0, 1) := by decide +kernel
theorem dX10_netOf_1 : decode cX10_netOf 1 = .ok (.istore_n 2, 1) := by decide +kernel
theorem dX10_netOf_2 : decode cX10_netOf 2 = .ok (.iconst 0, 1) := by decide +kernel
theorem dX10_netOf_3 : decode cX10_netOf 3 = .ok (.istore_n 3, 1) := by decide +kernel
theorem dX10_netOf_4 : decode cX10_netOf 4 = .ok (.iload_n 3, 1) := by decide +kernel
theorem dX10_netOf_5 : decode cX10_netOf 5 = .ok (.bipush 8, 2) := by decide +kernel
theorem dX10_netOf_7 : decode cX10_netOf 7 = .ok (.if_icmp .ge 41, 3) := by decide +kernel
theorem dX10_netOf_10 : decode cX10_netOf 10 = .ok (.iload_n 2, 1) := by decide +kernel
theorem dX10_netOf_11 : decode cX10_netOf 11 = .ok (.aload_n 0, 1) := by decide +kernel
theorem dX10_netOf_12 : decode cX10_netOf 12 = .ok (.getfield 107, 3) := by decide +kernel
theorem dX10_netOf_15 : decode cX10_netOf 15 = .ok (.bipush 72, 2) := by decide +kernel
theorem dX10_netOf_17 : decode cX10_netOf 17 = .ok (.bipush 8, 2) := by decide +kernel
theorem dX10_netOf_19 : decode cX10_netOf 19 = .ok (.iload_n 3, 1) := by decide +kernel
theorem dX10_netOf_20 : decode cX10_netOf 20 = .ok (.imul, 1) := by decide +kernel
theorem dX10_netOf_21 : decode cX10_netOf 21 = .ok (.iadd, 1) := by decide +kernel
theorem dX10_netOf_22 : decode cX10_netOf 22 = .ok (.iload_n 1, 1) := by decide +kernel
theorem dX10_netOf_23 : decode cX10_netOf 23 = .ok (.iadd, 1) := by decide +kernel
theorem dX10_netOf_24 : decode cX10_netOf 24 = .ok (.iaload, 1) := by decide +kernel
theorem dX10_netOf_25 : decode cX10_netOf 25 = .ok (.aload_n 0, 1) := by decide +kernel
theorem dX10_netOf_26 : decode cX10_netOf 26 = .ok (.getfield 107, 3) := by decide +kernel
theorem dX10_netOf_29 : decode cX10_netOf 29 = .ok (.bipush 72, 2) := by decide +kernel
theorem dX10_netOf_31 : decode cX10_netOf 31 = .ok (.bipush 8, 2) := by decide +kernel
theorem dX10_netOf_33 : decode cX10_netOf 33 = .ok (.iload_n 1, 1) := by decide +kernel
theorem dX10_netOf_34 : decode cX10_netOf 34 = .ok (.imul, 1) := by decide +kernel
theorem dX10_netOf_35 : decode cX10_netOf 35 = .ok (.iadd, 1) := by decide +kernel
theorem dX10_netOf_36 : decode cX10_netOf 36 = .ok (.iload_n 3, 1) := by decide +kernel
theorem dX10_netOf_37 : decode cX10_netOf 37 = .ok (.iadd, 1) := by decide +kernel
theorem dX10_netOf_38 : decode cX10_netOf 38 = .ok (.iaload, 1) := by decide +kernel
theorem dX10_netOf_39 : decode cX10_netOf 39 = .ok (.isub, 1) := by decide +kernel
theorem dX10_netOf_40 : decode cX10_netOf 40 = .ok (.iadd, 1) := by decide +kernel
theorem dX10_netOf_41 : decode cX10_netOf 41 = .ok (.istore_n 2, 1) := by decide +kernel
theorem dX10_netOf_42 : decode cX10_netOf 42 = .ok (.iinc 3 1, 3) := by decide +kernel
theorem dX10_netOf_45 : decode cX10_netOf 45 = .ok (.goto (-41), 3) := by decide +kernel
theorem dX10_netOf_48 : decode cX10_netOf 48 = .ok (.iload_n 2, 1) := by decide +kernel
theorem dX10_netOf_49 : decode cX10_netOf 49 = .ok (.ireturn, 1) := by decide +kernel
theorem dX10_fillsHave_0 : decode cX10_fillsHave 0 = .ok (.iconst 0, 1) := by decide +kernel
theorem dX10_fillsHave_1 : decode cX10_fillsHave 1 = .ok (.istore_n 1, 1) := by decide +kernel
theorem dX10_fillsHave_2 : decode cX10_fillsHave 2 = .ok (.iload_n 1, 1) := by decide +kernel
theorem dX10_fillsHave_3 : decode cX10_fillsHave 3 = .ok (.bipush 8, 2) := by decide +kernel
theorem dX10_fillsHave_5 : decode cX10_fillsHave 5 = .ok (.if_icmp .ge 20, 3) := by decide +kernel
theorem dX10_fillsHave_8 : decode cX10_fillsHave 8 = .ok (.aload_n 0, 1) := by decide +kernel
theorem dX10_fillsHave_9 : decode cX10_fillsHave 9 = .ok (.getfield 113, 3) := by decide +kernel
theorem dX10_fillsHave_12 : decode cX10_fillsHave 12 = .ok (.iload_n 1, 1) := by decide +kernel
theorem dX10_fillsHave_13 : decode cX10_fillsHave 13 = .ok (.aload_n 0, 1) := by decide +kernel
theorem dX10_fillsHave_14 : decode cX10_fillsHave 14 = .ok (.iload_n 1, 1) := by decide +kernel
theorem dX10_fillsHave_15 : decode cX10_fillsHave 15 = .ok (.invokevirtual 319, 3) := by decide +kernel
theorem dX10_fillsHave_18 : decode cX10_fillsHave 18 = .ok (.iastore, 1) := by decide +kernel
theorem dX10_fillsHave_19 : decode cX10_fillsHave 19 = .ok (.iinc 1 1, 3) := by decide +kernel
theorem dX10_fillsHave_22 : decode cX10_fillsHave 22 = .ok (.goto (-20), 3) := by decide +kernel
theorem dX10_fillsHave_25 : decode cX10_fillsHave 25 = .ok (.return_, 1) := by decide +kernel
theorem dX10_voteOf_0 : decode cX10_voteOf 0 = .ok (.iconst 0, 1) := by decide +kernel
theorem dX10_voteOf_1 : decode cX10_voteOf 1 = .ok (.istore_n 2, 1) := by decide +kernel
theorem dX10_voteOf_2 : decode cX10_voteOf 2 = .ok (.iconst 0, 1) := by decide +kernel
theorem dX10_voteOf_3 : decode cX10_voteOf 3 = .ok (.istore_n 3, 1) := by decide +kernel
theorem dX10_voteOf_4 : decode cX10_voteOf 4 = .ok (.iconst 0, 1) := by decide +kernel
theorem dX10_voteOf_5 : decode cX10_voteOf 5 = .ok (.istore 4, 2) := by decide +kernel
theorem dX10_voteOf_7 : decode cX10_voteOf 7 = .ok (.iload 4, 2) := by decide +kernel
theorem dX10_voteOf_9 : decode cX10_voteOf 9 = .ok (.aload_n 0, 1) := by decide +kernel
theorem dX10_voteOf_10 : decode cX10_voteOf 10 = .ok (.getfield 49, 3) := by decide +kernel
theorem dX10_voteOf_13 : decode cX10_voteOf 13 = .ok (.aload_n 0, 1) := by decide +kernel
theorem dX10_voteOf_14 : decode cX10_voteOf 14 = .ok (.getfield 228, 3) := by decide +kernel
theorem dX10_voteOf_17 : decode cX10_voteOf 17 = .ok (.iaload, 1) := by decide +kernel
theorem dX10_voteOf_18 : decode cX10_voteOf 18 = .ok (.if_icmp .ge 65, 3) := by decide +kernel
theorem dX10_voteOf_21 : decode cX10_voteOf 21 = .ok (.aload_n 0, 1) := by decide +kernel
theorem dX10_voteOf_22 : decode cX10_voteOf 22 = .ok (.iload 4, 2) := by decide +kernel
theorem dX10_voteOf_24 : decode cX10_voteOf 24 = .ok (.aload_n 0, 1) := by decide +kernel
theorem dX10_voteOf_25 : decode cX10_voteOf 25 = .ok (.getfield 113, 3) := by decide +kernel
theorem dX10_voteOf_28 : decode cX10_voteOf 28 = .ok (.iload 4, 2) := by decide +kernel
theorem dX10_voteOf_30 : decode cX10_voteOf 30 = .ok (.iaload, 1) := by decide +kernel
theorem dX10_voteOf_31 : decode cX10_voteOf 31 = .ok (.aload_n 0, 1) := by decide +kernel
theorem dX10_voteOf_32 : decode cX10_voteOf 32 = .ok (.iload 4, 2) := by decide +kernel
theorem dX10_voteOf_34 : decode cX10_voteOf 34 = .ok (.invokevirtual 334, 3) := by decide +kernel
theorem dX10_voteOf_37 : decode cX10_voteOf 37 = .ok (.invokevirtual 325, 3) := by decide +kernel
theorem dX10_voteOf_40 : decode cX10_voteOf 40 = .ok (.aload_n 0, 1) := by decide +kernel
theorem dX10_voteOf_41 : decode cX10_voteOf 41 = .ok (.bipush 8, 2) := by decide +kernel
theorem dX10_voteOf_43 : decode cX10_voteOf 43 = .ok (.iload_n 1, 1) := by decide +kernel
theorem dX10_voteOf_44 : decode cX10_voteOf 44 = .ok (.iadd, 1) := by decide +kernel
theorem dX10_voteOf_45 : decode cX10_voteOf 45 = .ok (.aload_n 0, 1) := by decide +kernel
theorem dX10_voteOf_46 : decode cX10_voteOf 46 = .ok (.getfield 113, 3) := by decide +kernel
theorem dX10_voteOf_49 : decode cX10_voteOf 49 = .ok (.iload 4, 2) := by decide +kernel
theorem dX10_voteOf_51 : decode cX10_voteOf 51 = .ok (.iaload, 1) := by decide +kernel
theorem dX10_voteOf_52 : decode cX10_voteOf 52 = .ok (.invokevirtual 328, 3) := by decide +kernel
theorem dX10_voteOf_55 : decode cX10_voteOf 55 = .ok (.istore 5, 2) := by decide +kernel
theorem dX10_voteOf_57 : decode cX10_voteOf 57 = .ok (.iload 4, 2) := by decide +kernel
theorem dX10_voteOf_59 : decode cX10_voteOf 59 = .ok (.ifCond .le 12, 3) := by decide +kernel
theorem dX10_voteOf_62 : decode cX10_voteOf 62 = .ok (.iload 5, 2) := by decide +kernel
theorem dX10_voteOf_64 : decode cX10_voteOf 64 = .ok (.iload_n 3, 1) := by decide +kernel
theorem dX10_voteOf_65 : decode cX10_voteOf 65 = .ok (.if_icmp .gt 6, 3) := by decide +kernel
theorem dX10_voteOf_68 : decode cX10_voteOf 68 = .ok (.goto 9, 3) := by decide +kernel
theorem dX10_voteOf_71 : decode cX10_voteOf 71 = .ok (.iload 4, 2) := by decide +kernel
theorem dX10_voteOf_73 : decode cX10_voteOf 73 = .ok (.istore_n 2, 1) := by decide +kernel
theorem dX10_voteOf_74 : decode cX10_voteOf 74 = .ok (.iload 5, 2) := by decide +kernel
theorem dX10_voteOf_76 : decode cX10_voteOf 76 = .ok (.istore_n 3, 1) := by decide +kernel
theorem dX10_voteOf_77 : decode cX10_voteOf 77 = .ok (.iinc 4 1, 3) := by decide +kernel
theorem dX10_voteOf_80 : decode cX10_voteOf 80 = .ok (.goto (-73), 3) := by decide +kernel
theorem dX10_voteOf_83 : decode cX10_voteOf 83 = .ok (.iload_n 2, 1) := by decide +kernel
theorem dX10_voteOf_84 : decode cX10_voteOf 84 = .ok (.ireturn, 1) := by decide +kernel
theorem dX10_electedNow_0 : decode cX10_electedNow 0 = .ok (.iconst 0, 1) := by decide +kernel
theorem dX10_electedNow_1 : decode cX10_electedNow 1 = .ok (.istore_n 1, 1) := by decide +kernel
theorem dX10_electedNow_2 : decode cX10_electedNow 2 = .ok (.iload_n 1, 1) := by decide +kernel
theorem dX10_electedNow_3 : decode cX10_electedNow 3 = .ok (.bipush 8, 2) := by decide +kernel
theorem dX10_electedNow_5 : decode cX10_electedNow 5 = .ok (.if_icmp .ge 16, 3) := by decide +kernel
theorem dX10_electedNow_8 : decode cX10_electedNow 8 = .ok (.aload_n 0, 1) := by decide +kernel
theorem dX10_electedNow_9 : decode cX10_electedNow 9 = .ok (.getfield 116, 3) := by decide +kernel
theorem dX10_electedNow_12 : decode cX10_electedNow 12 = .ok (.iload_n 1, 1) := by decide +kernel
theorem dX10_electedNow_13 : decode cX10_electedNow 13 = .ok (.iconst 0, 1) := by decide +kernel
theorem dX10_electedNow_14 : decode cX10_electedNow 14 = .ok (.iastore, 1) := by decide +kernel
theorem dX10_electedNow_15 : decode cX10_electedNow 15 = .ok (.iinc 1 1, 3) := by decide +kernel
theorem dX10_electedNow_18 : decode cX10_electedNow 18 = .ok (.goto (-16), 3) := by decide +kernel
theorem dX10_electedNow_21 : decode cX10_electedNow 21 = .ok (.iconst 0, 1) := by decide +kernel
theorem dX10_electedNow_22 : decode cX10_electedNow 22 = .ok (.istore_n 1, 1) := by decide +kernel
theorem dX10_electedNow_23 : decode cX10_electedNow 23 = .ok (.iload_n 1, 1) := by decide +kernel
theorem dX10_electedNow_24 : decode cX10_electedNow 24 = .ok (.aload_n 0, 1) := by decide +kernel
theorem dX10_electedNow_25 : decode cX10_electedNow 25 = .ok (.getfield 49, 3) := by decide +kernel
theorem dX10_electedNow_28 : decode cX10_electedNow 28 = .ok (.aload_n 0, 1) := by decide +kernel
theorem dX10_electedNow_29 : decode cX10_electedNow 29 = .ok (.getfield 228, 3) := by decide +kernel
theorem dX10_electedNow_32 : decode cX10_electedNow 32 = .ok (.iaload, 1) := by decide +kernel
theorem dX10_electedNow_33 : decode cX10_electedNow 33 = .ok (.if_icmp .ge 23, 3) := by decide +kernel
theorem dX10_electedNow_36 : decode cX10_electedNow 36 = .ok (.aload_n 0, 1) := by decide +kernel
theorem dX10_electedNow_37 : decode cX10_electedNow 37 = .ok (.getfield 116, 3) := by decide +kernel
theorem dX10_electedNow_40 : decode cX10_electedNow 40 = .ok (.aload_n 0, 1) := by decide +kernel
theorem dX10_electedNow_41 : decode cX10_electedNow 41 = .ok (.iload_n 1, 1) := by decide +kernel
theorem dX10_electedNow_42 : decode cX10_electedNow 42 = .ok (.invokevirtual 337, 3) := by decide +kernel
theorem dX10_electedNow_45 : decode cX10_electedNow 45 = .ok (.dup2, 1) := by decide +kernel
theorem dX10_electedNow_46 : decode cX10_electedNow 46 = .ok (.iaload, 1) := by decide +kernel
theorem dX10_electedNow_47 : decode cX10_electedNow 47 = .ok (.iconst 1, 1) := by decide +kernel
theorem dX10_electedNow_48 : decode cX10_electedNow 48 = .ok (.iadd, 1) := by decide +kernel
theorem dX10_electedNow_49 : decode cX10_electedNow 49 = .ok (.iastore, 1) := by decide +kernel
theorem dX10_electedNow_50 : decode cX10_electedNow 50 = .ok (.iinc 1 1, 3) := by decide +kernel
theorem dX10_electedNow_53 : decode cX10_electedNow 53 = .ok (.goto (-30), 3) := by decide +kernel
theorem dX10_electedNow_56 : decode cX10_electedNow 56 = .ok (.iconst 0, 1) := by decide +kernel
theorem dX10_electedNow_57 : decode cX10_electedNow 57 = .ok (.istore_n 1, 1) := by decide +kernel
theorem dX10_electedNow_58 : decode cX10_electedNow 58 = .ok (.iconst 1, 1) := by decide +kernel
theorem dX10_electedNow_59 : decode cX10_electedNow 59 = .ok (.istore_n 2, 1) := by decide +kernel
theorem dX10_electedNow_60 : decode cX10_electedNow 60 = .ok (.iload_n 2, 1) := by decide +kernel
theorem dX10_electedNow_61 : decode cX10_electedNow 61 = .ok (.aload_n 0, 1) := by decide +kernel
theorem dX10_electedNow_62 : decode cX10_electedNow 62 = .ok (.getfield 49, 3) := by decide +kernel
theorem dX10_electedNow_65 : decode cX10_electedNow 65 = .ok (.aload_n 0, 1) := by decide +kernel
theorem dX10_electedNow_66 : decode cX10_electedNow 66 = .ok (.getfield 228, 3) := by decide +kernel
theorem dX10_electedNow_69 : decode cX10_electedNow 69 = .ok (.iaload, 1) := by decide +kernel
theorem dX10_electedNow_70 : decode cX10_electedNow 70 = .ok (.if_icmp .ge 56, 3) := by decide +kernel
theorem dX10_electedNow_73 : decode cX10_electedNow 73 = .ok (.aload_n 0, 1) := by decide +kernel
theorem dX10_electedNow_74 : decode cX10_electedNow 74 = .ok (.getfield 116, 3) := by decide +kernel
theorem dX10_electedNow_77 : decode cX10_electedNow 77 = .ok (.iload_n 2, 1) := by decide +kernel
theorem dX10_electedNow_78 : decode cX10_electedNow 78 = .ok (.iaload, 1) := by decide +kernel
theorem dX10_electedNow_79 : decode cX10_electedNow 79 = .ok (.aload_n 0, 1) := by decide +kernel
theorem dX10_electedNow_80 : decode cX10_electedNow 80 = .ok (.getfield 116, 3) := by decide +kernel
theorem dX10_electedNow_83 : decode cX10_electedNow 83 = .ok (.iload_n 1, 1) := by decide +kernel
theorem dX10_electedNow_84 : decode cX10_electedNow 84 = .ok (.iaload, 1) := by decide +kernel
theorem dX10_electedNow_85 : decode cX10_electedNow 85 = .ok (.if_icmp .gt 33, 3) := by decide +kernel
theorem dX10_electedNow_88 : decode cX10_electedNow 88 = .ok (.aload_n 0, 1) := by decide +kernel
theorem dX10_electedNow_89 : decode cX10_electedNow 89 = .ok (.getfield 116, 3) := by decide +kernel
theorem dX10_electedNow_92 : decode cX10_electedNow 92 = .ok (.iload_n 2, 1) := by decide +kernel
theorem dX10_electedNow_93 : decode cX10_electedNow 93 = .ok (.iaload, 1) := by decide +kernel
theorem dX10_electedNow_94 : decode cX10_electedNow 94 = .ok (.aload_n 0, 1) := by decide +kernel
theorem dX10_electedNow_95 : decode cX10_electedNow 95 = .ok (.getfield 116, 3) := by decide +kernel
theorem dX10_electedNow_98 : decode cX10_electedNow 98 = .ok (.iload_n 1, 1) := by decide +kernel
theorem dX10_electedNow_99 : decode cX10_electedNow 99 = .ok (.iaload, 1) := by decide +kernel
theorem dX10_electedNow_100 : decode cX10_electedNow 100 = .ok (.if_icmp .ne 20, 3) := by decide +kernel
theorem dX10_electedNow_103 : decode cX10_electedNow 103 = .ok (.aload_n 0, 1) := by decide +kernel
theorem dX10_electedNow_104 : decode cX10_electedNow 104 = .ok (.getfield 113, 3) := by decide +kernel
theorem dX10_electedNow_107 : decode cX10_electedNow 107 = .ok (.iload_n 2, 1) := by decide +kernel
theorem dX10_electedNow_108 : decode cX10_electedNow 108 = .ok (.iaload, 1) := by decide +kernel
theorem dX10_electedNow_109 : decode cX10_electedNow 109 = .ok (.aload_n 0, 1) := by decide +kernel
theorem dX10_electedNow_110 : decode cX10_electedNow 110 = .ok (.getfield 113, 3) := by decide +kernel
theorem dX10_electedNow_113 : decode cX10_electedNow 113 = .ok (.iload_n 1, 1) := by decide +kernel
theorem dX10_electedNow_114 : decode cX10_electedNow 114 = .ok (.iaload, 1) := by decide +kernel
theorem dX10_electedNow_115 : decode cX10_electedNow 115 = .ok (.if_icmp .ge 5, 3) := by decide +kernel
theorem dX10_electedNow_118 : decode cX10_electedNow 118 = .ok (.iload_n 2, 1) := by decide +kernel
theorem dX10_electedNow_119 : decode cX10_electedNow 119 = .ok (.istore_n 1, 1) := by decide +kernel
theorem dX10_electedNow_120 : decode cX10_electedNow 120 = .ok (.iinc 2 1, 3) := by decide +kernel
theorem dX10_electedNow_123 : decode cX10_electedNow 123 = .ok (.goto (-63), 3) := by decide +kernel
theorem dX10_electedNow_126 : decode cX10_electedNow 126 = .ok (.iload_n 1, 1) := by decide +kernel
theorem dX10_electedNow_127 : decode cX10_electedNow 127 = .ok (.ireturn, 1) := by decide +kernel
theorem dX10_man_0 : decode cX10_man 0 = .ok (.aload_n 0, 1) := by decide +kernel
theorem dX10_man_1 : decode cX10_man 1 = .ok (.iload_n 1, 1) := by decide +kernel
theorem dX10_man_2 : decode cX10_man 2 = .ok (.invokevirtual 340, 3) := by decide +kernel
theorem dX10_man_5 : decode cX10_man 5 = .ok (.ifCond .ne 5, 3) := by decide +kernel
theorem dX10_man_8 : decode cX10_man 8 = .ok (.iconst (-1), 1) := by decide +kernel
theorem dX10_man_9 : decode cX10_man 9 = .ok (.ireturn, 1) := by decide +kernel
theorem dX10_man_10 : decode cX10_man 10 = .ok (.aload_n 0, 1) := by decide +kernel
theorem dX10_man_11 : decode cX10_man 11 = .ok (.invokevirtual 343, 3) := by decide +kernel
theorem dX10_man_14 : decode cX10_man 14 = .ok (.iload_n 2, 1) := by decide +kernel
theorem dX10_man_15 : decode cX10_man 15 = .ok (.tableswitch 134 0 6 #[41, 47, 57, 63, 69, 83, 93], 41) := by decide +kernel
theorem dX10_man_56 : decode cX10_man 56 = .ok (.aload_n 0, 1) := by decide +kernel
theorem dX10_man_57 : decode cX10_man 57 = .ok (.iload_n 1, 1) := by decide +kernel
theorem dX10_man_58 : decode cX10_man 58 = .ok (.invokevirtual 319, 3) := by decide +kernel
theorem dX10_man_61 : decode cX10_man 61 = .ok (.ireturn, 1) := by decide +kernel
theorem dX10_man_62 : decode cX10_man 62 = .ok (.aload_n 0, 1) := by decide +kernel
theorem dX10_man_63 : decode cX10_man 63 = .ok (.getfield 110, 3) := by decide +kernel
theorem dX10_man_66 : decode cX10_man 66 = .ok (.bipush 9, 2) := by decide +kernel
theorem dX10_man_68 : decode cX10_man 68 = .ok (.iload_n 1, 1) := by decide +kernel
theorem dX10_man_69 : decode cX10_man 69 = .ok (.imul, 1) := by decide +kernel
theorem dX10_man_70 : decode cX10_man 70 = .ok (.iaload, 1) := by decide +kernel
theorem dX10_man_71 : decode cX10_man 71 = .ok (.ireturn, 1) := by decide +kernel
theorem dX10_man_72 : decode cX10_man 72 = .ok (.aload_n 0, 1) := by decide +kernel
theorem dX10_man_73 : decode cX10_man 73 = .ok (.iload_n 1, 1) := by decide +kernel
theorem dX10_man_74 : decode cX10_man 74 = .ok (.invokevirtual 334, 3) := by decide +kernel
theorem dX10_man_77 : decode cX10_man 77 = .ok (.ireturn, 1) := by decide +kernel
theorem dX10_man_78 : decode cX10_man 78 = .ok (.aload_n 0, 1) := by decide +kernel
theorem dX10_man_79 : decode cX10_man 79 = .ok (.iload_n 1, 1) := by decide +kernel
theorem dX10_man_80 : decode cX10_man 80 = .ok (.invokevirtual 346, 3) := by decide +kernel
theorem dX10_man_83 : decode cX10_man 83 = .ok (.ireturn, 1) := by decide +kernel
theorem dX10_man_84 : decode cX10_man 84 = .ok (.aload_n 0, 1) := by decide +kernel
theorem dX10_man_85 : decode cX10_man 85 = .ok (.iload_n 1, 1) := by decide +kernel
theorem dX10_man_86 : decode cX10_man 86 = .ok (.invokevirtual 349, 3) := by decide +kernel
theorem dX10_man_89 : decode cX10_man 89 = .ok (.ifCond .eq 7, 3) := by decide +kernel
theorem dX10_man_92 : decode cX10_man 92 = .ok (.iconst 1, 1) := by decide +kernel
theorem dX10_man_93 : decode cX10_man 93 = .ok (.goto 4, 3) := by decide +kernel
theorem dX10_man_96 : decode cX10_man 96 = .ok (.iconst 0, 1) := by decide +kernel
theorem dX10_man_97 : decode cX10_man 97 = .ok (.ireturn, 1) := by decide +kernel
theorem dX10_man_98 : decode cX10_man 98 = .ok (.aload_n 0, 1) := by decide +kernel
theorem dX10_man_99 : decode cX10_man 99 = .ok (.invokevirtual 352, 3) := by decide +kernel
theorem dX10_man_102 : decode cX10_man 102 = .ok (.aload_n 0, 1) := by decide +kernel
theorem dX10_man_103 : decode cX10_man 103 = .ok (.iload_n 1, 1) := by decide +kernel
theorem dX10_man_104 : decode cX10_man 104 = .ok (.invokevirtual 337, 3) := by decide +kernel
theorem dX10_man_107 : decode cX10_man 107 = .ok (.ireturn, 1) := by decide +kernel
theorem dX10_man_108 : decode cX10_man 108 = .ok (.iconst 0, 1) := by decide +kernel
theorem dX10_man_109 : decode cX10_man 109 = .ok (.istore_n 3, 1) := by decide +kernel
theorem dX10_man_110 : decode cX10_man 110 = .ok (.iconst 0, 1) := by decide +kernel
theorem dX10_man_111 : decode cX10_man 111 = .ok (.istore 4, 2) := by decide +kernel
theorem dX10_man_113 : decode cX10_man 113 = .ok (.iload 4, 2) := by decide +kernel
theorem dX10_man_115 : decode cX10_man 115 = .ok (.bipush 9, 2) := by decide +kernel
theorem dX10_man_117 : decode cX10_man 117 = .ok (.if_icmp .ge 30, 3) := by decide +kernel
theorem dX10_man_120 : decode cX10_man 120 = .ok (.iload 4, 2) := by decide +kernel
theorem dX10_man_122 : decode cX10_man 122 = .ok (.iload_n 1, 1) := by decide +kernel
theorem dX10_man_123 : decode cX10_man 123 = .ok (.if_icmp .eq 18, 3) := by decide +kernel
theorem dX10_man_126 : decode cX10_man 126 = .ok (.iload_n 3, 1) := by decide +kernel
theorem dX10_man_127 : decode cX10_man 127 = .ok (.aload_n 0, 1) := by decide +kernel
theorem dX10_man_128 : decode cX10_man 128 = .ok (.getfield 110, 3) := by decide +kernel
theorem dX10_man_131 : decode cX10_man 131 = .ok (.bipush 8, 2) := by decide +kernel
theorem dX10_man_133 : decode cX10_man 133 = .ok (.iload 4, 2) := by decide +kernel
theorem dX10_man_135 : decode cX10_man 135 = .ok (.imul, 1) := by decide +kernel
theorem dX10_man_136 : decode cX10_man 136 = .ok (.iload_n 1, 1) := by decide +kernel
theorem dX10_man_137 : decode cX10_man 137 = .ok (.iadd, 1) := by decide +kernel
theorem dX10_man_138 : decode cX10_man 138 = .ok (.iaload, 1) := by decide +kernel
theorem dX10_man_139 : decode cX10_man 139 = .ok (.iadd, 1) := by decide +kernel
theorem dX10_man_140 : decode cX10_man 140 = .ok (.istore_n 3, 1) := by decide +kernel
theorem dX10_man_141 : decode cX10_man 141 = .ok (.iinc 4 1, 3) := by decide +kernel
theorem dX10_man_144 : decode cX10_man 144 = .ok (.goto (-31), 3) := by decide +kernel
theorem dX10_man_147 : decode cX10_man 147 = .ok (.iload_n 3, 1) := by decide +kernel
theorem dX10_man_148 : decode cX10_man 148 = .ok (.ireturn, 1) := by decide +kernel
theorem dX10_man_149 : decode cX10_man 149 = .ok (.iconst (-1), 1) := by decide +kernel
theorem dX10_man_150 : decode cX10_man 150 = .ok (.ireturn, 1) := by decide +kernel
theorem dX10_led_0 : decode cX10_led 0 = .ok (.iload_n 1, 1) := by decide +kernel
theorem dX10_led_1 : decode cX10_led 1 = .ok (.iconst (-1), 1) := by decide +kernel
theorem dX10_led_2 : decode cX10_led 2 = .ok (.if_icmp .eq 11, 3) := by decide +kernel
theorem dX10_led_5 : decode cX10_led 5 = .ok (.aload_n 0, 1) := by decide +kernel
theorem dX10_led_6 : decode cX10_led 6 = .ok (.iload_n 1, 1) := by decide +kernel
theorem dX10_led_7 : decode cX10_led 7 = .ok (.invokevirtual 340, 3) := by decide +kernel
theorem dX10_led_10 : decode cX10_led 10 = .ok (.ifCond .eq 11, 3) := by decide +kernel
theorem dX10_led_13 : decode cX10_led 13 = .ok (.aload_n 0, 1) := by decide +kernel
theorem dX10_led_14 : decode cX10_led 14 = .ok (.iload_n 2, 1) := by decide +kernel
theorem dX10_led_15 : decode cX10_led 15 = .ok (.invokevirtual 340, 3) := by decide +kernel
theorem dX10_led_18 : decode cX10_led 18 = .ok (.ifCond .ne 5, 3) := by decide +kernel
theorem dX10_led_21 : decode cX10_led 21 = .ok (.iconst (-1), 1) := by decide +kernel
theorem dX10_led_22 : decode cX10_led 22 = .ok (.ireturn, 1) := by decide +kernel
theorem dX10_led_23 : decode cX10_led 23 = .ok (.aload_n 0, 1) := by decide +kernel
theorem dX10_led_24 : decode cX10_led 24 = .ok (.getfield 107, 3) := by decide +kernel
theorem dX10_led_27 : decode cX10_led 27 = .ok (.bipush 8, 2) := by decide +kernel
theorem dX10_led_29 : decode cX10_led 29 = .ok (.iload_n 1, 1) := by decide +kernel
theorem dX10_led_30 : decode cX10_led 30 = .ok (.iconst (-1), 1) := by decide +kernel
theorem dX10_led_31 : decode cX10_led 31 = .ok (.if_icmp .ne 8, 3) := by decide +kernel
theorem dX10_led_34 : decode cX10_led 34 = .ok (.bipush 8, 2) := by decide +kernel
theorem dX10_led_36 : decode cX10_led 36 = .ok (.goto 4, 3) := by decide +kernel
theorem dX10_led_39 : decode cX10_led 39 = .ok (.iload_n 1, 1) := by decide +kernel
theorem dX10_led_40 : decode cX10_led 40 = .ok (.imul, 1) := by decide +kernel
theorem dX10_led_41 : decode cX10_led 41 = .ok (.iload_n 2, 1) := by decide +kernel
theorem dX10_led_42 : decode cX10_led 42 = .ok (.iadd, 1) := by decide +kernel
theorem dX10_led_43 : decode cX10_led 43 = .ok (.iaload, 1) := by decide +kernel
theorem dX10_led_44 : decode cX10_led 44 = .ok (.ireturn, 1) := by decide +kernel
theorem dX10_areTwo_0 : decode cX10_areTwo 0 = .ok (.aload_n 0, 1) := by decide +kernel
theorem dX10_areTwo_1 : decode cX10_areTwo 1 = .ok (.iload_n 1, 1) := by decide +kernel
theorem dX10_areTwo_2 : decode cX10_areTwo 2 = .ok (.invokevirtual 340, 3) := by decide +kernel
theorem dX10_areTwo_5 : decode cX10_areTwo 5 = .ok (.ifCond .eq 20, 3) := by decide +kernel
theorem dX10_areTwo_8 : decode cX10_areTwo 8 = .ok (.aload_n 0, 1) := by decide +kernel
theorem dX10_areTwo_9 : decode cX10_areTwo 9 = .ok (.iload_n 2, 1) := by decide +kernel
theorem dX10_areTwo_10 : decode cX10_areTwo 10 = .ok (.invokevirtual 340, 3) := by decide +kernel
theorem dX10_areTwo_13 : decode cX10_areTwo 13 = .ok (.ifCond .eq 12, 3) := by decide +kernel
theorem dX10_areTwo_16 : decode cX10_areTwo 16 = .ok (.iload_n 1, 1) := by decide +kernel
theorem dX10_areTwo_17 : decode cX10_areTwo 17 = .ok (.iload_n 2, 1) := by decide +kernel
theorem dX10_areTwo_18 : decode cX10_areTwo 18 = .ok (.if_icmp .eq 7, 3) := by decide +kernel
theorem dX10_areTwo_21 : decode cX10_areTwo 21 = .ok (.iconst 1, 1) := by decide +kernel
theorem dX10_areTwo_22 : decode cX10_areTwo 22 = .ok (.goto 4, 3) := by decide +kernel
theorem dX10_areTwo_25 : decode cX10_areTwo 25 = .ok (.iconst 0, 1) := by decide +kernel
theorem dX10_areTwo_26 : decode cX10_areTwo 26 = .ok (.ireturn, 1) := by decide +kernel
theorem dX10_debt_0 : decode cX10_debt 0 = .ok (.aload_n 0, 1) := by decide +kernel
theorem dX10_debt_1 : decode cX10_debt 1 = .ok (.iload_n 1, 1) := by decide +kernel
theorem dX10_debt_2 : decode cX10_debt 2 = .ok (.iload_n 2, 1) := by decide +kernel
theorem dX10_debt_3 : decode cX10_debt 3 = .ok (.invokevirtual 355, 3) := by decide +kernel
theorem dX10_debt_6 : decode cX10_debt 6 = .ok (.ifCond .eq 20, 3) := by decide +kernel
theorem dX10_debt_9 : decode cX10_debt 9 = .ok (.aload_n 0, 1) := by decide +kernel
theorem dX10_debt_10 : decode cX10_debt 10 = .ok (.getfield 107, 3) := by decide +kernel
theorem dX10_debt_13 : decode cX10_debt 13 = .ok (.bipush 72, 2) := by decide +kernel
theorem dX10_debt_15 : decode cX10_debt 15 = .ok (.bipush 8, 2) := by decide +kernel
theorem dX10_debt_17 : decode cX10_debt 17 = .ok (.iload_n 1, 1) := by decide +kernel
theorem dX10_debt_18 : decode cX10_debt 18 = .ok (.imul, 1) := by decide +kernel
theorem dX10_debt_19 : decode cX10_debt 19 = .ok (.iadd, 1) := by decide +kernel
theorem dX10_debt_20 : decode cX10_debt 20 = .ok (.iload_n 2, 1) := by decide +kernel
theorem dX10_debt_21 : decode cX10_debt 21 = .ok (.iadd, 1) := by decide +kernel
theorem dX10_debt_22 : decode cX10_debt 22 = .ok (.iaload, 1) := by decide +kernel
theorem dX10_debt_23 : decode cX10_debt 23 = .ok (.goto 4, 3) := by decide +kernel
theorem dX10_debt_26 : decode cX10_debt 26 = .ok (.iconst (-1), 1) := by decide +kernel
theorem dX10_debt_27 : decode cX10_debt 27 = .ok (.ireturn, 1) := by decide +kernel
theorem dX10_tariff_0 : decode cX10_tariff 0 = .ok (.aload_n 0, 1) := by decide +kernel
theorem dX10_tariff_1 : decode cX10_tariff 1 = .ok (.iload_n 1, 1) := by decide +kernel
theorem dX10_tariff_2 : decode cX10_tariff 2 = .ok (.invokevirtual 340, 3) := by decide +kernel
theorem dX10_tariff_5 : decode cX10_tariff 5 = .ok (.ifCond .eq 11, 3) := by decide +kernel
theorem dX10_tariff_8 : decode cX10_tariff 8 = .ok (.aload_n 0, 1) := by decide +kernel
theorem dX10_tariff_9 : decode cX10_tariff 9 = .ok (.iload_n 2, 1) := by decide +kernel
theorem dX10_tariff_10 : decode cX10_tariff 10 = .ok (.invokevirtual 359, 3) := by decide +kernel
theorem dX10_tariff_13 : decode cX10_tariff 13 = .ok (.ifCond .ne 5, 3) := by decide +kernel
theorem dX10_tariff_16 : decode cX10_tariff 16 = .ok (.iconst (-1), 1) := by decide +kernel
theorem dX10_tariff_17 : decode cX10_tariff 17 = .ok (.ireturn, 1) := by decide +kernel
theorem dX10_tariff_18 : decode cX10_tariff 18 = .ok (.aload_n 0, 1) := by decide +kernel
theorem dX10_tariff_19 : decode cX10_tariff 19 = .ok (.invokevirtual 343, 3) := by decide +kernel
theorem dX10_tariff_22 : decode cX10_tariff 22 = .ok (.aload_n 0, 1) := by decide +kernel
theorem dX10_tariff_23 : decode cX10_tariff 23 = .ok (.iload_n 1, 1) := by decide +kernel
theorem dX10_tariff_24 : decode cX10_tariff 24 = .ok (.iload_n 2, 1) := by decide +kernel
theorem dX10_tariff_25 : decode cX10_tariff 25 = .ok (.invokevirtual 362, 3) := by decide +kernel
theorem dX10_tariff_28 : decode cX10_tariff 28 = .ok (.ireturn, 1) := by decide +kernel
theorem dX10_keeps_0 : decode cX10_keeps 0 = .ok (.aload_n 0, 1) := by decide +kernel
theorem dX10_keeps_1 : decode cX10_keeps 1 = .ok (.getfield 246, 3) := by decide +kernel
theorem dX10_keeps_4 : decode cX10_keeps 4 = .ok (.bipush 25, 2) := by decide +kernel
theorem dX10_keeps_6 : decode cX10_keeps 6 = .ok (.if_icmp .ne 44, 3) := by decide +kernel
theorem dX10_keeps_9 : decode cX10_keeps 9 = .ok (.iconst 0, 1) := by decide +kernel
theorem dX10_keeps_10 : decode cX10_keeps 10 = .ok (.istore_n 1, 1) := by decide +kernel
theorem dX10_keeps_11 : decode cX10_keeps 11 = .ok (.iload_n 1, 1) := by decide +kernel
theorem dX10_keeps_12 : decode cX10_keeps 12 = .ok (.ldc_w 365, 3) := by decide +kernel
theorem dX10_keeps_15 : decode cX10_keeps 15 = .ok (.if_icmp .ge 25, 3) := by decide +kernel
theorem dX10_keeps_18 : decode cX10_keeps 18 = .ok (.aload_n 0, 1) := by decide +kernel
theorem dX10_keeps_19 : decode cX10_keeps 19 = .ok (.getfield 120, 3) := by decide +kernel
theorem dX10_keeps_22 : decode cX10_keeps 22 = .ok (.iload_n 1, 1) := by decide +kernel
theorem dX10_keeps_23 : decode cX10_keeps 23 = .ok (.aload_n 0, 1) := by decide +kernel
theorem dX10_keeps_24 : decode cX10_keeps 24 = .ok (.getfield 120, 3) := by decide +kernel
theorem dX10_keeps_27 : decode cX10_keeps 27 = .ok (.iload_n 1, 1) := by decide +kernel
theorem dX10_keeps_28 : decode cX10_keeps 28 = .ok (.sipush 1720, 3) := by decide +kernel
theorem dX10_keeps_31 : decode cX10_keeps 31 = .ok (.iadd, 1) := by decide +kernel
theorem dX10_keeps_32 : decode cX10_keeps 32 = .ok (.iaload, 1) := by decide +kernel
theorem dX10_keeps_33 : decode cX10_keeps 33 = .ok (.iastore, 1) := by decide +kernel
theorem dX10_keeps_34 : decode cX10_keeps 34 = .ok (.iinc 1 1, 3) := by decide +kernel
theorem dX10_keeps_37 : decode cX10_keeps 37 = .ok (.goto (-26), 3) := by decide +kernel
theorem dX10_keeps_40 : decode cX10_keeps 40 = .ok (.aload_n 0, 1) := by decide +kernel
theorem dX10_keeps_41 : decode cX10_keeps 41 = .ok (.dup, 1) := by decide +kernel
theorem dX10_keeps_42 : decode cX10_keeps 42 = .ok (.getfield 246, 3) := by decide +kernel
theorem dX10_keeps_45 : decode cX10_keeps 45 = .ok (.iconst 1, 1) := by decide +kernel
theorem dX10_keeps_46 : decode cX10_keeps 46 = .ok (.isub, 1) := by decide +kernel
theorem dX10_keeps_47 : decode cX10_keeps 47 = .ok (.putfield 246, 3) := by decide +kernel
theorem dX10_keeps_50 : decode cX10_keeps 50 = .ok (.iconst 0, 1) := by decide +kernel
theorem dX10_keeps_51 : decode cX10_keeps 51 = .ok (.istore_n 1, 1) := by decide +kernel
theorem dX10_keeps_52 : decode cX10_keeps 52 = .ok (.iload_n 1, 1) := by decide +kernel
theorem dX10_keeps_53 : decode cX10_keeps 53 = .ok (.sipush 1720, 3) := by decide +kernel
theorem dX10_keeps_56 : decode cX10_keeps 56 = .ok (.if_icmp .ge 30, 3) := by decide +kernel
theorem dX10_keeps_59 : decode cX10_keeps 59 = .ok (.aload_n 0, 1) := by decide +kernel
theorem dX10_keeps_60 : decode cX10_keeps 60 = .ok (.getfield 120, 3) := by decide +kernel
theorem dX10_keeps_63 : decode cX10_keeps 63 = .ok (.sipush 1720, 3) := by decide +kernel
theorem dX10_keeps_66 : decode cX10_keeps 66 = .ok (.aload_n 0, 1) := by decide +kernel
theorem dX10_keeps_67 : decode cX10_keeps 67 = .ok (.getfield 246, 3) := by decide +kernel
theorem dX10_keeps_70 : decode cX10_keeps 70 = .ok (.imul, 1) := by decide +kernel
theorem dX10_keeps_71 : decode cX10_keeps 71 = .ok (.iload_n 1, 1) := by decide +kernel
theorem dX10_keeps_72 : decode cX10_keeps 72 = .ok (.iadd, 1) := by decide +kernel
theorem dX10_keeps_73 : decode cX10_keeps 73 = .ok (.aload_n 0, 1) := by decide +kernel
theorem dX10_keeps_74 : decode cX10_keeps 74 = .ok (.getfield 107, 3) := by decide +kernel
theorem dX10_keeps_77 : decode cX10_keeps 77 = .ok (.iload_n 1, 1) := by decide +kernel
theorem dX10_keeps_78 : decode cX10_keeps 78 = .ok (.iaload, 1) := by decide +kernel
theorem dX10_keeps_79 : decode cX10_keeps 79 = .ok (.iastore, 1) := by decide +kernel
theorem dX10_keeps_80 : decode cX10_keeps 80 = .ok (.iinc 1 1, 3) := by decide +kernel
theorem dX10_keeps_83 : decode cX10_keeps 83 = .ok (.goto (-31), 3) := by decide +kernel
theorem dX10_keeps_86 : decode cX10_keeps 86 = .ok (.aload_n 0, 1) := by decide +kernel
theorem dX10_keeps_87 : decode cX10_keeps 87 = .ok (.dup, 1) := by decide +kernel
theorem dX10_keeps_88 : decode cX10_keeps 88 = .ok (.getfield 246, 3) := by decide +kernel
theorem dX10_keeps_91 : decode cX10_keeps 91 = .ok (.iconst 1, 1) := by decide +kernel
theorem dX10_keeps_92 : decode cX10_keeps 92 = .ok (.iadd, 1) := by decide +kernel
theorem dX10_keeps_93 : decode cX10_keeps 93 = .ok (.putfield 246, 3) := by decide +kernel
theorem dX10_keeps_96 : decode cX10_keeps 96 = .ok (.iconst 0, 1) := by decide +kernel
theorem dX10_keeps_97 : decode cX10_keeps 97 = .ok (.istore_n 1, 1) := by decide +kernel
theorem dX10_keeps_98 : decode cX10_keeps 98 = .ok (.iload_n 1, 1) := by decide +kernel
theorem dX10_keeps_99 : decode cX10_keeps 99 = .ok (.sipush 1720, 3) := by decide +kernel
theorem dX10_keeps_102 : decode cX10_keeps 102 = .ok (.if_icmp .ge 21, 3) := by decide +kernel
theorem dX10_keeps_105 : decode cX10_keeps 105 = .ok (.aload_n 0, 1) := by decide +kernel
theorem dX10_keeps_106 : decode cX10_keeps 106 = .ok (.getfield 107, 3) := by decide +kernel
theorem dX10_keeps_109 : decode cX10_keeps 109 = .ok (.iload_n 1, 1) := by decide +kernel
theorem dX10_keeps_110 : decode cX10_keeps 110 = .ok (.aload_n 0, 1) := by decide +kernel
theorem dX10_keeps_111 : decode cX10_keeps 111 = .ok (.getfield 110, 3) := by decide +kernel
theorem dX10_keeps_114 : decode cX10_keeps 114 = .ok (.iload_n 1, 1) := by decide +kernel
theorem dX10_keeps_115 : decode cX10_keeps 115 = .ok (.iaload, 1) := by decide +kernel
theorem dX10_keeps_116 : decode cX10_keeps 116 = .ok (.iastore, 1) := by decide +kernel
theorem dX10_keeps_117 : decode cX10_keeps 117 = .ok (.iinc 1 1, 3) := by decide +kernel
theorem dX10_keeps_120 : decode cX10_keeps 120 = .ok (.goto (-22), 3) := by decide +kernel
theorem dX10_keeps_123 : decode cX10_keeps 123 = .ok (.return_, 1) := by decide +kernel
theorem dX10_fine_0 : decode cX10_fine 0 = .ok (.aload_n 0, 1) := by decide +kernel
theorem dX10_fine_1 : decode cX10_fine 1 = .ok (.iload_n 1, 1) := by decide +kernel
theorem dX10_fine_2 : decode cX10_fine 2 = .ok (.invokevirtual 340, 3) := by decide +kernel
theorem dX10_fine_5 : decode cX10_fine 5 = .ok (.ifCond .eq 11, 3) := by decide +kernel
theorem dX10_fine_8 : decode cX10_fine 8 = .ok (.aload_n 0, 1) := by decide +kernel
theorem dX10_fine_9 : decode cX10_fine 9 = .ok (.iload_n 2, 1) := by decide +kernel
theorem dX10_fine_10 : decode cX10_fine 10 = .ok (.invokevirtual 359, 3) := by decide +kernel
theorem dX10_fine_13 : decode cX10_fine 13 = .ok (.ifCond .ne 5, 3) := by decide +kernel
theorem dX10_fine_16 : decode cX10_fine 16 = .ok (.iconst (-1), 1) := by decide +kernel
theorem dX10_fine_17 : decode cX10_fine 17 = .ok (.ireturn, 1) := by decide +kernel
theorem dX10_fine_18 : decode cX10_fine 18 = .ok (.aload_n 0, 1) := by decide +kernel
theorem dX10_fine_19 : decode cX10_fine 19 = .ok (.getfield 107, 3) := by decide +kernel
theorem dX10_fine_22 : decode cX10_fine 22 = .ok (.sipush 201, 3) := by decide +kernel
theorem dX10_fine_25 : decode cX10_fine 25 = .ok (.iaload, 1) := by decide +kernel
theorem dX10_fine_26 : decode cX10_fine 26 = .ok (.sipush 300, 3) := by decide +kernel
theorem dX10_fine_29 : decode cX10_fine 29 = .ok (.if_icmp .ne 6, 3) := by decide +kernel
theorem dX10_fine_32 : decode cX10_fine 32 = .ok (.bipush (-2), 2) := by decide +kernel
theorem dX10_fine_34 : decode cX10_fine 34 = .ok (.ireturn, 1) := by decide +kernel
theorem dX10_fine_35 : decode cX10_fine 35 = .ok (.aload_n 0, 1) := by decide +kernel
theorem dX10_fine_36 : decode cX10_fine 36 = .ok (.invokevirtual 366, 3) := by decide +kernel
theorem dX10_fine_39 : decode cX10_fine 39 = .ok (.aload_n 0, 1) := by decide +kernel
theorem dX10_fine_40 : decode cX10_fine 40 = .ok (.iload_n 1, 1) := by decide +kernel
theorem dX10_fine_41 : decode cX10_fine 41 = .ok (.invokevirtual 319, 3) := by decide +kernel
theorem dX10_fine_44 : decode cX10_fine 44 = .ok (.istore_n 3, 1) := by decide +kernel
theorem dX10_fine_45 : decode cX10_fine 45 = .ok (.aload_n 0, 1) := by decide +kernel
theorem dX10_fine_46 : decode cX10_fine 46 = .ok (.iload_n 1, 1) := by decide +kernel
theorem dX10_fine_47 : decode cX10_fine 47 = .ok (.iload_n 2, 1) := by decide +kernel
theorem dX10_fine_48 : decode cX10_fine 48 = .ok (.invokevirtual 362, 3) := by decide +kernel
theorem dX10_fine_51 : decode cX10_fine 51 = .ok (.istore 4, 2) := by decide +kernel
theorem dX10_fine_53 : decode cX10_fine 53 = .ok (.iload 4, 2) := by decide +kernel
theorem dX10_fine_55 : decode cX10_fine 55 = .ok (.iload_n 3, 1) := by decide +kernel
theorem dX10_fine_56 : decode cX10_fine 56 = .ok (.if_icmp .le 6, 3) := by decide +kernel
theorem dX10_fine_59 : decode cX10_fine 59 = .ok (.iload_n 3, 1) := by decide +kernel
theorem dX10_fine_60 : decode cX10_fine 60 = .ok (.istore 4, 2) := by decide +kernel
theorem dX10_fine_62 : decode cX10_fine 62 = .ok (.aload_n 0, 1) := by decide +kernel
theorem dX10_fine_63 : decode cX10_fine 63 = .ok (.iload_n 1, 1) := by decide +kernel
theorem dX10_fine_64 : decode cX10_fine 64 = .ok (.bipush 8, 2) := by decide +kernel
theorem dX10_fine_66 : decode cX10_fine 66 = .ok (.iload 4, 2) := by decide +kernel
theorem dX10_fine_68 : decode cX10_fine 68 = .ok (.iload_n 1, 1) := by decide +kernel
theorem dX10_fine_69 : decode cX10_fine 69 = .ok (.invokevirtual 369, 3) := by decide +kernel
theorem dX10_fine_72 : decode cX10_fine 72 = .ok (.aload_n 0, 1) := by decide +kernel
theorem dX10_fine_73 : decode cX10_fine 73 = .ok (.getfield 110, 3) := by decide +kernel
theorem dX10_fine_76 : decode cX10_fine 76 = .ok (.sipush 136, 3) := by decide +kernel
theorem dX10_fine_79 : decode cX10_fine 79 = .ok (.bipush 8, 2) := by decide +kernel
theorem dX10_fine_81 : decode cX10_fine 81 = .ok (.iload_n 1, 1) := by decide +kernel
theorem dX10_fine_82 : decode cX10_fine 82 = .ok (.imul, 1) := by decide +kernel
theorem dX10_fine_83 : decode cX10_fine 83 = .ok (.iadd, 1) := by decide +kernel
theorem dX10_fine_84 : decode cX10_fine 84 = .ok (.iload_n 2, 1) := by decide +kernel
theorem dX10_fine_85 : decode cX10_fine 85 = .ok (.iadd, 1) := by decide +kernel
theorem dX10_fine_86 : decode cX10_fine 86 = .ok (.dup2, 1) := by decide +kernel
theorem dX10_fine_87 : decode cX10_fine 87 = .ok (.iaload, 1) := by decide +kernel
theorem dX10_fine_88 : decode cX10_fine 88 = .ok (.iconst 1, 1) := by decide +kernel
theorem dX10_fine_89 : decode cX10_fine 89 = .ok (.iadd, 1) := by decide +kernel
theorem dX10_fine_90 : decode cX10_fine 90 = .ok (.iastore, 1) := by decide +kernel
theorem dX10_fine_91 : decode cX10_fine 91 = .ok (.sipush 210, 3) := by decide +kernel
theorem dX10_fine_94 : decode cX10_fine 94 = .ok (.iconst 5, 1) := by decide +kernel
theorem dX10_fine_95 : decode cX10_fine 95 = .ok (.aload_n 0, 1) := by decide +kernel
theorem dX10_fine_96 : decode cX10_fine 96 = .ok (.getfield 110, 3) := by decide +kernel
theorem dX10_fine_99 : decode cX10_fine 99 = .ok (.sipush 201, 3) := by decide +kernel
theorem dX10_fine_102 : decode cX10_fine 102 = .ok (.iaload, 1) := by decide +kernel
theorem dX10_fine_103 : decode cX10_fine 103 = .ok (.imul, 1) := by decide +kernel
theorem dX10_fine_104 : decode cX10_fine 104 = .ok (.iadd, 1) := by decide +kernel
theorem dX10_fine_105 : decode cX10_fine 105 = .ok (.istore 5, 2) := by decide +kernel
theorem dX10_fine_107 : decode cX10_fine 107 = .ok (.aload_n 0, 1) := by decide +kernel
theorem dX10_fine_108 : decode cX10_fine 108 = .ok (.getfield 110, 3) := by decide +kernel
theorem dX10_fine_111 : decode cX10_fine 111 = .ok (.iload 5, 2) := by decide +kernel
theorem dX10_fine_113 : decode cX10_fine 113 = .ok (.iload_n 1, 1) := by decide +kernel
theorem dX10_fine_114 : decode cX10_fine 114 = .ok (.iastore, 1) := by decide +kernel
theorem dX10_fine_115 : decode cX10_fine 115 = .ok (.aload_n 0, 1) := by decide +kernel
theorem dX10_fine_116 : decode cX10_fine 116 = .ok (.getfield 110, 3) := by decide +kernel
theorem dX10_fine_119 : decode cX10_fine 119 = .ok (.iload 5, 2) := by decide +kernel
theorem dX10_fine_121 : decode cX10_fine 121 = .ok (.iconst 1, 1) := by decide +kernel
theorem dX10_fine_122 : decode cX10_fine 122 = .ok (.iadd, 1) := by decide +kernel
theorem dX10_fine_123 : decode cX10_fine 123 = .ok (.iload_n 2, 1) := by decide +kernel
theorem dX10_fine_124 : decode cX10_fine 124 = .ok (.iastore, 1) := by decide +kernel
theorem dX10_fine_125 : decode cX10_fine 125 = .ok (.aload_n 0, 1) := by decide +kernel
theorem dX10_fine_126 : decode cX10_fine 126 = .ok (.getfield 110, 3) := by decide +kernel
theorem dX10_fine_129 : decode cX10_fine 129 = .ok (.iload 5, 2) := by decide +kernel
theorem dX10_fine_131 : decode cX10_fine 131 = .ok (.iconst 2, 1) := by decide +kernel
theorem dX10_fine_132 : decode cX10_fine 132 = .ok (.iadd, 1) := by decide +kernel
theorem dX10_fine_133 : decode cX10_fine 133 = .ok (.aload_n 0, 1) := by decide +kernel
theorem dX10_fine_134 : decode cX10_fine 134 = .ok (.getfield 110, 3) := by decide +kernel
theorem dX10_fine_137 : decode cX10_fine 137 = .ok (.sipush 200, 3) := by decide +kernel
theorem dX10_fine_140 : decode cX10_fine 140 = .ok (.iaload, 1) := by decide +kernel
theorem dX10_fine_141 : decode cX10_fine 141 = .ok (.iastore, 1) := by decide +kernel
theorem dX10_fine_142 : decode cX10_fine 142 = .ok (.aload_n 0, 1) := by decide +kernel
theorem dX10_fine_143 : decode cX10_fine 143 = .ok (.getfield 110, 3) := by decide +kernel
theorem dX10_fine_146 : decode cX10_fine 146 = .ok (.iload 5, 2) := by decide +kernel
theorem dX10_fine_148 : decode cX10_fine 148 = .ok (.iconst 3, 1) := by decide +kernel
theorem dX10_fine_149 : decode cX10_fine 149 = .ok (.iadd, 1) := by decide +kernel
theorem dX10_fine_150 : decode cX10_fine 150 = .ok (.iload 4, 2) := by decide +kernel
theorem dX10_fine_152 : decode cX10_fine 152 = .ok (.iastore, 1) := by decide +kernel
theorem dX10_fine_153 : decode cX10_fine 153 = .ok (.aload_n 0, 1) := by decide +kernel
theorem dX10_fine_154 : decode cX10_fine 154 = .ok (.getfield 110, 3) := by decide +kernel
theorem dX10_fine_157 : decode cX10_fine 157 = .ok (.iload 5, 2) := by decide +kernel
theorem dX10_fine_159 : decode cX10_fine 159 = .ok (.iconst 4, 1) := by decide +kernel
theorem dX10_fine_160 : decode cX10_fine 160 = .ok (.iadd, 1) := by decide +kernel
theorem dX10_fine_161 : decode cX10_fine 161 = .ok (.iconst 0, 1) := by decide +kernel
theorem dX10_fine_162 : decode cX10_fine 162 = .ok (.iastore, 1) := by decide +kernel
theorem dX10_fine_163 : decode cX10_fine 163 = .ok (.aload_n 0, 1) := by decide +kernel
theorem dX10_fine_164 : decode cX10_fine 164 = .ok (.getfield 110, 3) := by decide +kernel
theorem dX10_fine_167 : decode cX10_fine 167 = .ok (.sipush 201, 3) := by decide +kernel
theorem dX10_fine_170 : decode cX10_fine 170 = .ok (.dup2, 1) := by decide +kernel
theorem dX10_fine_171 : decode cX10_fine 171 = .ok (.iaload, 1) := by decide +kernel
theorem dX10_fine_172 : decode cX10_fine 172 = .ok (.iconst 1, 1) := by decide +kernel
theorem dX10_fine_173 : decode cX10_fine 173 = .ok (.iadd, 1) := by decide +kernel
theorem dX10_fine_174 : decode cX10_fine 174 = .ok (.iastore, 1) := by decide +kernel
theorem dX10_fine_175 : decode cX10_fine 175 = .ok (.aload_n 0, 1) := by decide +kernel
theorem dX10_fine_176 : decode cX10_fine 176 = .ok (.invokevirtual 373, 3) := by decide +kernel
theorem dX10_fine_179 : decode cX10_fine 179 = .ok (.iload 4, 2) := by decide +kernel
theorem dX10_fine_181 : decode cX10_fine 181 = .ok (.ireturn, 1) := by decide +kernel
theorem dX10_entry_0 : decode cX10_entry 0 = .ok (.iload_n 1, 1) := by decide +kernel
theorem dX10_entry_1 : decode cX10_entry 1 = .ok (.iconst 0, 1) := by decide +kernel
theorem dX10_entry_2 : decode cX10_entry 2 = .ok (.aload_n 0, 1) := by decide +kernel
theorem dX10_entry_3 : decode cX10_entry 3 = .ok (.getfield 107, 3) := by decide +kernel
theorem dX10_entry_6 : decode cX10_entry 6 = .ok (.sipush 201, 3) := by decide +kernel
theorem dX10_entry_9 : decode cX10_entry 9 = .ok (.iaload, 1) := by decide +kernel
theorem dX10_entry_10 : decode cX10_entry 10 = .ok (.iconst 1, 1) := by decide +kernel
theorem dX10_entry_11 : decode cX10_entry 11 = .ok (.isub, 1) := by decide +kernel
theorem dX10_entry_12 : decode cX10_entry 12 = .ok (.invokestatic 312, 3) := by decide +kernel
theorem dX10_entry_15 : decode cX10_entry 15 = .ok (.ifCond .eq 29, 3) := by decide +kernel
theorem dX10_entry_18 : decode cX10_entry 18 = .ok (.iload_n 2, 1) := by decide +kernel
theorem dX10_entry_19 : decode cX10_entry 19 = .ok (.iconst 0, 1) := by decide +kernel
theorem dX10_entry_20 : decode cX10_entry 20 = .ok (.iconst 4, 1) := by decide +kernel
theorem dX10_entry_21 : decode cX10_entry 21 = .ok (.invokestatic 312, 3) := by decide +kernel
theorem dX10_entry_24 : decode cX10_entry 24 = .ok (.ifCond .eq 20, 3) := by decide +kernel
theorem dX10_entry_27 : decode cX10_entry 27 = .ok (.aload_n 0, 1) := by decide +kernel
theorem dX10_entry_28 : decode cX10_entry 28 = .ok (.getfield 107, 3) := by decide +kernel
theorem dX10_entry_31 : decode cX10_entry 31 = .ok (.sipush 210, 3) := by decide +kernel
theorem dX10_entry_34 : decode cX10_entry 34 = .ok (.iconst 5, 1) := by decide +kernel
theorem dX10_entry_35 : decode cX10_entry 35 = .ok (.iload_n 1, 1) := by decide +kernel
theorem dX10_entry_36 : decode cX10_entry 36 = .ok (.imul, 1) := by decide +kernel
theorem dX10_entry_37 : decode cX10_entry 37 = .ok (.iadd, 1) := by decide +kernel
theorem dX10_entry_38 : decode cX10_entry 38 = .ok (.iload_n 2, 1) := by decide +kernel
theorem dX10_entry_39 : decode cX10_entry 39 = .ok (.iadd, 1) := by decide +kernel
theorem dX10_entry_40 : decode cX10_entry 40 = .ok (.iaload, 1) := by decide +kernel
theorem dX10_entry_41 : decode cX10_entry 41 = .ok (.goto 4, 3) := by decide +kernel
theorem dX10_entry_44 : decode cX10_entry 44 = .ok (.iconst (-1), 1) := by decide +kernel
theorem dX10_entry_45 : decode cX10_entry 45 = .ok (.ireturn, 1) := by decide +kernel
theorem dX10_appeal_0 : decode cX10_appeal 0 = .ok (.iload_n 1, 1) := by decide +kernel
theorem dX10_appeal_1 : decode cX10_appeal 1 = .ok (.iconst 0, 1) := by decide +kernel
theorem dX10_appeal_2 : decode cX10_appeal 2 = .ok (.aload_n 0, 1) := by decide +kernel
theorem dX10_appeal_3 : decode cX10_appeal 3 = .ok (.getfield 107, 3) := by decide +kernel
theorem dX10_appeal_6 : decode cX10_appeal 6 = .ok (.sipush 201, 3) := by decide +kernel
theorem dX10_appeal_9 : decode cX10_appeal 9 = .ok (.iaload, 1) := by decide +kernel
theorem dX10_appeal_10 : decode cX10_appeal 10 = .ok (.iconst 1, 1) := by decide +kernel
theorem dX10_appeal_11 : decode cX10_appeal 11 = .ok (.isub, 1) := by decide +kernel
theorem dX10_appeal_12 : decode cX10_appeal 12 = .ok (.invokestatic 312, 3) := by decide +kernel
theorem dX10_appeal_15 : decode cX10_appeal 15 = .ok (.ifCond .ne 5, 3) := by decide +kernel
theorem dX10_appeal_18 : decode cX10_appeal 18 = .ok (.iconst (-1), 1) := by decide +kernel
theorem dX10_appeal_19 : decode cX10_appeal 19 = .ok (.ireturn, 1) := by decide +kernel
theorem dX10_appeal_20 : decode cX10_appeal 20 = .ok (.aload_n 0, 1) := by decide +kernel
theorem dX10_appeal_21 : decode cX10_appeal 21 = .ok (.invokevirtual 366, 3) := by decide +kernel
theorem dX10_appeal_24 : decode cX10_appeal 24 = .ok (.sipush 210, 3) := by decide +kernel
theorem dX10_appeal_27 : decode cX10_appeal 27 = .ok (.iconst 5, 1) := by decide +kernel
theorem dX10_appeal_28 : decode cX10_appeal 28 = .ok (.iload_n 1, 1) := by decide +kernel
theorem dX10_appeal_29 : decode cX10_appeal 29 = .ok (.imul, 1) := by decide +kernel
theorem dX10_appeal_30 : decode cX10_appeal 30 = .ok (.iadd, 1) := by decide +kernel
theorem dX10_appeal_31 : decode cX10_appeal 31 = .ok (.istore_n 2, 1) := by decide +kernel
theorem dX10_appeal_32 : decode cX10_appeal 32 = .ok (.aload_n 0, 1) := by decide +kernel
theorem dX10_appeal_33 : decode cX10_appeal 33 = .ok (.getfield 110, 3) := by decide +kernel
theorem dX10_appeal_36 : decode cX10_appeal 36 = .ok (.iload_n 2, 1) := by decide +kernel
theorem dX10_appeal_37 : decode cX10_appeal 37 = .ok (.iaload, 1) := by decide +kernel
theorem dX10_appeal_38 : decode cX10_appeal 38 = .ok (.istore_n 3, 1) := by decide +kernel
theorem dX10_appeal_39 : decode cX10_appeal 39 = .ok (.aload_n 0, 1) := by decide +kernel
theorem dX10_appeal_40 : decode cX10_appeal 40 = .ok (.getfield 110, 3) := by decide +kernel
theorem dX10_appeal_43 : decode cX10_appeal 43 = .ok (.iload_n 2, 1) := by decide +kernel
theorem dX10_appeal_44 : decode cX10_appeal 44 = .ok (.iconst 4, 1) := by decide +kernel
theorem dX10_appeal_45 : decode cX10_appeal 45 = .ok (.iadd, 1) := by decide +kernel
theorem dX10_appeal_46 : decode cX10_appeal 46 = .ok (.iaload, 1) := by decide +kernel
theorem dX10_appeal_47 : decode cX10_appeal 47 = .ok (.iconst 1, 1) := by decide +kernel
theorem dX10_appeal_48 : decode cX10_appeal 48 = .ok (.if_icmp .eq 11, 3) := by decide +kernel
theorem dX10_appeal_51 : decode cX10_appeal 51 = .ok (.aload_n 0, 1) := by decide +kernel
