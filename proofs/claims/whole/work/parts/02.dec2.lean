/-! decode rows 2 -/
theorem dX5_takeNewName_72 : decode cX5_takeNewName 72 = .ok (.iload_n 2, 1) := by decide +kernel
theorem dX5_takeNewName_73 : decode cX5_takeNewName 73 = .ok (.ifCond .lt 14, 3) := by decide +kernel
theorem dX5_takeNewName_76 : decode cX5_takeNewName 76 = .ok (.iload_n 2, 1) := by decide +kernel
theorem dX5_takeNewName_77 : decode cX5_takeNewName 77 = .ok (.aload_n 1, 1) := by decide +kernel
theorem dX5_takeNewName_78 : decode cX5_takeNewName 78 = .ok (.arraylength, 1) := by decide +kernel
theorem dX5_takeNewName_79 : decode cX5_takeNewName 79 = .ok (.if_icmp .ge 8, 3) := by decide +kernel
theorem dX5_takeNewName_82 : decode cX5_takeNewName 82 = .ok (.aload_n 1, 1) := by decide +kernel
theorem dX5_takeNewName_83 : decode cX5_takeNewName 83 = .ok (.iload_n 2, 1) := by decide +kernel
theorem dX5_takeNewName_84 : decode cX5_takeNewName 84 = .ok (.lload 4, 2) := by decide +kernel
theorem dX5_takeNewName_86 : decode cX5_takeNewName 86 = .ok (.lastore, 1) := by decide +kernel
theorem dX5_takeNewName_87 : decode cX5_takeNewName 87 = .ok (.iconst 1, 1) := by decide +kernel
theorem dX5_takeNewName_88 : decode cX5_takeNewName 88 = .ok (.ireturn, 1) := by decide +kernel
theorem dX5_takeOldName_0 : decode cX5_takeOldName 0 = .ok (.aload_n 0, 1) := by decide +kernel
theorem dX5_takeOldName_1 : decode cX5_takeOldName 1 = .ok (.getfield 33, 3) := by decide +kernel
theorem dX5_takeOldName_4 : decode cX5_takeOldName 4 = .ok (.istore_n 3, 1) := by decide +kernel
theorem dX5_takeOldName_5 : decode cX5_takeOldName 5 = .ok (.aload_n 0, 1) := by decide +kernel
theorem dX5_takeOldName_6 : decode cX5_takeOldName 6 = .ok (.iconst 1, 1) := by decide +kernel
theorem dX5_takeOldName_7 : decode cX5_takeOldName 7 = .ok (.invokevirtual 63, 3) := by decide +kernel
theorem dX5_takeOldName_10 : decode cX5_takeOldName 10 = .ok (.ifCond .ne 5, 3) := by decide +kernel
theorem dX5_takeOldName_13 : decode cX5_takeOldName 13 = .ok (.iconst 0, 1) := by decide +kernel
theorem dX5_takeOldName_14 : decode cX5_takeOldName 14 = .ok (.ireturn, 1) := by decide +kernel
theorem dX5_takeOldName_15 : decode cX5_takeOldName 15 = .ok (.aload_n 0, 1) := by decide +kernel
theorem dX5_takeOldName_16 : decode cX5_takeOldName 16 = .ok (.aload_n 1, 1) := by decide +kernel
theorem dX5_takeOldName_17 : decode cX5_takeOldName 17 = .ok (.iload_n 2, 1) := by decide +kernel
theorem dX5_takeOldName_18 : decode cX5_takeOldName 18 = .ok (.aload_n 0, 1) := by decide +kernel
theorem dX5_takeOldName_19 : decode cX5_takeOldName 19 = .ok (.getfield 22, 3) := by decide +kernel
theorem dX5_takeOldName_22 : decode cX5_takeOldName 22 = .ok (.getfield 67, 3) := by decide +kernel
theorem dX5_takeOldName_25 : decode cX5_takeOldName 25 = .ok (.iload_n 3, 1) := by decide +kernel
theorem dX5_takeOldName_26 : decode cX5_takeOldName 26 = .ok (.laload, 1) := by decide +kernel
theorem dX5_takeOldName_27 : decode cX5_takeOldName 27 = .ok (.invokestatic 80, 3) := by decide +kernel
theorem dX5_takeOldName_30 : decode cX5_takeOldName 30 = .ok (.putfield 70, 3) := by decide +kernel
theorem dX5_takeOldName_33 : decode cX5_takeOldName 33 = .ok (.aload_n 0, 1) := by decide +kernel
theorem dX5_takeOldName_34 : decode cX5_takeOldName 34 = .ok (.getfield 70, 3) := by decide +kernel
theorem dX5_takeOldName_37 : decode cX5_takeOldName 37 = .ok (.iconst (-1), 1) := by decide +kernel
theorem dX5_takeOldName_38 : decode cX5_takeOldName 38 = .ok (.if_icmp .ne 9, 3) := by decide +kernel
theorem dX5_takeOldName_41 : decode cX5_takeOldName 41 = .ok (.aload_n 0, 1) := by decide +kernel
theorem dX5_takeOldName_42 : decode cX5_takeOldName 42 = .ok (.iconst 4, 1) := by decide +kernel
theorem dX5_takeOldName_43 : decode cX5_takeOldName 43 = .ok (.iload_n 3, 1) := by decide +kernel
theorem dX5_takeOldName_44 : decode cX5_takeOldName 44 = .ok (.invokevirtual 73, 3) := by decide +kernel
theorem dX5_takeOldName_47 : decode cX5_takeOldName 47 = .ok (.iconst 1, 1) := by decide +kernel
theorem dX5_takeOldName_48 : decode cX5_takeOldName 48 = .ok (.ireturn, 1) := by decide +kernel
theorem dX5_find_0 : decode cX5_find 0 = .ok (.iconst 0, 1) := by decide +kernel
theorem dX5_find_1 : decode cX5_find 1 = .ok (.istore 4, 2) := by decide +kernel
theorem dX5_find_3 : decode cX5_find 3 = .ok (.iload 4, 2) := by decide +kernel
theorem dX5_find_5 : decode cX5_find 5 = .ok (.iload_n 1, 1) := by decide +kernel
theorem dX5_find_6 : decode cX5_find 6 = .ok (.if_icmp .ge 28, 3) := by decide +kernel
theorem dX5_find_9 : decode cX5_find 9 = .ok (.iload 4, 2) := by decide +kernel
theorem dX5_find_11 : decode cX5_find 11 = .ok (.aload_n 0, 1) := by decide +kernel
theorem dX5_find_12 : decode cX5_find 12 = .ok (.arraylength, 1) := by decide +kernel
theorem dX5_find_13 : decode cX5_find 13 = .ok (.if_icmp .ge 21, 3) := by decide +kernel
theorem dX5_find_16 : decode cX5_find 16 = .ok (.aload_n 0, 1) := by decide +kernel
theorem dX5_find_17 : decode cX5_find 17 = .ok (.iload 4, 2) := by decide +kernel
theorem dX5_find_19 : decode cX5_find 19 = .ok (.laload, 1) := by decide +kernel
theorem dX5_find_20 : decode cX5_find 20 = .ok (.lload_n 2, 1) := by decide +kernel
theorem dX5_find_21 : decode cX5_find 21 = .ok (.lcmp, 1) := by decide +kernel
theorem dX5_find_22 : decode cX5_find 22 = .ok (.ifCond .ne 6, 3) := by decide +kernel
theorem dX5_find_25 : decode cX5_find 25 = .ok (.iload 4, 2) := by decide +kernel
theorem dX5_find_27 : decode cX5_find 27 = .ok (.ireturn, 1) := by decide +kernel
theorem dX5_find_28 : decode cX5_find 28 = .ok (.iinc 4 1, 3) := by decide +kernel
theorem dX5_find_31 : decode cX5_find 31 = .ok (.goto (-28), 3) := by decide +kernel
theorem dX5_find_34 : decode cX5_find 34 = .ok (.iconst (-1), 1) := by decide +kernel
theorem dX5_find_35 : decode cX5_find 35 = .ok (.ireturn, 1) := by decide +kernel
theorem dX5_takeTell_0 : decode cX5_takeTell 0 = .ok (.aload_n 0, 1) := by decide +kernel
theorem dX5_takeTell_1 : decode cX5_takeTell 1 = .ok (.getfield 41, 3) := by decide +kernel
theorem dX5_takeTell_4 : decode cX5_takeTell 4 = .ok (.tableswitch 234 256 263 #[48, 53, 58, 110, 141, 172, 224, 229], 48) := by decide +kernel
theorem dX5_takeTell_52 : decode cX5_takeTell 52 = .ok (.aload_n 0, 1) := by decide +kernel
theorem dX5_takeTell_53 : decode cX5_takeTell 53 = .ok (.invokevirtual 87, 3) := by decide +kernel
theorem dX5_takeTell_56 : decode cX5_takeTell 56 = .ok (.ireturn, 1) := by decide +kernel
theorem dX5_takeTell_57 : decode cX5_takeTell 57 = .ok (.aload_n 0, 1) := by decide +kernel
theorem dX5_takeTell_58 : decode cX5_takeTell 58 = .ok (.invokevirtual 90, 3) := by decide +kernel
theorem dX5_takeTell_61 : decode cX5_takeTell 61 = .ok (.ireturn, 1) := by decide +kernel
theorem dX5_takeTell_62 : decode cX5_takeTell 62 = .ok (.aload_n 0, 1) := by decide +kernel
theorem dX5_takeTell_63 : decode cX5_takeTell 63 = .ok (.sipush 258, 3) := by decide +kernel
theorem dX5_takeTell_66 : decode cX5_takeTell 66 = .ok (.invokevirtual 63, 3) := by decide +kernel
theorem dX5_takeTell_69 : decode cX5_takeTell 69 = .ok (.ifCond .eq 43, 3) := by decide +kernel
theorem dX5_takeTell_72 : decode cX5_takeTell 72 = .ok (.aload_n 0, 1) := by decide +kernel
theorem dX5_takeTell_73 : decode cX5_takeTell 73 = .ok (.aload_n 0, 1) := by decide +kernel
theorem dX5_takeTell_74 : decode cX5_takeTell 74 = .ok (.getfield 19, 3) := by decide +kernel
theorem dX5_takeTell_77 : decode cX5_takeTell 77 = .ok (.aload_n 0, 1) := by decide +kernel
theorem dX5_takeTell_78 : decode cX5_takeTell 78 = .ok (.getfield 26, 3) := by decide +kernel
theorem dX5_takeTell_81 : decode cX5_takeTell 81 = .ok (.getfield 84, 3) := by decide +kernel
theorem dX5_takeTell_84 : decode cX5_takeTell 84 = .ok (.invokevirtual 93, 3) := by decide +kernel
theorem dX5_takeTell_87 : decode cX5_takeTell 87 = .ok (.ifCond .eq 25, 3) := by decide +kernel
theorem dX5_takeTell_90 : decode cX5_takeTell 90 = .ok (.aload_n 0, 1) := by decide +kernel
theorem dX5_takeTell_91 : decode cX5_takeTell 91 = .ok (.aload_n 0, 1) := by decide +kernel
theorem dX5_takeTell_92 : decode cX5_takeTell 92 = .ok (.getfield 26, 3) := by decide +kernel
theorem dX5_takeTell_95 : decode cX5_takeTell 95 = .ok (.getfield 97, 3) := by decide +kernel
theorem dX5_takeTell_98 : decode cX5_takeTell 98 = .ok (.aload_n 0, 1) := by decide +kernel
theorem dX5_takeTell_99 : decode cX5_takeTell 99 = .ok (.getfield 70, 3) := by decide +kernel
theorem dX5_takeTell_102 : decode cX5_takeTell 102 = .ok (.invokevirtual 100, 3) := by decide +kernel
theorem dX5_takeTell_105 : decode cX5_takeTell 105 = .ok (.ifCond .eq 7, 3) := by decide +kernel
theorem dX5_takeTell_108 : decode cX5_takeTell 108 = .ok (.iconst 1, 1) := by decide +kernel
theorem dX5_takeTell_109 : decode cX5_takeTell 109 = .ok (.goto 4, 3) := by decide +kernel
theorem dX5_takeTell_112 : decode cX5_takeTell 112 = .ok (.iconst 0, 1) := by decide +kernel
theorem dX5_takeTell_113 : decode cX5_takeTell 113 = .ok (.ireturn, 1) := by decide +kernel
theorem dX5_takeTell_114 : decode cX5_takeTell 114 = .ok (.aload_n 0, 1) := by decide +kernel
theorem dX5_takeTell_115 : decode cX5_takeTell 115 = .ok (.sipush 259, 3) := by decide +kernel
theorem dX5_takeTell_118 : decode cX5_takeTell 118 = .ok (.invokevirtual 63, 3) := by decide +kernel
theorem dX5_takeTell_121 : decode cX5_takeTell 121 = .ok (.ifCond .eq 22, 3) := by decide +kernel
theorem dX5_takeTell_124 : decode cX5_takeTell 124 = .ok (.aload_n 0, 1) := by decide +kernel
theorem dX5_takeTell_125 : decode cX5_takeTell 125 = .ok (.aload_n 0, 1) := by decide +kernel
theorem dX5_takeTell_126 : decode cX5_takeTell 126 = .ok (.getfield 26, 3) := by decide +kernel
theorem dX5_takeTell_129 : decode cX5_takeTell 129 = .ok (.getfield 104, 3) := by decide +kernel
theorem dX5_takeTell_132 : decode cX5_takeTell 132 = .ok (.iconst 0, 1) := by decide +kernel
theorem dX5_takeTell_133 : decode cX5_takeTell 133 = .ok (.invokevirtual 100, 3) := by decide +kernel
theorem dX5_takeTell_136 : decode cX5_takeTell 136 = .ok (.ifCond .eq 7, 3) := by decide +kernel
theorem dX5_takeTell_139 : decode cX5_takeTell 139 = .ok (.iconst 1, 1) := by decide +kernel
theorem dX5_takeTell_140 : decode cX5_takeTell 140 = .ok (.goto 4, 3) := by decide +kernel
theorem dX5_takeTell_143 : decode cX5_takeTell 143 = .ok (.iconst 0, 1) := by decide +kernel
theorem dX5_takeTell_144 : decode cX5_takeTell 144 = .ok (.ireturn, 1) := by decide +kernel
theorem dX5_takeTell_145 : decode cX5_takeTell 145 = .ok (.aload_n 0, 1) := by decide +kernel
theorem dX5_takeTell_146 : decode cX5_takeTell 146 = .ok (.sipush 260, 3) := by decide +kernel
theorem dX5_takeTell_149 : decode cX5_takeTell 149 = .ok (.invokevirtual 63, 3) := by decide +kernel
theorem dX5_takeTell_152 : decode cX5_takeTell 152 = .ok (.ifCond .eq 22, 3) := by decide +kernel
theorem dX5_takeTell_155 : decode cX5_takeTell 155 = .ok (.aload_n 0, 1) := by decide +kernel
theorem dX5_takeTell_156 : decode cX5_takeTell 156 = .ok (.aload_n 0, 1) := by decide +kernel
theorem dX5_takeTell_157 : decode cX5_takeTell 157 = .ok (.getfield 26, 3) := by decide +kernel
theorem dX5_takeTell_160 : decode cX5_takeTell 160 = .ok (.getfield 107, 3) := by decide +kernel
theorem dX5_takeTell_163 : decode cX5_takeTell 163 = .ok (.iconst 0, 1) := by decide +kernel
theorem dX5_takeTell_164 : decode cX5_takeTell 164 = .ok (.invokevirtual 100, 3) := by decide +kernel
theorem dX5_takeTell_167 : decode cX5_takeTell 167 = .ok (.ifCond .eq 7, 3) := by decide +kernel
theorem dX5_takeTell_170 : decode cX5_takeTell 170 = .ok (.iconst 1, 1) := by decide +kernel
theorem dX5_takeTell_171 : decode cX5_takeTell 171 = .ok (.goto 4, 3) := by decide +kernel
theorem dX5_takeTell_174 : decode cX5_takeTell 174 = .ok (.iconst 0, 1) := by decide +kernel
theorem dX5_takeTell_175 : decode cX5_takeTell 175 = .ok (.ireturn, 1) := by decide +kernel
theorem dX5_takeTell_176 : decode cX5_takeTell 176 = .ok (.aload_n 0, 1) := by decide +kernel
theorem dX5_takeTell_177 : decode cX5_takeTell 177 = .ok (.sipush 261, 3) := by decide +kernel
theorem dX5_takeTell_180 : decode cX5_takeTell 180 = .ok (.invokevirtual 63, 3) := by decide +kernel
theorem dX5_takeTell_183 : decode cX5_takeTell 183 = .ok (.ifCond .eq 43, 3) := by decide +kernel
theorem dX5_takeTell_186 : decode cX5_takeTell 186 = .ok (.aload_n 0, 1) := by decide +kernel
theorem dX5_takeTell_187 : decode cX5_takeTell 187 = .ok (.aload_n 0, 1) := by decide +kernel
theorem dX5_takeTell_188 : decode cX5_takeTell 188 = .ok (.getfield 15, 3) := by decide +kernel
theorem dX5_takeTell_191 : decode cX5_takeTell 191 = .ok (.aload_n 0, 1) := by decide +kernel
theorem dX5_takeTell_192 : decode cX5_takeTell 192 = .ok (.getfield 26, 3) := by decide +kernel
theorem dX5_takeTell_195 : decode cX5_takeTell 195 = .ok (.getfield 77, 3) := by decide +kernel
theorem dX5_takeTell_198 : decode cX5_takeTell 198 = .ok (.invokevirtual 93, 3) := by decide +kernel
theorem dX5_takeTell_201 : decode cX5_takeTell 201 = .ok (.ifCond .eq 25, 3) := by decide +kernel
theorem dX5_takeTell_204 : decode cX5_takeTell 204 = .ok (.aload_n 0, 1) := by decide +kernel
theorem dX5_takeTell_205 : decode cX5_takeTell 205 = .ok (.aload_n 0, 1) := by decide +kernel
theorem dX5_takeTell_206 : decode cX5_takeTell 206 = .ok (.getfield 26, 3) := by decide +kernel
theorem dX5_takeTell_209 : decode cX5_takeTell 209 = .ok (.getfield 110, 3) := by decide +kernel
theorem dX5_takeTell_212 : decode cX5_takeTell 212 = .ok (.aload_n 0, 1) := by decide +kernel
theorem dX5_takeTell_213 : decode cX5_takeTell 213 = .ok (.getfield 70, 3) := by decide +kernel
theorem dX5_takeTell_216 : decode cX5_takeTell 216 = .ok (.invokevirtual 100, 3) := by decide +kernel
theorem dX5_takeTell_219 : decode cX5_takeTell 219 = .ok (.ifCond .eq 7, 3) := by decide +kernel
theorem dX5_takeTell_222 : decode cX5_takeTell 222 = .ok (.iconst 1, 1) := by decide +kernel
theorem dX5_takeTell_223 : decode cX5_takeTell 223 = .ok (.goto 4, 3) := by decide +kernel
theorem dX5_takeTell_226 : decode cX5_takeTell 226 = .ok (.iconst 0, 1) := by decide +kernel
theorem dX5_takeTell_227 : decode cX5_takeTell 227 = .ok (.ireturn, 1) := by decide +kernel
theorem dX5_takeTell_228 : decode cX5_takeTell 228 = .ok (.aload_n 0, 1) := by decide +kernel
theorem dX5_takeTell_229 : decode cX5_takeTell 229 = .ok (.invokevirtual 113, 3) := by decide +kernel
theorem dX5_takeTell_232 : decode cX5_takeTell 232 = .ok (.ireturn, 1) := by decide +kernel
theorem dX5_takeTell_233 : decode cX5_takeTell 233 = .ok (.aload_n 0, 1) := by decide +kernel
theorem dX5_takeTell_234 : decode cX5_takeTell 234 = .ok (.invokevirtual 116, 3) := by decide +kernel
theorem dX5_takeTell_237 : decode cX5_takeTell 237 = .ok (.ireturn, 1) := by decide +kernel
theorem dX5_takeTell_238 : decode cX5_takeTell 238 = .ok (.aload_n 0, 1) := by decide +kernel
theorem dX5_takeTell_239 : decode cX5_takeTell 239 = .ok (.iconst 1, 1) := by decide +kernel
theorem dX5_takeTell_240 : decode cX5_takeTell 240 = .ok (.invokevirtual 119, 3) := by decide +kernel
theorem dX5_takeTell_243 : decode cX5_takeTell 243 = .ok (.ireturn, 1) := by decide +kernel
theorem dX5_takeMan_0 : decode cX5_takeMan 0 = .ok (.aload_n 0, 1) := by decide +kernel
theorem dX5_takeMan_1 : decode cX5_takeMan 1 = .ok (.getfield 26, 3) := by decide +kernel
theorem dX5_takeMan_4 : decode cX5_takeMan 4 = .ok (.getfield 77, 3) := by decide +kernel
theorem dX5_takeMan_7 : decode cX5_takeMan 7 = .ok (.bipush 8, 2) := by decide +kernel
theorem dX5_takeMan_9 : decode cX5_takeMan 9 = .ok (.if_icmp .lt 9, 3) := by decide +kernel
theorem dX5_takeMan_12 : decode cX5_takeMan 12 = .ok (.aload_n 0, 1) := by decide +kernel
theorem dX5_takeMan_13 : decode cX5_takeMan 13 = .ok (.iconst 2, 1) := by decide +kernel
theorem dX5_takeMan_14 : decode cX5_takeMan 14 = .ok (.invokevirtual 119, 3) := by decide +kernel
theorem dX5_takeMan_17 : decode cX5_takeMan 17 = .ok (.ireturn, 1) := by decide +kernel
theorem dX5_takeMan_18 : decode cX5_takeMan 18 = .ok (.aload_n 0, 1) := by decide +kernel
theorem dX5_takeMan_19 : decode cX5_takeMan 19 = .ok (.sipush 256, 3) := by decide +kernel
theorem dX5_takeMan_22 : decode cX5_takeMan 22 = .ok (.invokevirtual 63, 3) := by decide +kernel
theorem dX5_takeMan_25 : decode cX5_takeMan 25 = .ok (.ifCond .eq 32, 3) := by decide +kernel
theorem dX5_takeMan_28 : decode cX5_takeMan 28 = .ok (.aload_n 0, 1) := by decide +kernel
theorem dX5_takeMan_29 : decode cX5_takeMan 29 = .ok (.aload_n 0, 1) := by decide +kernel
theorem dX5_takeMan_30 : decode cX5_takeMan 30 = .ok (.getfield 15, 3) := by decide +kernel
theorem dX5_takeMan_33 : decode cX5_takeMan 33 = .ok (.aload_n 0, 1) := by decide +kernel
theorem dX5_takeMan_34 : decode cX5_takeMan 34 = .ok (.getfield 26, 3) := by decide +kernel
theorem dX5_takeMan_37 : decode cX5_takeMan 37 = .ok (.getfield 77, 3) := by decide +kernel
theorem dX5_takeMan_40 : decode cX5_takeMan 40 = .ok (.invokevirtual 122, 3) := by decide +kernel
theorem dX5_takeMan_43 : decode cX5_takeMan 43 = .ok (.ifCond .eq 14, 3) := by decide +kernel
theorem dX5_takeMan_46 : decode cX5_takeMan 46 = .ok (.aload_n 0, 1) := by decide +kernel
theorem dX5_takeMan_47 : decode cX5_takeMan 47 = .ok (.iconst 0, 1) := by decide +kernel
theorem dX5_takeMan_48 : decode cX5_takeMan 48 = .ok (.sipush 999, 3) := by decide +kernel
theorem dX5_takeMan_51 : decode cX5_takeMan 51 = .ok (.invokevirtual 125, 3) := by decide +kernel
theorem dX5_takeMan_54 : decode cX5_takeMan 54 = .ok (.ifCond .ne 5, 3) := by decide +kernel
theorem dX5_takeMan_57 : decode cX5_takeMan 57 = .ok (.iconst 0, 1) := by decide +kernel
theorem dX5_takeMan_58 : decode cX5_takeMan 58 = .ok (.ireturn, 1) := by decide +kernel
theorem dX5_takeMan_59 : decode cX5_takeMan 59 = .ok (.aload_n 0, 1) := by decide +kernel
theorem dX5_takeMan_60 : decode cX5_takeMan 60 = .ok (.getfield 26, 3) := by decide +kernel
theorem dX5_takeMan_63 : decode cX5_takeMan 63 = .ok (.getfield 129, 3) := by decide +kernel
theorem dX5_takeMan_66 : decode cX5_takeMan 66 = .ok (.aload_n 0, 1) := by decide +kernel
theorem dX5_takeMan_67 : decode cX5_takeMan 67 = .ok (.getfield 26, 3) := by decide +kernel
theorem dX5_takeMan_70 : decode cX5_takeMan 70 = .ok (.getfield 77, 3) := by decide +kernel
theorem dX5_takeMan_73 : decode cX5_takeMan 73 = .ok (.aload_n 0, 1) := by decide +kernel
theorem dX5_takeMan_74 : decode cX5_takeMan 74 = .ok (.getfield 70, 3) := by decide +kernel
theorem dX5_takeMan_77 : decode cX5_takeMan 77 = .ok (.iastore, 1) := by decide +kernel
theorem dX5_takeMan_78 : decode cX5_takeMan 78 = .ok (.aload_n 0, 1) := by decide +kernel
theorem dX5_takeMan_79 : decode cX5_takeMan 79 = .ok (.getfield 26, 3) := by decide +kernel
theorem dX5_takeMan_82 : decode cX5_takeMan 82 = .ok (.dup, 1) := by decide +kernel
theorem dX5_takeMan_83 : decode cX5_takeMan 83 = .ok (.getfield 77, 3) := by decide +kernel
theorem dX5_takeMan_86 : decode cX5_takeMan 86 = .ok (.iconst 1, 1) := by decide +kernel
theorem dX5_takeMan_87 : decode cX5_takeMan 87 = .ok (.iadd, 1) := by decide +kernel
theorem dX5_takeMan_88 : decode cX5_takeMan 88 = .ok (.putfield 77, 3) := by decide +kernel
theorem dX5_takeMan_91 : decode cX5_takeMan 91 = .ok (.aload_n 0, 1) := by decide +kernel
theorem dX5_takeMan_92 : decode cX5_takeMan 92 = .ok (.bipush 59, 2) := by decide +kernel
theorem dX5_takeMan_94 : decode cX5_takeMan 94 = .ok (.invokevirtual 63, 3) := by decide +kernel
theorem dX5_takeMan_97 : decode cX5_takeMan 97 = .ok (.ireturn, 1) := by decide +kernel
theorem dX5_takeDeed_0 : decode cX5_takeDeed 0 = .ok (.aload_n 0, 1) := by decide +kernel
theorem dX5_takeDeed_1 : decode cX5_takeDeed 1 = .ok (.getfield 26, 3) := by decide +kernel
theorem dX5_takeDeed_4 : decode cX5_takeDeed 4 = .ok (.getfield 84, 3) := by decide +kernel
theorem dX5_takeDeed_7 : decode cX5_takeDeed 7 = .ok (.bipush 8, 2) := by decide +kernel
theorem dX5_takeDeed_9 : decode cX5_takeDeed 9 = .ok (.if_icmp .lt 9, 3) := by decide +kernel
theorem dX5_takeDeed_12 : decode cX5_takeDeed 12 = .ok (.aload_n 0, 1) := by decide +kernel
theorem dX5_takeDeed_13 : decode cX5_takeDeed 13 = .ok (.iconst 2, 1) := by decide +kernel
theorem dX5_takeDeed_14 : decode cX5_takeDeed 14 = .ok (.invokevirtual 119, 3) := by decide +kernel
theorem dX5_takeDeed_17 : decode cX5_takeDeed 17 = .ok (.ireturn, 1) := by decide +kernel
theorem dX5_takeDeed_18 : decode cX5_takeDeed 18 = .ok (.aload_n 0, 1) := by decide +kernel
theorem dX5_takeDeed_19 : decode cX5_takeDeed 19 = .ok (.sipush 257, 3) := by decide +kernel
theorem dX5_takeDeed_22 : decode cX5_takeDeed 22 = .ok (.invokevirtual 63, 3) := by decide +kernel
theorem dX5_takeDeed_25 : decode cX5_takeDeed 25 = .ok (.ifCond .eq 31, 3) := by decide +kernel
theorem dX5_takeDeed_28 : decode cX5_takeDeed 28 = .ok (.aload_n 0, 1) := by decide +kernel
theorem dX5_takeDeed_29 : decode cX5_takeDeed 29 = .ok (.aload_n 0, 1) := by decide +kernel
theorem dX5_takeDeed_30 : decode cX5_takeDeed 30 = .ok (.getfield 19, 3) := by decide +kernel
theorem dX5_takeDeed_33 : decode cX5_takeDeed 33 = .ok (.aload_n 0, 1) := by decide +kernel
theorem dX5_takeDeed_34 : decode cX5_takeDeed 34 = .ok (.getfield 26, 3) := by decide +kernel
theorem dX5_takeDeed_37 : decode cX5_takeDeed 37 = .ok (.getfield 84, 3) := by decide +kernel
theorem dX5_takeDeed_40 : decode cX5_takeDeed 40 = .ok (.invokevirtual 122, 3) := by decide +kernel
theorem dX5_takeDeed_43 : decode cX5_takeDeed 43 = .ok (.ifCond .eq 13, 3) := by decide +kernel
theorem dX5_takeDeed_46 : decode cX5_takeDeed 46 = .ok (.aload_n 0, 1) := by decide +kernel
theorem dX5_takeDeed_47 : decode cX5_takeDeed 47 = .ok (.iconst 0, 1) := by decide +kernel
theorem dX5_takeDeed_48 : decode cX5_takeDeed 48 = .ok (.bipush 99, 2) := by decide +kernel
theorem dX5_takeDeed_50 : decode cX5_takeDeed 50 = .ok (.invokevirtual 125, 3) := by decide +kernel
theorem dX5_takeDeed_53 : decode cX5_takeDeed 53 = .ok (.ifCond .ne 5, 3) := by decide +kernel
theorem dX5_takeDeed_56 : decode cX5_takeDeed 56 = .ok (.iconst 0, 1) := by decide +kernel
theorem dX5_takeDeed_57 : decode cX5_takeDeed 57 = .ok (.ireturn, 1) := by decide +kernel
theorem dX5_takeDeed_58 : decode cX5_takeDeed 58 = .ok (.aload_n 0, 1) := by decide +kernel
theorem dX5_takeDeed_59 : decode cX5_takeDeed 59 = .ok (.getfield 26, 3) := by decide +kernel
theorem dX5_takeDeed_62 : decode cX5_takeDeed 62 = .ok (.getfield 132, 3) := by decide +kernel
theorem dX5_takeDeed_65 : decode cX5_takeDeed 65 = .ok (.aload_n 0, 1) := by decide +kernel
theorem dX5_takeDeed_66 : decode cX5_takeDeed 66 = .ok (.getfield 26, 3) := by decide +kernel
theorem dX5_takeDeed_69 : decode cX5_takeDeed 69 = .ok (.getfield 84, 3) := by decide +kernel
theorem dX5_takeDeed_72 : decode cX5_takeDeed 72 = .ok (.aload_n 0, 1) := by decide +kernel
theorem dX5_takeDeed_73 : decode cX5_takeDeed 73 = .ok (.getfield 70, 3) := by decide +kernel
theorem dX5_takeDeed_76 : decode cX5_takeDeed 76 = .ok (.iastore, 1) := by decide +kernel
theorem dX5_takeDeed_77 : decode cX5_takeDeed 77 = .ok (.aload_n 0, 1) := by decide +kernel
theorem dX5_takeDeed_78 : decode cX5_takeDeed 78 = .ok (.getfield 26, 3) := by decide +kernel
theorem dX5_takeDeed_81 : decode cX5_takeDeed 81 = .ok (.dup, 1) := by decide +kernel
theorem dX5_takeDeed_82 : decode cX5_takeDeed 82 = .ok (.getfield 84, 3) := by decide +kernel
theorem dX5_takeDeed_85 : decode cX5_takeDeed 85 = .ok (.iconst 1, 1) := by decide +kernel
theorem dX5_takeDeed_86 : decode cX5_takeDeed 86 = .ok (.iadd, 1) := by decide +kernel
theorem dX5_takeDeed_87 : decode cX5_takeDeed 87 = .ok (.putfield 84, 3) := by decide +kernel
theorem dX5_takeDeed_90 : decode cX5_takeDeed 90 = .ok (.aload_n 0, 1) := by decide +kernel
theorem dX5_takeDeed_91 : decode cX5_takeDeed 91 = .ok (.bipush 59, 2) := by decide +kernel
theorem dX5_takeDeed_93 : decode cX5_takeDeed 93 = .ok (.invokevirtual 63, 3) := by decide +kernel
theorem dX5_takeDeed_96 : decode cX5_takeDeed 96 = .ok (.ireturn, 1) := by decide +kernel
theorem dX5_takeCold_0 : decode cX5_takeCold 0 = .ok (.aload_n 0, 1) := by decide +kernel
theorem dX5_takeCold_1 : decode cX5_takeCold 1 = .ok (.getfield 26, 3) := by decide +kernel
theorem dX5_takeCold_4 : decode cX5_takeCold 4 = .ok (.iconst 0, 1) := by decide +kernel
theorem dX5_takeCold_5 : decode cX5_takeCold 5 = .ok (.putfield 135, 3) := by decide +kernel
theorem dX5_takeCold_8 : decode cX5_takeCold 8 = .ok (.aload_n 0, 1) := by decide +kernel
theorem dX5_takeCold_9 : decode cX5_takeCold 9 = .ok (.sipush 262, 3) := by decide +kernel
theorem dX5_takeCold_12 : decode cX5_takeCold 12 = .ok (.invokevirtual 63, 3) := by decide +kernel
theorem dX5_takeCold_15 : decode cX5_takeCold 15 = .ok (.istore_n 1, 1) := by decide +kernel
theorem dX5_takeCold_16 : decode cX5_takeCold 16 = .ok (.iconst 0, 1) := by decide +kernel
theorem dX5_takeCold_17 : decode cX5_takeCold 17 = .ok (.istore_n 2, 1) := by decide +kernel
theorem dX5_takeCold_18 : decode cX5_takeCold 18 = .ok (.iload_n 2, 1) := by decide +kernel
theorem dX5_takeCold_19 : decode cX5_takeCold 19 = .ok (.bipush 12, 2) := by decide +kernel
theorem dX5_takeCold_21 : decode cX5_takeCold 21 = .ok (.if_icmp .gt 71, 3) := by decide +kernel
theorem dX5_takeCold_24 : decode cX5_takeCold 24 = .ok (.iload_n 1, 1) := by decide +kernel
theorem dX5_takeCold_25 : decode cX5_takeCold 25 = .ok (.ifCond .eq 67, 3) := by decide +kernel
theorem dX5_takeCold_28 : decode cX5_takeCold 28 = .ok (.aload_n 0, 1) := by decide +kernel
theorem dX5_takeCold_29 : decode cX5_takeCold 29 = .ok (.getfield 41, 3) := by decide +kernel
theorem dX5_takeCold_32 : decode cX5_takeCold 32 = .ok (.iconst 2, 1) := by decide +kernel
theorem dX5_takeCold_33 : decode cX5_takeCold 33 = .ok (.if_icmp .ne 59, 3) := by decide +kernel
theorem dX5_takeCold_36 : decode cX5_takeCold 36 = .ok (.iload_n 2, 1) := by decide +kernel
theorem dX5_takeCold_37 : decode cX5_takeCold 37 = .ok (.bipush 12, 2) := by decide +kernel
theorem dX5_takeCold_39 : decode cX5_takeCold 39 = .ok (.if_icmp .ge 14, 3) := by decide +kernel
theorem dX5_takeCold_42 : decode cX5_takeCold 42 = .ok (.aload_n 0, 1) := by decide +kernel
theorem dX5_takeCold_43 : decode cX5_takeCold 43 = .ok (.iconst 0, 1) := by decide +kernel
theorem dX5_takeCold_44 : decode cX5_takeCold 44 = .ok (.sipush 999, 3) := by decide +kernel
theorem dX5_takeCold_47 : decode cX5_takeCold 47 = .ok (.invokevirtual 125, 3) := by decide +kernel
theorem dX5_takeCold_50 : decode cX5_takeCold 50 = .ok (.goto 8, 3) := by decide +kernel
theorem dX5_takeCold_53 : decode cX5_takeCold 53 = .ok (.aload_n 0, 1) := by decide +kernel
theorem dX5_takeCold_54 : decode cX5_takeCold 54 = .ok (.iconst 2, 1) := by decide +kernel
theorem dX5_takeCold_55 : decode cX5_takeCold 55 = .ok (.invokevirtual 119, 3) := by decide +kernel
theorem dX5_takeCold_58 : decode cX5_takeCold 58 = .ok (.istore_n 1, 1) := by decide +kernel
theorem dX5_takeCold_59 : decode cX5_takeCold 59 = .ok (.iload_n 1, 1) := by decide +kernel
theorem dX5_takeCold_60 : decode cX5_takeCold 60 = .ok (.ifCond .eq 26, 3) := by decide +kernel
theorem dX5_takeCold_63 : decode cX5_takeCold 63 = .ok (.aload_n 0, 1) := by decide +kernel
theorem dX5_takeCold_64 : decode cX5_takeCold 64 = .ok (.getfield 26, 3) := by decide +kernel
theorem dX5_takeCold_67 : decode cX5_takeCold 67 = .ok (.getfield 138, 3) := by decide +kernel
theorem dX5_takeCold_70 : decode cX5_takeCold 70 = .ok (.iload_n 2, 1) := by decide +kernel
theorem dX5_takeCold_71 : decode cX5_takeCold 71 = .ok (.aload_n 0, 1) := by decide +kernel
theorem dX5_takeCold_72 : decode cX5_takeCold 72 = .ok (.getfield 70, 3) := by decide +kernel
theorem dX5_takeCold_75 : decode cX5_takeCold 75 = .ok (.iastore, 1) := by decide +kernel
theorem dX5_takeCold_76 : decode cX5_takeCold 76 = .ok (.aload_n 0, 1) := by decide +kernel
theorem dX5_takeCold_77 : decode cX5_takeCold 77 = .ok (.getfield 26, 3) := by decide +kernel
theorem dX5_takeCold_80 : decode cX5_takeCold 80 = .ok (.iload_n 2, 1) := by decide +kernel
theorem dX5_takeCold_81 : decode cX5_takeCold 81 = .ok (.iconst 1, 1) := by decide +kernel
theorem dX5_takeCold_82 : decode cX5_takeCold 82 = .ok (.iadd, 1) := by decide +kernel
theorem dX5_takeCold_83 : decode cX5_takeCold 83 = .ok (.putfield 135, 3) := by decide +kernel
theorem dX5_takeCold_86 : decode cX5_takeCold 86 = .ok (.iinc 2 1, 3) := by decide +kernel
theorem dX5_takeCold_89 : decode cX5_takeCold 89 = .ok (.goto (-71), 3) := by decide +kernel
theorem dX5_takeCold_92 : decode cX5_takeCold 92 = .ok (.iload_n 1, 1) := by decide +kernel
theorem dX5_takeCold_93 : decode cX5_takeCold 93 = .ok (.ifCond .eq 16, 3) := by decide +kernel
theorem dX5_takeCold_96 : decode cX5_takeCold 96 = .ok (.aload_n 0, 1) := by decide +kernel
theorem dX5_takeCold_97 : decode cX5_takeCold 97 = .ok (.bipush 59, 2) := by decide +kernel
theorem dX5_takeCold_99 : decode cX5_takeCold 99 = .ok (.invokevirtual 63, 3) := by decide +kernel
theorem dX5_takeCold_102 : decode cX5_takeCold 102 = .ok (.ifCond .eq 7, 3) := by decide +kernel
theorem dX5_takeCold_105 : decode cX5_takeCold 105 = .ok (.iconst 1, 1) := by decide +kernel
theorem dX5_takeCold_106 : decode cX5_takeCold 106 = .ok (.goto 4, 3) := by decide +kernel
theorem dX5_takeCold_109 : decode cX5_takeCold 109 = .ok (.iconst 0, 1) := by decide +kernel
theorem dX5_takeCold_110 : decode cX5_takeCold 110 = .ok (.ireturn, 1) := by decide +kernel
theorem dX5_takeMoult_0 : decode cX5_takeMoult 0 = .ok (.aload_n 0, 1) := by decide +kernel
theorem dX5_takeMoult_1 : decode cX5_takeMoult 1 = .ok (.sipush 263, 3) := by decide +kernel
theorem dX5_takeMoult_4 : decode cX5_takeMoult 4 = .ok (.invokevirtual 63, 3) := by decide +kernel
theorem dX5_takeMoult_7 : decode cX5_takeMoult 7 = .ok (.ifCond .eq 13, 3) := by decide +kernel
theorem dX5_takeMoult_10 : decode cX5_takeMoult 10 = .ok (.aload_n 0, 1) := by decide +kernel
theorem dX5_takeMoult_11 : decode cX5_takeMoult 11 = .ok (.iconst 1, 1) := by decide +kernel
theorem dX5_takeMoult_12 : decode cX5_takeMoult 12 = .ok (.bipush 99, 2) := by decide +kernel
theorem dX5_takeMoult_14 : decode cX5_takeMoult 14 = .ok (.invokevirtual 125, 3) := by decide +kernel
theorem dX5_takeMoult_17 : decode cX5_takeMoult 17 = .ok (.ifCond .ne 5, 3) := by decide +kernel
theorem dX5_takeMoult_20 : decode cX5_takeMoult 20 = .ok (.iconst 0, 1) := by decide +kernel
theorem dX5_takeMoult_21 : decode cX5_takeMoult 21 = .ok (.ireturn, 1) := by decide +kernel
theorem dX5_takeMoult_22 : decode cX5_takeMoult 22 = .ok (.aload_n 0, 1) := by decide +kernel
theorem dX5_takeMoult_23 : decode cX5_takeMoult 23 = .ok (.getfield 26, 3) := by decide +kernel
theorem dX5_takeMoult_26 : decode cX5_takeMoult 26 = .ok (.aload_n 0, 1) := by decide +kernel
theorem dX5_takeMoult_27 : decode cX5_takeMoult 27 = .ok (.getfield 70, 3) := by decide +kernel
theorem dX5_takeMoult_30 : decode cX5_takeMoult 30 = .ok (.putfield 141, 3) := by decide +kernel
theorem dX5_takeMoult_33 : decode cX5_takeMoult 33 = .ok (.aload_n 0, 1) := by decide +kernel
theorem dX5_takeMoult_34 : decode cX5_takeMoult 34 = .ok (.bipush 59, 2) := by decide +kernel
theorem dX5_takeMoult_36 : decode cX5_takeMoult 36 = .ok (.invokevirtual 63, 3) := by decide +kernel
theorem dX5_takeMoult_39 : decode cX5_takeMoult 39 = .ok (.ireturn, 1) := by decide +kernel
theorem dX5_takeLaw_0 : decode cX5_takeLaw 0 = .ok (.iload_n 2, 1) := by decide +kernel
theorem dX5_takeLaw_1 : decode cX5_takeLaw 1 = .ok (.ifCond .lt 19, 3) := by decide +kernel
theorem dX5_takeLaw_4 : decode cX5_takeLaw 4 = .ok (.iload_n 2, 1) := by decide +kernel
theorem dX5_takeLaw_5 : decode cX5_takeLaw 5 = .ok (.aload_n 1, 1) := by decide +kernel
theorem dX5_takeLaw_6 : decode cX5_takeLaw 6 = .ok (.arraylength, 1) := by decide +kernel
theorem dX5_takeLaw_7 : decode cX5_takeLaw 7 = .ok (.if_icmp .ge 13, 3) := by decide +kernel
theorem dX5_takeLaw_10 : decode cX5_takeLaw 10 = .ok (.aload_n 1, 1) := by decide +kernel
theorem dX5_takeLaw_11 : decode cX5_takeLaw 11 = .ok (.iload_n 2, 1) := by decide +kernel
theorem dX5_takeLaw_12 : decode cX5_takeLaw 12 = .ok (.aload_n 0, 1) := by decide +kernel
theorem dX5_takeLaw_13 : decode cX5_takeLaw 13 = .ok (.getfield 26, 3) := by decide +kernel
theorem dX5_takeLaw_16 : decode cX5_takeLaw 16 = .ok (.getfield 144, 3) := by decide +kernel
theorem dX5_takeLaw_19 : decode cX5_takeLaw 19 = .ok (.iastore, 1) := by decide +kernel
theorem dX5_takeLaw_20 : decode cX5_takeLaw 20 = .ok (.aload_n 0, 1) := by decide +kernel
theorem dX5_takeLaw_21 : decode cX5_takeLaw 21 = .ok (.bipush 61, 2) := by decide +kernel
theorem dX5_takeLaw_23 : decode cX5_takeLaw 23 = .ok (.invokevirtual 63, 3) := by decide +kernel
theorem dX5_takeLaw_26 : decode cX5_takeLaw 26 = .ok (.istore_n 3, 1) := by decide +kernel
theorem dX5_takeLaw_27 : decode cX5_takeLaw 27 = .ok (.iconst 0, 1) := by decide +kernel
theorem dX5_takeLaw_28 : decode cX5_takeLaw 28 = .ok (.istore 4, 2) := by decide +kernel
theorem dX5_takeLaw_30 : decode cX5_takeLaw 30 = .ok (.iload 4, 2) := by decide +kernel
theorem dX5_takeLaw_32 : decode cX5_takeLaw 32 = .ok (.iconst 4, 1) := by decide +kernel
theorem dX5_takeLaw_33 : decode cX5_takeLaw 33 = .ok (.if_icmp .gt 152, 3) := by decide +kernel
theorem dX5_takeLaw_36 : decode cX5_takeLaw 36 = .ok (.iload_n 3, 1) := by decide +kernel
theorem dX5_takeLaw_37 : decode cX5_takeLaw 37 = .ok (.ifCond .eq 148, 3) := by decide +kernel
theorem dX5_takeLaw_40 : decode cX5_takeLaw 40 = .ok (.aload_n 0, 1) := by decide +kernel
theorem dX5_takeLaw_41 : decode cX5_takeLaw 41 = .ok (.getfield 41, 3) := by decide +kernel
theorem dX5_takeLaw_44 : decode cX5_takeLaw 44 = .ok (.sipush 264, 3) := by decide +kernel
theorem dX5_takeLaw_47 : decode cX5_takeLaw 47 = .ok (.if_icmp .ne 138, 3) := by decide +kernel
theorem dX5_takeLaw_50 : decode cX5_takeLaw 50 = .ok (.iload 4, 2) := by decide +kernel
theorem dX5_takeLaw_52 : decode cX5_takeLaw 52 = .ok (.iconst 4, 1) := by decide +kernel
theorem dX5_takeLaw_53 : decode cX5_takeLaw 53 = .ok (.if_icmp .ne 9, 3) := by decide +kernel
theorem dX5_takeLaw_56 : decode cX5_takeLaw 56 = .ok (.aload_n 0, 1) := by decide +kernel
theorem dX5_takeLaw_57 : decode cX5_takeLaw 57 = .ok (.iconst 2, 1) := by decide +kernel
theorem dX5_takeLaw_58 : decode cX5_takeLaw 58 = .ok (.invokevirtual 119, 3) := by decide +kernel
theorem dX5_takeLaw_61 : decode cX5_takeLaw 61 = .ok (.ireturn, 1) := by decide +kernel
theorem dX5_takeLaw_62 : decode cX5_takeLaw 62 = .ok (.aload_n 0, 1) := by decide +kernel
theorem dX5_takeLaw_63 : decode cX5_takeLaw 63 = .ok (.sipush 264, 3) := by decide +kernel
theorem dX5_takeLaw_66 : decode cX5_takeLaw 66 = .ok (.invokevirtual 63, 3) := by decide +kernel
theorem dX5_takeLaw_69 : decode cX5_takeLaw 69 = .ok (.ifCond .eq 42, 3) := by decide +kernel
theorem dX5_takeLaw_72 : decode cX5_takeLaw 72 = .ok (.aload_n 0, 1) := by decide +kernel
theorem dX5_takeLaw_73 : decode cX5_takeLaw 73 = .ok (.iconst 0, 1) := by decide +kernel
theorem dX5_takeLaw_74 : decode cX5_takeLaw 74 = .ok (.invokevirtual 147, 3) := by decide +kernel
theorem dX5_takeLaw_77 : decode cX5_takeLaw 77 = .ok (.ifCond .eq 34, 3) := by decide +kernel
theorem dX5_takeLaw_80 : decode cX5_takeLaw 80 = .ok (.aload_n 0, 1) := by decide +kernel
theorem dX5_takeLaw_81 : decode cX5_takeLaw 81 = .ok (.bipush 60, 2) := by decide +kernel
theorem dX5_takeLaw_83 : decode cX5_takeLaw 83 = .ok (.invokevirtual 63, 3) := by decide +kernel
theorem dX5_takeLaw_86 : decode cX5_takeLaw 86 = .ok (.ifCond .eq 25, 3) := by decide +kernel
theorem dX5_takeLaw_89 : decode cX5_takeLaw 89 = .ok (.aload_n 0, 1) := by decide +kernel
theorem dX5_takeLaw_90 : decode cX5_takeLaw 90 = .ok (.iconst 0, 1) := by decide +kernel
theorem dX5_takeLaw_91 : decode cX5_takeLaw 91 = .ok (.invokevirtual 147, 3) := by decide +kernel
theorem dX5_takeLaw_94 : decode cX5_takeLaw 94 = .ok (.ifCond .eq 17, 3) := by decide +kernel
theorem dX5_takeLaw_97 : decode cX5_takeLaw 97 = .ok (.aload_n 0, 1) := by decide +kernel
theorem dX5_takeLaw_98 : decode cX5_takeLaw 98 = .ok (.sipush 265, 3) := by decide +kernel
theorem dX5_takeLaw_101 : decode cX5_takeLaw 101 = .ok (.invokevirtual 63, 3) := by decide +kernel
theorem dX5_takeLaw_104 : decode cX5_takeLaw 104 = .ok (.ifCond .eq 7, 3) := by decide +kernel
theorem dX5_takeLaw_107 : decode cX5_takeLaw 107 = .ok (.iconst 1, 1) := by decide +kernel
theorem dX5_takeLaw_108 : decode cX5_takeLaw 108 = .ok (.goto 4, 3) := by decide +kernel
theorem dX5_takeLaw_111 : decode cX5_takeLaw 111 = .ok (.iconst 0, 1) := by decide +kernel
theorem dX5_takeLaw_112 : decode cX5_takeLaw 112 = .ok (.istore_n 3, 1) := by decide +kernel
theorem dX5_takeLaw_113 : decode cX5_takeLaw 113 = .ok (.aload_n 0, 1) := by decide +kernel
theorem dX5_takeLaw_114 : decode cX5_takeLaw 114 = .ok (.getfield 26, 3) := by decide +kernel
theorem dX5_takeLaw_117 : decode cX5_takeLaw 117 = .ok (.iconst 3, 1) := by decide +kernel
theorem dX5_takeLaw_118 : decode cX5_takeLaw 118 = .ok (.iconst 0, 1) := by decide +kernel
theorem dX5_takeLaw_119 : decode cX5_takeLaw 119 = .ok (.invokevirtual 150, 3) := by decide +kernel
theorem dX5_takeLaw_122 : decode cX5_takeLaw 122 = .ok (.istore 5, 2) := by decide +kernel
theorem dX5_takeLaw_124 : decode cX5_takeLaw 124 = .ok (.iload_n 3, 1) := by decide +kernel
theorem dX5_takeLaw_125 : decode cX5_takeLaw 125 = .ok (.ifCond .eq 25, 3) := by decide +kernel
theorem dX5_takeLaw_128 : decode cX5_takeLaw 128 = .ok (.aload_n 0, 1) := by decide +kernel
theorem dX5_takeLaw_129 : decode cX5_takeLaw 129 = .ok (.iconst 0, 1) := by decide +kernel
theorem dX5_takeLaw_130 : decode cX5_takeLaw 130 = .ok (.invokevirtual 147, 3) := by decide +kernel
theorem dX5_takeLaw_133 : decode cX5_takeLaw 133 = .ok (.ifCond .eq 17, 3) := by decide +kernel
theorem dX5_takeLaw_136 : decode cX5_takeLaw 136 = .ok (.aload_n 0, 1) := by decide +kernel
theorem dX5_takeLaw_137 : decode cX5_takeLaw 137 = .ok (.sipush 266, 3) := by decide +kernel
theorem dX5_takeLaw_140 : decode cX5_takeLaw 140 = .ok (.invokevirtual 63, 3) := by decide +kernel
theorem dX5_takeLaw_143 : decode cX5_takeLaw 143 = .ok (.ifCond .eq 7, 3) := by decide +kernel
theorem dX5_takeLaw_146 : decode cX5_takeLaw 146 = .ok (.iconst 1, 1) := by decide +kernel
theorem dX5_takeLaw_147 : decode cX5_takeLaw 147 = .ok (.goto 4, 3) := by decide +kernel
theorem dX5_takeLaw_150 : decode cX5_takeLaw 150 = .ok (.iconst 0, 1) := by decide +kernel
theorem dX5_takeLaw_151 : decode cX5_takeLaw 151 = .ok (.istore_n 3, 1) := by decide +kernel
theorem dX5_takeLaw_152 : decode cX5_takeLaw 152 = .ok (.aload_n 0, 1) := by decide +kernel
theorem dX5_takeLaw_153 : decode cX5_takeLaw 153 = .ok (.getfield 26, 3) := by decide +kernel
theorem dX5_takeLaw_156 : decode cX5_takeLaw 156 = .ok (.iconst 2, 1) := by decide +kernel
theorem dX5_takeLaw_157 : decode cX5_takeLaw 157 = .ok (.iconst 0, 1) := by decide +kernel
theorem dX5_takeLaw_158 : decode cX5_takeLaw 158 = .ok (.invokevirtual 150, 3) := by decide +kernel
theorem dX5_takeLaw_161 : decode cX5_takeLaw 161 = .ok (.pop, 1) := by decide +kernel
theorem dX5_takeLaw_162 : decode cX5_takeLaw 162 = .ok (.aload_n 0, 1) := by decide +kernel
theorem dX5_takeLaw_163 : decode cX5_takeLaw 163 = .ok (.getfield 26, 3) := by decide +kernel
theorem dX5_takeLaw_166 : decode cX5_takeLaw 166 = .ok (.getfield 154, 3) := by decide +kernel
theorem dX5_takeLaw_169 : decode cX5_takeLaw 169 = .ok (.iload 5, 2) := by decide +kernel
theorem dX5_takeLaw_171 : decode cX5_takeLaw 171 = .ok (.aload_n 0, 1) := by decide +kernel
theorem dX5_takeLaw_172 : decode cX5_takeLaw 172 = .ok (.getfield 26, 3) := by decide +kernel
theorem dX5_takeLaw_175 : decode cX5_takeLaw 175 = .ok (.getfield 144, 3) := by decide +kernel
theorem dX5_takeLaw_178 : decode cX5_takeLaw 178 = .ok (.iastore, 1) := by decide +kernel
theorem dX5_takeLaw_179 : decode cX5_takeLaw 179 = .ok (.iinc 4 1, 3) := by decide +kernel
theorem dX5_takeLaw_182 : decode cX5_takeLaw 182 = .ok (.goto (-152), 3) := by decide +kernel
theorem dX5_takeLaw_185 : decode cX5_takeLaw 185 = .ok (.iload_n 3, 1) := by decide +kernel
theorem dX5_takeLaw_186 : decode cX5_takeLaw 186 = .ok (.ifCond .eq 15, 3) := by decide +kernel
theorem dX5_takeLaw_189 : decode cX5_takeLaw 189 = .ok (.aload_n 0, 1) := by decide +kernel
theorem dX5_takeLaw_190 : decode cX5_takeLaw 190 = .ok (.iconst 0, 1) := by decide +kernel
theorem dX5_takeLaw_191 : decode cX5_takeLaw 191 = .ok (.invokevirtual 147, 3) := by decide +kernel
theorem dX5_takeLaw_194 : decode cX5_takeLaw 194 = .ok (.ifCond .eq 7, 3) := by decide +kernel
theorem dX5_takeLaw_197 : decode cX5_takeLaw 197 = .ok (.iconst 1, 1) := by decide +kernel
theorem dX5_takeLaw_198 : decode cX5_takeLaw 198 = .ok (.goto 4, 3) := by decide +kernel
theorem dX5_takeLaw_201 : decode cX5_takeLaw 201 = .ok (.iconst 0, 1) := by decide +kernel
theorem dX5_takeLaw_202 : decode cX5_takeLaw 202 = .ok (.istore_n 3, 1) := by decide +kernel
theorem dX5_takeLaw_203 : decode cX5_takeLaw 203 = .ok (.aload_n 0, 1) := by decide +kernel
theorem dX5_takeLaw_204 : decode cX5_takeLaw 204 = .ok (.getfield 26, 3) := by decide +kernel
theorem dX5_takeLaw_207 : decode cX5_takeLaw 207 = .ok (.iconst 2, 1) := by decide +kernel
theorem dX5_takeLaw_208 : decode cX5_takeLaw 208 = .ok (.iconst 0, 1) := by decide +kernel
theorem dX5_takeLaw_209 : decode cX5_takeLaw 209 = .ok (.invokevirtual 150, 3) := by decide +kernel
theorem dX5_takeLaw_212 : decode cX5_takeLaw 212 = .ok (.pop, 1) := by decide +kernel
theorem dX5_takeLaw_213 : decode cX5_takeLaw 213 = .ok (.iload_n 3, 1) := by decide +kernel
theorem dX5_takeLaw_214 : decode cX5_takeLaw 214 = .ok (.ifCond .eq 16, 3) := by decide +kernel
theorem dX5_takeLaw_217 : decode cX5_takeLaw 217 = .ok (.aload_n 0, 1) := by decide +kernel
theorem dX5_takeLaw_218 : decode cX5_takeLaw 218 = .ok (.bipush 59, 2) := by decide +kernel
theorem dX5_takeLaw_220 : decode cX5_takeLaw 220 = .ok (.invokevirtual 63, 3) := by decide +kernel
theorem dX5_takeLaw_223 : decode cX5_takeLaw 223 = .ok (.ifCond .eq 7, 3) := by decide +kernel
theorem dX5_takeLaw_226 : decode cX5_takeLaw 226 = .ok (.iconst 1, 1) := by decide +kernel
theorem dX5_takeLaw_227 : decode cX5_takeLaw 227 = .ok (.goto 4, 3) := by decide +kernel
theorem dX5_takeLaw_230 : decode cX5_takeLaw 230 = .ok (.iconst 0, 1) := by decide +kernel
theorem dX5_takeLaw_231 : decode cX5_takeLaw 231 = .ok (.ireturn, 1) := by decide +kernel
theorem dX5_takeSum_0 : decode cX5_takeSum 0 = .ok (.aload_n 0, 1) := by decide +kernel
theorem dX5_takeSum_1 : decode cX5_takeSum 1 = .ok (.iload_n 1, 1) := by decide +kernel
theorem dX5_takeSum_2 : decode cX5_takeSum 2 = .ok (.invokevirtual 157, 3) := by decide +kernel
theorem dX5_takeSum_5 : decode cX5_takeSum 5 = .ok (.istore_n 2, 1) := by decide +kernel
theorem dX5_takeSum_6 : decode cX5_takeSum 6 = .ok (.iconst 0, 1) := by decide +kernel
theorem dX5_takeSum_7 : decode cX5_takeSum 7 = .ok (.istore_n 3, 1) := by decide +kernel
theorem dX5_takeSum_8 : decode cX5_takeSum 8 = .ok (.iload_n 3, 1) := by decide +kernel
theorem dX5_takeSum_9 : decode cX5_takeSum 9 = .ok (.sipush 400, 3) := by decide +kernel
theorem dX5_takeSum_12 : decode cX5_takeSum 12 = .ok (.if_icmp .ge 71, 3) := by decide +kernel
theorem dX5_takeSum_15 : decode cX5_takeSum 15 = .ok (.iload_n 2, 1) := by decide +kernel
theorem dX5_takeSum_16 : decode cX5_takeSum 16 = .ok (.ifCond .eq 67, 3) := by decide +kernel
theorem dX5_takeSum_19 : decode cX5_takeSum 19 = .ok (.aload_n 0, 1) := by decide +kernel
theorem dX5_takeSum_20 : decode cX5_takeSum 20 = .ok (.getfield 41, 3) := by decide +kernel
theorem dX5_takeSum_23 : decode cX5_takeSum 23 = .ok (.bipush 43, 2) := by decide +kernel
theorem dX5_takeSum_25 : decode cX5_takeSum 25 = .ok (.if_icmp .eq 12, 3) := by decide +kernel
theorem dX5_takeSum_28 : decode cX5_takeSum 28 = .ok (.aload_n 0, 1) := by decide +kernel
theorem dX5_takeSum_29 : decode cX5_takeSum 29 = .ok (.getfield 41, 3) := by decide +kernel
theorem dX5_takeSum_32 : decode cX5_takeSum 32 = .ok (.bipush 45, 2) := by decide +kernel
theorem dX5_takeSum_34 : decode cX5_takeSum 34 = .ok (.if_icmp .ne 49, 3) := by decide +kernel
theorem dX5_takeSum_37 : decode cX5_takeSum 37 = .ok (.aload_n 0, 1) := by decide +kernel
theorem dX5_takeSum_38 : decode cX5_takeSum 38 = .ok (.getfield 41, 3) := by decide +kernel
theorem dX5_takeSum_41 : decode cX5_takeSum 41 = .ok (.istore 4, 2) := by decide +kernel
theorem dX5_takeSum_43 : decode cX5_takeSum 43 = .ok (.aload_n 0, 1) := by decide +kernel
theorem dX5_takeSum_44 : decode cX5_takeSum 44 = .ok (.iload 4, 2) := by decide +kernel
theorem dX5_takeSum_46 : decode cX5_takeSum 46 = .ok (.invokevirtual 63, 3) := by decide +kernel
theorem dX5_takeSum_49 : decode cX5_takeSum 49 = .ok (.ifCond .eq 15, 3) := by decide +kernel
theorem dX5_takeSum_52 : decode cX5_takeSum 52 = .ok (.aload_n 0, 1) := by decide +kernel
theorem dX5_takeSum_53 : decode cX5_takeSum 53 = .ok (.iload_n 1, 1) := by decide +kernel
theorem dX5_takeSum_54 : decode cX5_takeSum 54 = .ok (.invokevirtual 157, 3) := by decide +kernel
theorem dX5_takeSum_57 : decode cX5_takeSum 57 = .ok (.ifCond .eq 7, 3) := by decide +kernel
theorem dX5_takeSum_60 : decode cX5_takeSum 60 = .ok (.iconst 1, 1) := by decide +kernel
theorem dX5_takeSum_61 : decode cX5_takeSum 61 = .ok (.goto 4, 3) := by decide +kernel
theorem dX5_takeSum_64 : decode cX5_takeSum 64 = .ok (.iconst 0, 1) := by decide +kernel
theorem dX5_takeSum_65 : decode cX5_takeSum 65 = .ok (.istore_n 2, 1) := by decide +kernel
theorem dX5_takeSum_66 : decode cX5_takeSum 66 = .ok (.aload_n 0, 1) := by decide +kernel
theorem dX5_takeSum_67 : decode cX5_takeSum 67 = .ok (.getfield 26, 3) := by decide +kernel
theorem dX5_takeSum_70 : decode cX5_takeSum 70 = .ok (.iload 4, 2) := by decide +kernel
theorem dX5_takeSum_72 : decode cX5_takeSum 72 = .ok (.iconst 0, 1) := by decide +kernel
theorem dX5_takeSum_73 : decode cX5_takeSum 73 = .ok (.invokevirtual 150, 3) := by decide +kernel
theorem dX5_takeSum_76 : decode cX5_takeSum 76 = .ok (.pop, 1) := by decide +kernel
theorem dX5_takeSum_77 : decode cX5_takeSum 77 = .ok (.iinc 3 1, 3) := by decide +kernel
theorem dX5_takeSum_80 : decode cX5_takeSum 80 = .ok (.goto (-72), 3) := by decide +kernel
theorem dX5_takeSum_83 : decode cX5_takeSum 83 = .ok (.iload_n 2, 1) := by decide +kernel
theorem dX5_takeSum_84 : decode cX5_takeSum 84 = .ok (.ireturn, 1) := by decide +kernel
theorem dX5_takePart_0 : decode cX5_takePart 0 = .ok (.aload_n 0, 1) := by decide +kernel
theorem dX5_takePart_1 : decode cX5_takePart 1 = .ok (.iload_n 1, 1) := by decide +kernel
theorem dX5_takePart_2 : decode cX5_takePart 2 = .ok (.invokevirtual 160, 3) := by decide +kernel
theorem dX5_takePart_5 : decode cX5_takePart 5 = .ok (.istore_n 2, 1) := by decide +kernel
theorem dX5_takePart_6 : decode cX5_takePart 6 = .ok (.iconst 0, 1) := by decide +kernel
theorem dX5_takePart_7 : decode cX5_takePart 7 = .ok (.istore_n 3, 1) := by decide +kernel
theorem dX5_takePart_8 : decode cX5_takePart 8 = .ok (.iload_n 3, 1) := by decide +kernel
theorem dX5_takePart_9 : decode cX5_takePart 9 = .ok (.sipush 400, 3) := by decide +kernel
theorem dX5_takePart_12 : decode cX5_takePart 12 = .ok (.if_icmp .ge 71, 3) := by decide +kernel
theorem dX5_takePart_15 : decode cX5_takePart 15 = .ok (.iload_n 2, 1) := by decide +kernel
theorem dX5_takePart_16 : decode cX5_takePart 16 = .ok (.ifCond .eq 67, 3) := by decide +kernel
theorem dX5_takePart_19 : decode cX5_takePart 19 = .ok (.aload_n 0, 1) := by decide +kernel
theorem dX5_takePart_20 : decode cX5_takePart 20 = .ok (.getfield 41, 3) := by decide +kernel
theorem dX5_takePart_23 : decode cX5_takePart 23 = .ok (.bipush 42, 2) := by decide +kernel
theorem dX5_takePart_25 : decode cX5_takePart 25 = .ok (.if_icmp .eq 12, 3) := by decide +kernel
theorem dX5_takePart_28 : decode cX5_takePart 28 = .ok (.aload_n 0, 1) := by decide +kernel
theorem dX5_takePart_29 : decode cX5_takePart 29 = .ok (.getfield 41, 3) := by decide +kernel
theorem dX5_takePart_32 : decode cX5_takePart 32 = .ok (.bipush 47, 2) := by decide +kernel
theorem dX5_takePart_34 : decode cX5_takePart 34 = .ok (.if_icmp .ne 49, 3) := by decide +kernel
theorem dX5_takePart_37 : decode cX5_takePart 37 = .ok (.aload_n 0, 1) := by decide +kernel
theorem dX5_takePart_38 : decode cX5_takePart 38 = .ok (.getfield 41, 3) := by decide +kernel
theorem dX5_takePart_41 : decode cX5_takePart 41 = .ok (.istore 4, 2) := by decide +kernel
theorem dX5_takePart_43 : decode cX5_takePart 43 = .ok (.aload_n 0, 1) := by decide +kernel
theorem dX5_takePart_44 : decode cX5_takePart 44 = .ok (.iload 4, 2) := by decide +kernel
theorem dX5_takePart_46 : decode cX5_takePart 46 = .ok (.invokevirtual 63, 3) := by decide +kernel
theorem dX5_takePart_49 : decode cX5_takePart 49 = .ok (.ifCond .eq 15, 3) := by decide +kernel
theorem dX5_takePart_52 : decode cX5_takePart 52 = .ok (.aload_n 0, 1) := by decide +kernel
theorem dX5_takePart_53 : decode cX5_takePart 53 = .ok (.iload_n 1, 1) := by decide +kernel
theorem dX5_takePart_54 : decode cX5_takePart 54 = .ok (.invokevirtual 160, 3) := by decide +kernel
theorem dX5_takePart_57 : decode cX5_takePart 57 = .ok (.ifCond .eq 7, 3) := by decide +kernel
theorem dX5_takePart_60 : decode cX5_takePart 60 = .ok (.iconst 1, 1) := by decide +kernel
theorem dX5_takePart_61 : decode cX5_takePart 61 = .ok (.goto 4, 3) := by decide +kernel
theorem dX5_takePart_64 : decode cX5_takePart 64 = .ok (.iconst 0, 1) := by decide +kernel
theorem dX5_takePart_65 : decode cX5_takePart 65 = .ok (.istore_n 2, 1) := by decide +kernel
theorem dX5_takePart_66 : decode cX5_takePart 66 = .ok (.aload_n 0, 1) := by decide +kernel
theorem dX5_takePart_67 : decode cX5_takePart 67 = .ok (.getfield 26, 3) := by decide +kernel
theorem dX5_takePart_70 : decode cX5_takePart 70 = .ok (.iload 4, 2) := by decide +kernel
theorem dX5_takePart_72 : decode cX5_takePart 72 = .ok (.iconst 0, 1) := by decide +kernel
theorem dX5_takePart_73 : decode cX5_takePart 73 = .ok (.invokevirtual 150, 3) := by decide +kernel
theorem dX5_takePart_76 : decode cX5_takePart 76 = .ok (.pop, 1) := by decide +kernel
theorem dX5_takePart_77 : decode cX5_takePart 77 = .ok (.iinc 3 1, 3) := by decide +kernel
theorem dX5_takePart_80 : decode cX5_takePart 80 = .ok (.goto (-72), 3) := by decide +kernel
theorem dX5_takePart_83 : decode cX5_takePart 83 = .ok (.iload_n 2, 1) := by decide +kernel
theorem dX5_takePart_84 : decode cX5_takePart 84 = .ok (.ireturn, 1) := by decide +kernel
theorem dX5_takeUnit_0 : decode cX5_takeUnit 0 = .ok (.aload_n 0, 1) := by decide +kernel
theorem dX5_takeUnit_1 : decode cX5_takeUnit 1 = .ok (.getfield 41, 3) := by decide +kernel
theorem dX5_takeUnit_4 : decode cX5_takeUnit 4 = .ok (.iconst 2, 1) := by decide +kernel
theorem dX5_takeUnit_5 : decode cX5_takeUnit 5 = .ok (.if_icmp .ne 31, 3) := by decide +kernel
theorem dX5_takeUnit_8 : decode cX5_takeUnit 8 = .ok (.aload_n 0, 1) := by decide +kernel
theorem dX5_takeUnit_9 : decode cX5_takeUnit 9 = .ok (.getfield 26, 3) := by decide +kernel
theorem dX5_takeUnit_12 : decode cX5_takeUnit 12 = .ok (.iconst 0, 1) := by decide +kernel
theorem dX5_takeUnit_13 : decode cX5_takeUnit 13 = .ok (.aload_n 0, 1) := by decide +kernel
theorem dX5_takeUnit_14 : decode cX5_takeUnit 14 = .ok (.getfield 22, 3) := by decide +kernel
theorem dX5_takeUnit_17 : decode cX5_takeUnit 17 = .ok (.getfield 67, 3) := by decide +kernel
theorem dX5_takeUnit_20 : decode cX5_takeUnit 20 = .ok (.aload_n 0, 1) := by decide +kernel
theorem dX5_takeUnit_21 : decode cX5_takeUnit 21 = .ok (.getfield 33, 3) := by decide +kernel
theorem dX5_takeUnit_24 : decode cX5_takeUnit 24 = .ok (.laload, 1) := by decide +kernel
theorem dX5_takeUnit_25 : decode cX5_takeUnit 25 = .ok (.l2i, 1) := by decide +kernel
theorem dX5_takeUnit_26 : decode cX5_takeUnit 26 = .ok (.invokevirtual 150, 3) := by decide +kernel
theorem dX5_takeUnit_29 : decode cX5_takeUnit 29 = .ok (.pop, 1) := by decide +kernel
theorem dX5_takeUnit_30 : decode cX5_takeUnit 30 = .ok (.aload_n 0, 1) := by decide +kernel
theorem dX5_takeUnit_31 : decode cX5_takeUnit 31 = .ok (.iconst 2, 1) := by decide +kernel
theorem dX5_takeUnit_32 : decode cX5_takeUnit 32 = .ok (.invokevirtual 63, 3) := by decide +kernel
theorem dX5_takeUnit_35 : decode cX5_takeUnit 35 = .ok (.ireturn, 1) := by decide +kernel
theorem dX5_takeUnit_36 : decode cX5_takeUnit 36 = .ok (.aload_n 0, 1) := by decide +kernel
theorem dX5_takeUnit_37 : decode cX5_takeUnit 37 = .ok (.getfield 41, 3) := by decide +kernel
theorem dX5_takeUnit_40 : decode cX5_takeUnit 40 = .ok (.sipush 267, 3) := by decide +kernel
theorem dX5_takeUnit_43 : decode cX5_takeUnit 43 = .ok (.if_icmp .lt 39, 3) := by decide +kernel
theorem dX5_takeUnit_46 : decode cX5_takeUnit 46 = .ok (.aload_n 0, 1) := by decide +kernel
theorem dX5_takeUnit_47 : decode cX5_takeUnit 47 = .ok (.getfield 41, 3) := by decide +kernel
theorem dX5_takeUnit_50 : decode cX5_takeUnit 50 = .ok (.sipush 272, 3) := by decide +kernel
theorem dX5_takeUnit_53 : decode cX5_takeUnit 53 = .ok (.if_icmp .gt 29, 3) := by decide +kernel
theorem dX5_takeUnit_56 : decode cX5_takeUnit 56 = .ok (.aload_n 0, 1) := by decide +kernel
theorem dX5_takeUnit_57 : decode cX5_takeUnit 57 = .ok (.getfield 26, 3) := by decide +kernel
theorem dX5_takeUnit_60 : decode cX5_takeUnit 60 = .ok (.iconst 1, 1) := by decide +kernel
theorem dX5_takeUnit_61 : decode cX5_takeUnit 61 = .ok (.aload_n 0, 1) := by decide +kernel
theorem dX5_takeUnit_62 : decode cX5_takeUnit 62 = .ok (.getfield 41, 3) := by decide +kernel
theorem dX5_takeUnit_65 : decode cX5_takeUnit 65 = .ok (.sipush 267, 3) := by decide +kernel
theorem dX5_takeUnit_68 : decode cX5_takeUnit 68 = .ok (.isub, 1) := by decide +kernel
theorem dX5_takeUnit_69 : decode cX5_takeUnit 69 = .ok (.invokevirtual 150, 3) := by decide +kernel
theorem dX5_takeUnit_72 : decode cX5_takeUnit 72 = .ok (.pop, 1) := by decide +kernel
theorem dX5_takeUnit_73 : decode cX5_takeUnit 73 = .ok (.aload_n 0, 1) := by decide +kernel
theorem dX5_takeUnit_74 : decode cX5_takeUnit 74 = .ok (.aload_n 0, 1) := by decide +kernel
theorem dX5_takeUnit_75 : decode cX5_takeUnit 75 = .ok (.getfield 41, 3) := by decide +kernel
theorem dX5_takeUnit_78 : decode cX5_takeUnit 78 = .ok (.invokevirtual 63, 3) := by decide +kernel
theorem dX5_takeUnit_81 : decode cX5_takeUnit 81 = .ok (.ireturn, 1) := by decide +kernel
theorem dX5_takeUnit_82 : decode cX5_takeUnit 82 = .ok (.aload_n 0, 1) := by decide +kernel
theorem dX5_takeUnit_83 : decode cX5_takeUnit 83 = .ok (.getfield 41, 3) := by decide +kernel
theorem dX5_takeUnit_86 : decode cX5_takeUnit 86 = .ok (.bipush 40, 2) := by decide +kernel
theorem dX5_takeUnit_88 : decode cX5_takeUnit 88 = .ok (.if_icmp .eq 9, 3) := by decide +kernel
theorem dX5_takeUnit_91 : decode cX5_takeUnit 91 = .ok (.aload_n 0, 1) := by decide +kernel
theorem dX5_takeUnit_92 : decode cX5_takeUnit 92 = .ok (.iconst 1, 1) := by decide +kernel
theorem dX5_takeUnit_93 : decode cX5_takeUnit 93 = .ok (.invokevirtual 119, 3) := by decide +kernel
theorem dX5_takeUnit_96 : decode cX5_takeUnit 96 = .ok (.ireturn, 1) := by decide +kernel
theorem dX5_takeUnit_97 : decode cX5_takeUnit 97 = .ok (.iload_n 1, 1) := by decide +kernel
theorem dX5_takeUnit_98 : decode cX5_takeUnit 98 = .ok (.bipush 6, 2) := by decide +kernel
theorem dX5_takeUnit_100 : decode cX5_takeUnit 100 = .ok (.if_icmp .lt 9, 3) := by decide +kernel
theorem dX5_takeUnit_103 : decode cX5_takeUnit 103 = .ok (.aload_n 0, 1) := by decide +kernel
theorem dX5_takeUnit_104 : decode cX5_takeUnit 104 = .ok (.iconst 2, 1) := by decide +kernel
theorem dX5_takeUnit_105 : decode cX5_takeUnit 105 = .ok (.invokevirtual 119, 3) := by decide +kernel
theorem dX5_takeUnit_108 : decode cX5_takeUnit 108 = .ok (.ireturn, 1) := by decide +kernel
theorem dX5_takeUnit_109 : decode cX5_takeUnit 109 = .ok (.aload_n 0, 1) := by decide +kernel
theorem dX5_takeUnit_110 : decode cX5_takeUnit 110 = .ok (.bipush 40, 2) := by decide +kernel
theorem dX5_takeUnit_112 : decode cX5_takeUnit 112 = .ok (.invokevirtual 63, 3) := by decide +kernel
theorem dX5_takeUnit_115 : decode cX5_takeUnit 115 = .ok (.ifCond .eq 26, 3) := by decide +kernel
theorem dX5_takeUnit_118 : decode cX5_takeUnit 118 = .ok (.aload_n 0, 1) := by decide +kernel
theorem dX5_takeUnit_119 : decode cX5_takeUnit 119 = .ok (.iload_n 1, 1) := by decide +kernel
theorem dX5_takeUnit_120 : decode cX5_takeUnit 120 = .ok (.iconst 1, 1) := by decide +kernel
theorem dX5_takeUnit_121 : decode cX5_takeUnit 121 = .ok (.iadd, 1) := by decide +kernel
theorem dX5_takeUnit_122 : decode cX5_takeUnit 122 = .ok (.invokevirtual 147, 3) := by decide +kernel
theorem dX5_takeUnit_125 : decode cX5_takeUnit 125 = .ok (.ifCond .eq 16, 3) := by decide +kernel
theorem dX5_takeUnit_128 : decode cX5_takeUnit 128 = .ok (.aload_n 0, 1) := by decide +kernel
theorem dX5_takeUnit_129 : decode cX5_takeUnit 129 = .ok (.bipush 41, 2) := by decide +kernel
theorem dX5_takeUnit_131 : decode cX5_takeUnit 131 = .ok (.invokevirtual 63, 3) := by decide +kernel
theorem dX5_takeUnit_134 : decode cX5_takeUnit 134 = .ok (.ifCond .eq 7, 3) := by decide +kernel
theorem dX5_takeUnit_137 : decode cX5_takeUnit 137 = .ok (.iconst 1, 1) := by decide +kernel
theorem dX5_takeUnit_138 : decode cX5_takeUnit 138 = .ok (.goto 4, 3) := by decide +kernel
theorem dX5_takeUnit_141 : decode cX5_takeUnit 141 = .ok (.iconst 0, 1) := by decide +kernel
theorem dX5_takeUnit_142 : decode cX5_takeUnit 142 = .ok (.ireturn, 1) := by decide +kernel
theorem dX6_init_0 : decode cX6_init 0 = .ok (.aload_n 0, 1) := by decide +kernel
theorem dX6_init_1 : decode cX6_init 1 = .ok (.invokespecial 3, 3) := by decide +kernel
theorem dX6_init_4 : decode cX6_init 4 = .ok (.aload_n 0, 1) := by decide +kernel
theorem dX6_init_5 : decode cX6_init 5 = .ok (.bipush 72, 2) := by decide +kernel
theorem dX6_init_7 : decode cX6_init 7 = .ok (.newarray .int, 2) := by decide +kernel
theorem dX6_init_9 : decode cX6_init 9 = .ok (.putfield 9, 3) := by decide +kernel
theorem dX6_init_12 : decode cX6_init 12 = .ok (.aload_n 0, 1) := by decide +kernel
theorem dX6_init_13 : decode cX6_init 13 = .ok (.bipush 64, 2) := by decide +kernel
theorem dX6_init_15 : decode cX6_init 15 = .ok (.newarray .int, 2) := by decide +kernel
theorem dX6_init_17 : decode cX6_init 17 = .ok (.putfield 15, 3) := by decide +kernel
theorem dX6_init_20 : decode cX6_init 20 = .ok (.aload_n 0, 1) := by decide +kernel
theorem dX6_init_21 : decode cX6_init 21 = .ok (.bipush 64, 2) := by decide +kernel
theorem dX6_init_23 : decode cX6_init 23 = .ok (.newarray .int, 2) := by decide +kernel
theorem dX6_init_25 : decode cX6_init 25 = .ok (.putfield 18, 3) := by decide +kernel
theorem dX6_init_28 : decode cX6_init 28 = .ok (.aload_n 0, 1) := by decide +kernel
theorem dX6_init_29 : decode cX6_init 29 = .ok (.sipush 300, 3) := by decide +kernel
theorem dX6_init_32 : decode cX6_init 32 = .ok (.newarray .int, 2) := by decide +kernel
theorem dX6_init_34 : decode cX6_init 34 = .ok (.putfield 21, 3) := by decide +kernel
theorem dX6_init_37 : decode cX6_init 37 = .ok (.aload_n 0, 1) := by decide +kernel
theorem dX6_init_38 : decode cX6_init 38 = .ok (.sipush 300, 3) := by decide +kernel
theorem dX6_init_41 : decode cX6_init 41 = .ok (.newarray .int, 2) := by decide +kernel
theorem dX6_init_43 : decode cX6_init 43 = .ok (.putfield 24, 3) := by decide +kernel
theorem dX6_init_46 : decode cX6_init 46 = .ok (.return_, 1) := by decide +kernel
theorem dX6_empty_0 : decode cX6_empty 0 = .ok (.iconst 0, 1) := by decide +kernel
theorem dX6_empty_1 : decode cX6_empty 1 = .ok (.istore_n 1, 1) := by decide +kernel
theorem dX6_empty_2 : decode cX6_empty 2 = .ok (.iload_n 1, 1) := by decide +kernel
theorem dX6_empty_3 : decode cX6_empty 3 = .ok (.aload_n 0, 1) := by decide +kernel
theorem dX6_empty_4 : decode cX6_empty 4 = .ok (.getfield 9, 3) := by decide +kernel
theorem dX6_empty_7 : decode cX6_empty 7 = .ok (.arraylength, 1) := by decide +kernel
theorem dX6_empty_8 : decode cX6_empty 8 = .ok (.if_icmp .ge 16, 3) := by decide +kernel
theorem dX6_empty_11 : decode cX6_empty 11 = .ok (.aload_n 0, 1) := by decide +kernel
theorem dX6_empty_12 : decode cX6_empty 12 = .ok (.getfield 9, 3) := by decide +kernel
theorem dX6_empty_15 : decode cX6_empty 15 = .ok (.iload_n 1, 1) := by decide +kernel
theorem dX6_empty_16 : decode cX6_empty 16 = .ok (.iconst 0, 1) := by decide +kernel
theorem dX6_empty_17 : decode cX6_empty 17 = .ok (.iastore, 1) := by decide +kernel
theorem dX6_empty_18 : decode cX6_empty 18 = .ok (.iinc 1 1, 3) := by decide +kernel
theorem dX6_empty_21 : decode cX6_empty 21 = .ok (.goto (-19), 3) := by decide +kernel
theorem dX6_empty_24 : decode cX6_empty 24 = .ok (.iconst 0, 1) := by decide +kernel
theorem dX6_empty_25 : decode cX6_empty 25 = .ok (.istore_n 1, 1) := by decide +kernel
theorem dX6_empty_26 : decode cX6_empty 26 = .ok (.iload_n 1, 1) := by decide +kernel
theorem dX6_empty_27 : decode cX6_empty 27 = .ok (.aload_n 0, 1) := by decide +kernel
theorem dX6_empty_28 : decode cX6_empty 28 = .ok (.getfield 15, 3) := by decide +kernel
theorem dX6_empty_31 : decode cX6_empty 31 = .ok (.arraylength, 1) := by decide +kernel
theorem dX6_empty_32 : decode cX6_empty 32 = .ok (.if_icmp .ge 16, 3) := by decide +kernel
theorem dX6_empty_35 : decode cX6_empty 35 = .ok (.aload_n 0, 1) := by decide +kernel
theorem dX6_empty_36 : decode cX6_empty 36 = .ok (.getfield 15, 3) := by decide +kernel
theorem dX6_empty_39 : decode cX6_empty 39 = .ok (.iload_n 1, 1) := by decide +kernel
theorem dX6_empty_40 : decode cX6_empty 40 = .ok (.iconst 0, 1) := by decide +kernel
theorem dX6_empty_41 : decode cX6_empty 41 = .ok (.iastore, 1) := by decide +kernel
theorem dX6_empty_42 : decode cX6_empty 42 = .ok (.iinc 1 1, 3) := by decide +kernel
theorem dX6_empty_45 : decode cX6_empty 45 = .ok (.goto (-19), 3) := by decide +kernel
theorem dX6_empty_48 : decode cX6_empty 48 = .ok (.iconst 0, 1) := by decide +kernel
theorem dX6_empty_49 : decode cX6_empty 49 = .ok (.istore_n 1, 1) := by decide +kernel
theorem dX6_empty_50 : decode cX6_empty 50 = .ok (.iload_n 1, 1) := by decide +kernel
theorem dX6_empty_51 : decode cX6_empty 51 = .ok (.aload_n 0, 1) := by decide +kernel
theorem dX6_empty_52 : decode cX6_empty 52 = .ok (.getfield 18, 3) := by decide +kernel
theorem dX6_empty_55 : decode cX6_empty 55 = .ok (.arraylength, 1) := by decide +kernel
theorem dX6_empty_56 : decode cX6_empty 56 = .ok (.if_icmp .ge 16, 3) := by decide +kernel
theorem dX6_empty_59 : decode cX6_empty 59 = .ok (.aload_n 0, 1) := by decide +kernel
theorem dX6_empty_60 : decode cX6_empty 60 = .ok (.getfield 18, 3) := by decide +kernel
theorem dX6_empty_63 : decode cX6_empty 63 = .ok (.iload_n 1, 1) := by decide +kernel
theorem dX6_empty_64 : decode cX6_empty 64 = .ok (.iconst 0, 1) := by decide +kernel
theorem dX6_empty_65 : decode cX6_empty 65 = .ok (.iastore, 1) := by decide +kernel
theorem dX6_empty_66 : decode cX6_empty 66 = .ok (.iinc 1 1, 3) := by decide +kernel
theorem dX6_empty_69 : decode cX6_empty 69 = .ok (.goto (-19), 3) := by decide +kernel
theorem dX6_empty_72 : decode cX6_empty 72 = .ok (.aload_n 0, 1) := by decide +kernel
theorem dX6_empty_73 : decode cX6_empty 73 = .ok (.iconst 0, 1) := by decide +kernel
theorem dX6_empty_74 : decode cX6_empty 74 = .ok (.putfield 27, 3) := by decide +kernel
theorem dX6_empty_77 : decode cX6_empty 77 = .ok (.aload_n 0, 1) := by decide +kernel
theorem dX6_empty_78 : decode cX6_empty 78 = .ok (.iconst 0, 1) := by decide +kernel
theorem dX6_empty_79 : decode cX6_empty 79 = .ok (.putfield 31, 3) := by decide +kernel
theorem dX6_empty_82 : decode cX6_empty 82 = .ok (.return_, 1) := by decide +kernel
theorem dX6_copyFrom_0 : decode cX6_copyFrom 0 = .ok (.aload_n 1, 1) := by decide +kernel
theorem dX6_copyFrom_1 : decode cX6_copyFrom 1 = .ok (.getfield 9, 3) := by decide +kernel
theorem dX6_copyFrom_4 : decode cX6_copyFrom 4 = .ok (.iconst 0, 1) := by decide +kernel
theorem dX6_copyFrom_5 : decode cX6_copyFrom 5 = .ok (.aload_n 0, 1) := by decide +kernel
theorem dX6_copyFrom_6 : decode cX6_copyFrom 6 = .ok (.getfield 9, 3) := by decide +kernel
theorem dX6_copyFrom_9 : decode cX6_copyFrom 9 = .ok (.iconst 0, 1) := by decide +kernel
theorem dX6_copyFrom_10 : decode cX6_copyFrom 10 = .ok (.aload_n 0, 1) := by decide +kernel
theorem dX6_copyFrom_11 : decode cX6_copyFrom 11 = .ok (.getfield 9, 3) := by decide +kernel
theorem dX6_copyFrom_14 : decode cX6_copyFrom 14 = .ok (.arraylength, 1) := by decide +kernel
theorem dX6_copyFrom_15 : decode cX6_copyFrom 15 = .ok (.invokestatic 34, 3) := by decide +kernel
theorem dX6_copyFrom_18 : decode cX6_copyFrom 18 = .ok (.aload_n 1, 1) := by decide +kernel
theorem dX6_copyFrom_19 : decode cX6_copyFrom 19 = .ok (.getfield 15, 3) := by decide +kernel
theorem dX6_copyFrom_22 : decode cX6_copyFrom 22 = .ok (.iconst 0, 1) := by decide +kernel
theorem dX6_copyFrom_23 : decode cX6_copyFrom 23 = .ok (.aload_n 0, 1) := by decide +kernel
theorem dX6_copyFrom_24 : decode cX6_copyFrom 24 = .ok (.getfield 15, 3) := by decide +kernel
theorem dX6_copyFrom_27 : decode cX6_copyFrom 27 = .ok (.iconst 0, 1) := by decide +kernel
theorem dX6_copyFrom_28 : decode cX6_copyFrom 28 = .ok (.aload_n 0, 1) := by decide +kernel
theorem dX6_copyFrom_29 : decode cX6_copyFrom 29 = .ok (.getfield 15, 3) := by decide +kernel
theorem dX6_copyFrom_32 : decode cX6_copyFrom 32 = .ok (.arraylength, 1) := by decide +kernel
theorem dX6_copyFrom_33 : decode cX6_copyFrom 33 = .ok (.invokestatic 34, 3) := by decide +kernel
theorem dX6_copyFrom_36 : decode cX6_copyFrom 36 = .ok (.aload_n 1, 1) := by decide +kernel
theorem dX6_copyFrom_37 : decode cX6_copyFrom 37 = .ok (.getfield 21, 3) := by decide +kernel
theorem dX6_copyFrom_40 : decode cX6_copyFrom 40 = .ok (.iconst 0, 1) := by decide +kernel
theorem dX6_copyFrom_41 : decode cX6_copyFrom 41 = .ok (.aload_n 0, 1) := by decide +kernel
theorem dX6_copyFrom_42 : decode cX6_copyFrom 42 = .ok (.getfield 21, 3) := by decide +kernel
theorem dX6_copyFrom_45 : decode cX6_copyFrom 45 = .ok (.iconst 0, 1) := by decide +kernel
theorem dX6_copyFrom_46 : decode cX6_copyFrom 46 = .ok (.sipush 300, 3) := by decide +kernel
theorem dX6_copyFrom_49 : decode cX6_copyFrom 49 = .ok (.invokestatic 34, 3) := by decide +kernel
theorem dX6_copyFrom_52 : decode cX6_copyFrom 52 = .ok (.aload_n 1, 1) := by decide +kernel
theorem dX6_copyFrom_53 : decode cX6_copyFrom 53 = .ok (.getfield 24, 3) := by decide +kernel
theorem dX6_copyFrom_56 : decode cX6_copyFrom 56 = .ok (.iconst 0, 1) := by decide +kernel
theorem dX6_copyFrom_57 : decode cX6_copyFrom 57 = .ok (.aload_n 0, 1) := by decide +kernel
theorem dX6_copyFrom_58 : decode cX6_copyFrom 58 = .ok (.getfield 24, 3) := by decide +kernel
theorem dX6_copyFrom_61 : decode cX6_copyFrom 61 = .ok (.iconst 0, 1) := by decide +kernel
theorem dX6_copyFrom_62 : decode cX6_copyFrom 62 = .ok (.sipush 300, 3) := by decide +kernel
theorem dX6_copyFrom_65 : decode cX6_copyFrom 65 = .ok (.invokestatic 34, 3) := by decide +kernel
theorem dX6_copyFrom_68 : decode cX6_copyFrom 68 = .ok (.aload_n 0, 1) := by decide +kernel
theorem dX6_copyFrom_69 : decode cX6_copyFrom 69 = .ok (.aload_n 1, 1) := by decide +kernel
theorem dX6_copyFrom_70 : decode cX6_copyFrom 70 = .ok (.getfield 27, 3) := by decide +kernel
theorem dX6_copyFrom_73 : decode cX6_copyFrom 73 = .ok (.putfield 27, 3) := by decide +kernel
theorem dX6_copyFrom_76 : decode cX6_copyFrom 76 = .ok (.aload_n 0, 1) := by decide +kernel
theorem dX6_copyFrom_77 : decode cX6_copyFrom 77 = .ok (.aload_n 1, 1) := by decide +kernel
theorem dX6_copyFrom_78 : decode cX6_copyFrom 78 = .ok (.getfield 31, 3) := by decide +kernel
theorem dX6_copyFrom_81 : decode cX6_copyFrom 81 = .ok (.putfield 31, 3) := by decide +kernel
theorem dX6_copyFrom_84 : decode cX6_copyFrom 84 = .ok (.return_, 1) := by decide +kernel
theorem dX6_inRow_0 : decode cX6_inRow 0 = .ok (.iconst 0, 1) := by decide +kernel
theorem dX6_inRow_1 : decode cX6_inRow 1 = .ok (.istore_n 2, 1) := by decide +kernel
theorem dX6_inRow_2 : decode cX6_inRow 2 = .ok (.iconst 0, 1) := by decide +kernel
theorem dX6_inRow_3 : decode cX6_inRow 3 = .ok (.istore_n 3, 1) := by decide +kernel
theorem dX6_inRow_4 : decode cX6_inRow 4 = .ok (.iload_n 3, 1) := by decide +kernel
theorem dX6_inRow_5 : decode cX6_inRow 5 = .ok (.bipush 8, 2) := by decide +kernel
theorem dX6_inRow_7 : decode cX6_inRow 7 = .ok (.if_icmp .ge 23, 3) := by decide +kernel
theorem dX6_inRow_10 : decode cX6_inRow 10 = .ok (.iload_n 2, 1) := by decide +kernel
theorem dX6_inRow_11 : decode cX6_inRow 11 = .ok (.aload_n 0, 1) := by decide +kernel
theorem dX6_inRow_12 : decode cX6_inRow 12 = .ok (.getfield 9, 3) := by decide +kernel
theorem dX6_inRow_15 : decode cX6_inRow 15 = .ok (.iload_n 1, 1) := by decide +kernel
theorem dX6_inRow_16 : decode cX6_inRow 16 = .ok (.bipush 8, 2) := by decide +kernel
theorem dX6_inRow_18 : decode cX6_inRow 18 = .ok (.imul, 1) := by decide +kernel
theorem dX6_inRow_19 : decode cX6_inRow 19 = .ok (.iload_n 3, 1) := by decide +kernel
theorem dX6_inRow_20 : decode cX6_inRow 20 = .ok (.iadd, 1) := by decide +kernel
theorem dX6_inRow_21 : decode cX6_inRow 21 = .ok (.iaload, 1) := by decide +kernel
theorem dX6_inRow_22 : decode cX6_inRow 22 = .ok (.iadd, 1) := by decide +kernel
theorem dX6_inRow_23 : decode cX6_inRow 23 = .ok (.istore_n 2, 1) := by decide +kernel
theorem dX6_inRow_24 : decode cX6_inRow 24 = .ok (.iinc 3 1, 3) := by decide +kernel
theorem dX6_inRow_27 : decode cX6_inRow 27 = .ok (.goto (-23), 3) := by decide +kernel
theorem dX6_inRow_30 : decode cX6_inRow 30 = .ok (.iload_n 2, 1) := by decide +kernel
theorem dX6_inRow_31 : decode cX6_inRow 31 = .ok (.ireturn, 1) := by decide +kernel
theorem dX6_grownOn_0 : decode cX6_grownOn 0 = .ok (.iconst 0, 1) := by decide +kernel
theorem dX6_grownOn_1 : decode cX6_grownOn 1 = .ok (.istore_n 2, 1) := by decide +kernel
theorem dX6_grownOn_2 : decode cX6_grownOn 2 = .ok (.iconst 0, 1) := by decide +kernel
theorem dX6_grownOn_3 : decode cX6_grownOn 3 = .ok (.istore_n 3, 1) := by decide +kernel
theorem dX6_grownOn_4 : decode cX6_grownOn 4 = .ok (.iload_n 3, 1) := by decide +kernel
theorem dX6_grownOn_5 : decode cX6_grownOn 5 = .ok (.bipush 9, 2) := by decide +kernel
theorem dX6_grownOn_7 : decode cX6_grownOn 7 = .ok (.if_icmp .ge 23, 3) := by decide +kernel
theorem dX6_grownOn_10 : decode cX6_grownOn 10 = .ok (.iload_n 2, 1) := by decide +kernel
theorem dX6_grownOn_11 : decode cX6_grownOn 11 = .ok (.aload_n 0, 1) := by decide +kernel
theorem dX6_grownOn_12 : decode cX6_grownOn 12 = .ok (.getfield 9, 3) := by decide +kernel
theorem dX6_grownOn_15 : decode cX6_grownOn 15 = .ok (.iload_n 3, 1) := by decide +kernel
theorem dX6_grownOn_16 : decode cX6_grownOn 16 = .ok (.bipush 8, 2) := by decide +kernel
theorem dX6_grownOn_18 : decode cX6_grownOn 18 = .ok (.imul, 1) := by decide +kernel
theorem dX6_grownOn_19 : decode cX6_grownOn 19 = .ok (.iload_n 1, 1) := by decide +kernel
theorem dX6_grownOn_20 : decode cX6_grownOn 20 = .ok (.iadd, 1) := by decide +kernel
theorem dX6_grownOn_21 : decode cX6_grownOn 21 = .ok (.iaload, 1) := by decide +kernel
theorem dX6_grownOn_22 : decode cX6_grownOn 22 = .ok (.iadd, 1) := by decide +kernel
theorem dX6_grownOn_23 : decode cX6_grownOn 23 = .ok (.istore_n 2, 1) := by decide +kernel
theorem dX6_grownOn_24 : decode cX6_grownOn 24 = .ok (.iinc 3 1, 3) := by decide +kernel
theorem dX6_grownOn_27 : decode cX6_grownOn 27 = .ok (.goto (-23), 3) := by decide +kernel
theorem dX6_grownOn_30 : decode cX6_grownOn 30 = .ok (.iload_n 2, 1) := by decide +kernel
theorem dX6_grownOn_31 : decode cX6_grownOn 31 = .ok (.ireturn, 1) := by decide +kernel
theorem dX6_pluck_0 : decode cX6_pluck 0 = .ok (.aload_n 0, 1) := by decide +kernel
theorem dX6_pluck_1 : decode cX6_pluck 1 = .ok (.iload_n 1, 1) := by decide +kernel
theorem dX6_pluck_2 : decode cX6_pluck 2 = .ok (.iload_n 2, 1) := by decide +kernel
theorem dX6_pluck_3 : decode cX6_pluck 3 = .ok (.iload_n 1, 1) := by decide +kernel
theorem dX6_pluck_4 : decode cX6_pluck 4 = .ok (.iload_n 3, 1) := by decide +kernel
theorem dX6_pluck_5 : decode cX6_pluck 5 = .ok (.invokevirtual 40, 3) := by decide +kernel
theorem dX6_pluck_8 : decode cX6_pluck 8 = .ok (.ireturn, 1) := by decide +kernel
theorem dX6_move_0 : decode cX6_move 0 = .ok (.iload 4, 2) := by decide +kernel
theorem dX6_move_2 : decode cX6_move 2 = .ok (.istore 5, 2) := by decide +kernel
theorem dX6_move_4 : decode cX6_move 4 = .ok (.iconst (-1), 1) := by decide +kernel
theorem dX6_move_5 : decode cX6_move 5 = .ok (.istore 6, 2) := by decide +kernel
theorem dX6_move_7 : decode cX6_move 7 = .ok (.iload 6, 2) := by decide +kernel
theorem dX6_move_9 : decode cX6_move 9 = .ok (.bipush 8, 2) := by decide +kernel
theorem dX6_move_11 : decode cX6_move 11 = .ok (.if_icmp .ge 83, 3) := by decide +kernel
theorem dX6_move_14 : decode cX6_move 14 = .ok (.iload 6, 2) := by decide +kernel
theorem dX6_move_16 : decode cX6_move 16 = .ok (.iconst (-1), 1) := by decide +kernel
theorem dX6_move_17 : decode cX6_move 17 = .ok (.if_icmp .ne 7, 3) := by decide +kernel
theorem dX6_move_20 : decode cX6_move 20 = .ok (.iload_n 3, 1) := by decide +kernel
theorem dX6_move_21 : decode cX6_move 21 = .ok (.goto 5, 3) := by decide +kernel
theorem dX6_move_24 : decode cX6_move 24 = .ok (.iload 6, 2) := by decide +kernel
theorem dX6_move_26 : decode cX6_move 26 = .ok (.istore 7, 2) := by decide +kernel
theorem dX6_move_28 : decode cX6_move 28 = .ok (.iload 5, 2) := by decide +kernel
theorem dX6_move_30 : decode cX6_move 30 = .ok (.aload_n 0, 1) := by decide +kernel
theorem dX6_move_31 : decode cX6_move 31 = .ok (.getfield 9, 3) := by decide +kernel
theorem dX6_move_34 : decode cX6_move 34 = .ok (.iload_n 1, 1) := by decide +kernel
theorem dX6_move_35 : decode cX6_move 35 = .ok (.bipush 8, 2) := by decide +kernel
theorem dX6_move_37 : decode cX6_move 37 = .ok (.imul, 1) := by decide +kernel
theorem dX6_move_38 : decode cX6_move 38 = .ok (.iload 7, 2) := by decide +kernel
theorem dX6_move_40 : decode cX6_move 40 = .ok (.iadd, 1) := by decide +kernel
theorem dX6_move_41 : decode cX6_move 41 = .ok (.iaload, 1) := by decide +kernel
theorem dX6_move_42 : decode cX6_move 42 = .ok (.invokestatic 44, 3) := by decide +kernel
theorem dX6_move_45 : decode cX6_move 45 = .ok (.istore 8, 2) := by decide +kernel
theorem dX6_move_47 : decode cX6_move 47 = .ok (.aload_n 0, 1) := by decide +kernel
theorem dX6_move_48 : decode cX6_move 48 = .ok (.getfield 9, 3) := by decide +kernel
theorem dX6_move_51 : decode cX6_move 51 = .ok (.iload_n 1, 1) := by decide +kernel
theorem dX6_move_52 : decode cX6_move 52 = .ok (.bipush 8, 2) := by decide +kernel
theorem dX6_move_54 : decode cX6_move 54 = .ok (.imul, 1) := by decide +kernel
theorem dX6_move_55 : decode cX6_move 55 = .ok (.iload 7, 2) := by decide +kernel
theorem dX6_move_57 : decode cX6_move 57 = .ok (.iadd, 1) := by decide +kernel
theorem dX6_move_58 : decode cX6_move 58 = .ok (.dup2, 1) := by decide +kernel
theorem dX6_move_59 : decode cX6_move 59 = .ok (.iaload, 1) := by decide +kernel
theorem dX6_move_60 : decode cX6_move 60 = .ok (.iload 8, 2) := by decide +kernel
theorem dX6_move_62 : decode cX6_move 62 = .ok (.isub, 1) := by decide +kernel
theorem dX6_move_63 : decode cX6_move 63 = .ok (.iastore, 1) := by decide +kernel
theorem dX6_move_64 : decode cX6_move 64 = .ok (.aload_n 0, 1) := by decide +kernel
theorem dX6_move_65 : decode cX6_move 65 = .ok (.getfield 9, 3) := by decide +kernel
theorem dX6_move_68 : decode cX6_move 68 = .ok (.iload_n 2, 1) := by decide +kernel
theorem dX6_move_69 : decode cX6_move 69 = .ok (.bipush 8, 2) := by decide +kernel
theorem dX6_move_71 : decode cX6_move 71 = .ok (.imul, 1) := by decide +kernel
theorem dX6_move_72 : decode cX6_move 72 = .ok (.iload 7, 2) := by decide +kernel
theorem dX6_move_74 : decode cX6_move 74 = .ok (.iadd, 1) := by decide +kernel
theorem dX6_move_75 : decode cX6_move 75 = .ok (.dup2, 1) := by decide +kernel
theorem dX6_move_76 : decode cX6_move 76 = .ok (.iaload, 1) := by decide +kernel
theorem dX6_move_77 : decode cX6_move 77 = .ok (.iload 8, 2) := by decide +kernel
theorem dX6_move_79 : decode cX6_move 79 = .ok (.iadd, 1) := by decide +kernel
theorem dX6_move_80 : decode cX6_move 80 = .ok (.iastore, 1) := by decide +kernel
theorem dX6_move_81 : decode cX6_move 81 = .ok (.iload 5, 2) := by decide +kernel
theorem dX6_move_83 : decode cX6_move 83 = .ok (.iload 8, 2) := by decide +kernel
theorem dX6_move_85 : decode cX6_move 85 = .ok (.isub, 1) := by decide +kernel
theorem dX6_move_86 : decode cX6_move 86 = .ok (.istore 5, 2) := by decide +kernel
theorem dX6_move_88 : decode cX6_move 88 = .ok (.iinc 6 1, 3) := by decide +kernel
theorem dX6_move_91 : decode cX6_move 91 = .ok (.goto (-84), 3) := by decide +kernel
theorem dX6_move_94 : decode cX6_move 94 = .ok (.iload 4, 2) := by decide +kernel
theorem dX6_move_96 : decode cX6_move 96 = .ok (.iload 5, 2) := by decide +kernel
theorem dX6_move_98 : decode cX6_move 98 = .ok (.isub, 1) := by decide +kernel
theorem dX6_move_99 : decode cX6_move 99 = .ok (.ireturn, 1) := by decide +kernel
theorem dX6_timesOf_0 : decode cX6_timesOf 0 = .ok (.iconst 0, 1) := by decide +kernel
theorem dX6_timesOf_1 : decode cX6_timesOf 1 = .ok (.istore_n 2, 1) := by decide +kernel
theorem dX6_timesOf_2 : decode cX6_timesOf 2 = .ok (.iconst 0, 1) := by decide +kernel
theorem dX6_timesOf_3 : decode cX6_timesOf 3 = .ok (.istore_n 3, 1) := by decide +kernel
theorem dX6_timesOf_4 : decode cX6_timesOf 4 = .ok (.iload_n 3, 1) := by decide +kernel
theorem dX6_timesOf_5 : decode cX6_timesOf 5 = .ok (.bipush 8, 2) := by decide +kernel
theorem dX6_timesOf_7 : decode cX6_timesOf 7 = .ok (.if_icmp .ge 23, 3) := by decide +kernel
theorem dX6_timesOf_10 : decode cX6_timesOf 10 = .ok (.iload_n 2, 1) := by decide +kernel
theorem dX6_timesOf_11 : decode cX6_timesOf 11 = .ok (.aload_n 0, 1) := by decide +kernel
theorem dX6_timesOf_12 : decode cX6_timesOf 12 = .ok (.getfield 18, 3) := by decide +kernel
theorem dX6_timesOf_15 : decode cX6_timesOf 15 = .ok (.iload_n 1, 1) := by decide +kernel
theorem dX6_timesOf_16 : decode cX6_timesOf 16 = .ok (.bipush 8, 2) := by decide +kernel
theorem dX6_timesOf_18 : decode cX6_timesOf 18 = .ok (.imul, 1) := by decide +kernel
theorem dX6_timesOf_19 : decode cX6_timesOf 19 = .ok (.iload_n 3, 1) := by decide +kernel
theorem dX6_timesOf_20 : decode cX6_timesOf 20 = .ok (.iadd, 1) := by decide +kernel
theorem dX6_timesOf_21 : decode cX6_timesOf 21 = .ok (.iaload, 1) := by decide +kernel
theorem dX6_timesOf_22 : decode cX6_timesOf 22 = .ok (.iadd, 1) := by decide +kernel
theorem dX6_timesOf_23 : decode cX6_timesOf 23 = .ok (.istore_n 2, 1) := by decide +kernel
theorem dX6_timesOf_24 : decode cX6_timesOf 24 = .ok (.iinc 3 1, 3) := by decide +kernel
theorem dX6_timesOf_27 : decode cX6_timesOf 27 = .ok (.goto (-23), 3) := by decide +kernel
theorem dX6_timesOf_30 : decode cX6_timesOf 30 = .ok (.iload_n 2, 1) := by decide +kernel
theorem dX6_timesOf_31 : decode cX6_timesOf 31 = .ok (.ireturn, 1) := by decide +kernel
theorem dX6_countTimes_0 : decode cX6_countTimes 0 = .ok (.iconst 0, 1) := by decide +kernel
theorem dX6_countTimes_1 : decode cX6_countTimes 1 = .ok (.istore_n 2, 1) := by decide +kernel
theorem dX6_countTimes_2 : decode cX6_countTimes 2 = .ok (.iload_n 2, 1) := by decide +kernel
theorem dX6_countTimes_3 : decode cX6_countTimes 3 = .ok (.aload_n 0, 1) := by decide +kernel
theorem dX6_countTimes_4 : decode cX6_countTimes 4 = .ok (.getfield 18, 3) := by decide +kernel
theorem dX6_countTimes_7 : decode cX6_countTimes 7 = .ok (.arraylength, 1) := by decide +kernel
theorem dX6_countTimes_8 : decode cX6_countTimes 8 = .ok (.if_icmp .ge 16, 3) := by decide +kernel
theorem dX6_countTimes_11 : decode cX6_countTimes 11 = .ok (.aload_n 0, 1) := by decide +kernel
theorem dX6_countTimes_12 : decode cX6_countTimes 12 = .ok (.getfield 18, 3) := by decide +kernel
theorem dX6_countTimes_15 : decode cX6_countTimes 15 = .ok (.iload_n 2, 1) := by decide +kernel
theorem dX6_countTimes_16 : decode cX6_countTimes 16 = .ok (.iconst 0, 1) := by decide +kernel
theorem dX6_countTimes_17 : decode cX6_countTimes 17 = .ok (.iastore, 1) := by decide +kernel
theorem dX6_countTimes_18 : decode cX6_countTimes 18 = .ok (.iinc 2 1, 3) := by decide +kernel
theorem dX6_countTimes_21 : decode cX6_countTimes 21 = .ok (.goto (-19), 3) := by decide +kernel
theorem dX6_countTimes_24 : decode cX6_countTimes 24 = .ok (.iconst 0, 1) := by decide +kernel
theorem dX6_countTimes_25 : decode cX6_countTimes 25 = .ok (.istore_n 2, 1) := by decide +kernel
theorem dX6_countTimes_26 : decode cX6_countTimes 26 = .ok (.iload_n 2, 1) := by decide +kernel
theorem dX6_countTimes_27 : decode cX6_countTimes 27 = .ok (.aload_n 0, 1) := by decide +kernel
theorem dX6_countTimes_28 : decode cX6_countTimes 28 = .ok (.getfield 27, 3) := by decide +kernel
theorem dX6_countTimes_31 : decode cX6_countTimes 31 = .ok (.if_icmp .ge 42, 3) := by decide +kernel
theorem dX6_countTimes_34 : decode cX6_countTimes 34 = .ok (.aload_n 0, 1) := by decide +kernel
theorem dX6_countTimes_35 : decode cX6_countTimes 35 = .ok (.getfield 24, 3) := by decide +kernel
theorem dX6_countTimes_38 : decode cX6_countTimes 38 = .ok (.iload_n 2, 1) := by decide +kernel
theorem dX6_countTimes_39 : decode cX6_countTimes 39 = .ok (.iaload, 1) := by decide +kernel
theorem dX6_countTimes_40 : decode cX6_countTimes 40 = .ok (.iload_n 1, 1) := by decide +kernel
theorem dX6_countTimes_41 : decode cX6_countTimes 41 = .ok (.if_icmp .lt 26, 3) := by decide +kernel
theorem dX6_countTimes_44 : decode cX6_countTimes 44 = .ok (.aload_n 0, 1) := by decide +kernel
theorem dX6_countTimes_45 : decode cX6_countTimes 45 = .ok (.getfield 18, 3) := by decide +kernel
theorem dX6_countTimes_48 : decode cX6_countTimes 48 = .ok (.aload_n 0, 1) := by decide +kernel
theorem dX6_countTimes_49 : decode cX6_countTimes 49 = .ok (.iload_n 2, 1) := by decide +kernel
theorem dX6_countTimes_50 : decode cX6_countTimes 50 = .ok (.invokevirtual 50, 3) := by decide +kernel
theorem dX6_countTimes_53 : decode cX6_countTimes 53 = .ok (.bipush 8, 2) := by decide +kernel
theorem dX6_countTimes_55 : decode cX6_countTimes 55 = .ok (.imul, 1) := by decide +kernel
theorem dX6_countTimes_56 : decode cX6_countTimes 56 = .ok (.aload_n 0, 1) := by decide +kernel
theorem dX6_countTimes_57 : decode cX6_countTimes 57 = .ok (.iload_n 2, 1) := by decide +kernel
theorem dX6_countTimes_58 : decode cX6_countTimes 58 = .ok (.invokevirtual 54, 3) := by decide +kernel
theorem dX6_countTimes_61 : decode cX6_countTimes 61 = .ok (.iadd, 1) := by decide +kernel
theorem dX6_countTimes_62 : decode cX6_countTimes 62 = .ok (.dup2, 1) := by decide +kernel
theorem dX6_countTimes_63 : decode cX6_countTimes 63 = .ok (.iaload, 1) := by decide +kernel
theorem dX6_countTimes_64 : decode cX6_countTimes 64 = .ok (.iconst 1, 1) := by decide +kernel
theorem dX6_countTimes_65 : decode cX6_countTimes 65 = .ok (.iadd, 1) := by decide +kernel
theorem dX6_countTimes_66 : decode cX6_countTimes 66 = .ok (.iastore, 1) := by decide +kernel
theorem dX6_countTimes_67 : decode cX6_countTimes 67 = .ok (.iinc 2 1, 3) := by decide +kernel
theorem dX6_countTimes_70 : decode cX6_countTimes 70 = .ok (.goto (-44), 3) := by decide +kernel
theorem dX6_countTimes_73 : decode cX6_countTimes 73 = .ok (.return_, 1) := by decide +kernel
theorem dX6_net_0 : decode cX6_net 0 = .ok (.iconst 0, 1) := by decide +kernel
theorem dX6_net_1 : decode cX6_net 1 = .ok (.istore_n 2, 1) := by decide +kernel
theorem dX6_net_2 : decode cX6_net 2 = .ok (.iconst 0, 1) := by decide +kernel
theorem dX6_net_3 : decode cX6_net 3 = .ok (.istore_n 3, 1) := by decide +kernel
theorem dX6_net_4 : decode cX6_net 4 = .ok (.iload_n 3, 1) := by decide +kernel
theorem dX6_net_5 : decode cX6_net 5 = .ok (.bipush 8, 2) := by decide +kernel
theorem dX6_net_7 : decode cX6_net 7 = .ok (.if_icmp .ge 35, 3) := by decide +kernel
theorem dX6_net_10 : decode cX6_net 10 = .ok (.iload_n 2, 1) := by decide +kernel
theorem dX6_net_11 : decode cX6_net 11 = .ok (.aload_n 0, 1) := by decide +kernel
theorem dX6_net_12 : decode cX6_net 12 = .ok (.getfield 15, 3) := by decide +kernel
theorem dX6_net_15 : decode cX6_net 15 = .ok (.iload_n 3, 1) := by decide +kernel
theorem dX6_net_16 : decode cX6_net 16 = .ok (.bipush 8, 2) := by decide +kernel
theorem dX6_net_18 : decode cX6_net 18 = .ok (.imul, 1) := by decide +kernel
theorem dX6_net_19 : decode cX6_net 19 = .ok (.iload_n 1, 1) := by decide +kernel
theorem dX6_net_20 : decode cX6_net 20 = .ok (.iadd, 1) := by decide +kernel
theorem dX6_net_21 : decode cX6_net 21 = .ok (.iaload, 1) := by decide +kernel
theorem dX6_net_22 : decode cX6_net 22 = .ok (.aload_n 0, 1) := by decide +kernel
theorem dX6_net_23 : decode cX6_net 23 = .ok (.getfield 15, 3) := by decide +kernel
theorem dX6_net_26 : decode cX6_net 26 = .ok (.iload_n 1, 1) := by decide +kernel
theorem dX6_net_27 : decode cX6_net 27 = .ok (.bipush 8, 2) := by decide +kernel
theorem dX6_net_29 : decode cX6_net 29 = .ok (.imul, 1) := by decide +kernel
theorem dX6_net_30 : decode cX6_net 30 = .ok (.iload_n 3, 1) := by decide +kernel
theorem dX6_net_31 : decode cX6_net 31 = .ok (.iadd, 1) := by decide +kernel
theorem dX6_net_32 : decode cX6_net 32 = .ok (.iaload, 1) := by decide +kernel
theorem dX6_net_33 : decode cX6_net 33 = .ok (.isub, 1) := by decide +kernel
theorem dX6_net_34 : decode cX6_net 34 = .ok (.iadd, 1) := by decide +kernel
theorem dX6_net_35 : decode cX6_net 35 = .ok (.istore_n 2, 1) := by decide +kernel
theorem dX6_net_36 : decode cX6_net 36 = .ok (.iinc 3 1, 3) := by decide +kernel
theorem dX6_net_39 : decode cX6_net 39 = .ok (.goto (-35), 3) := by decide +kernel
theorem dX6_net_42 : decode cX6_net 42 = .ok (.iload_n 2, 1) := by decide +kernel
theorem dX6_net_43 : decode cX6_net 43 = .ok (.ireturn, 1) := by decide +kernel
theorem dX6_writeDown_0 : decode cX6_writeDown 0 = .ok (.aload_n 0, 1) := by decide +kernel
theorem dX6_writeDown_1 : decode cX6_writeDown 1 = .ok (.getfield 27, 3) := by decide +kernel
theorem dX6_writeDown_4 : decode cX6_writeDown 4 = .ok (.sipush 300, 3) := by decide +kernel
theorem dX6_writeDown_7 : decode cX6_writeDown 7 = .ok (.if_icmp .ge 48, 3) := by decide +kernel
theorem dX6_writeDown_10 : decode cX6_writeDown 10 = .ok (.aload_n 0, 1) := by decide +kernel
theorem dX6_writeDown_11 : decode cX6_writeDown 11 = .ok (.getfield 21, 3) := by decide +kernel
theorem dX6_writeDown_14 : decode cX6_writeDown 14 = .ok (.aload_n 0, 1) := by decide +kernel
theorem dX6_writeDown_15 : decode cX6_writeDown 15 = .ok (.getfield 27, 3) := by decide +kernel
theorem dX6_writeDown_18 : decode cX6_writeDown 18 = .ok (.iload_n 3, 1) := by decide +kernel
theorem dX6_writeDown_19 : decode cX6_writeDown 19 = .ok (.iconst 2, 1) := by decide +kernel
theorem dX6_writeDown_20 : decode cX6_writeDown 20 = .ok (.imul, 1) := by decide +kernel
theorem dX6_writeDown_21 : decode cX6_writeDown 21 = .ok (.bipush 64, 2) := by decide +kernel
theorem dX6_writeDown_23 : decode cX6_writeDown 23 = .ok (.imul, 1) := by decide +kernel
theorem dX6_writeDown_24 : decode cX6_writeDown 24 = .ok (.iload_n 1, 1) := by decide +kernel
theorem dX6_writeDown_25 : decode cX6_writeDown 25 = .ok (.bipush 8, 2) := by decide +kernel
theorem dX6_writeDown_27 : decode cX6_writeDown 27 = .ok (.imul, 1) := by decide +kernel
theorem dX6_writeDown_28 : decode cX6_writeDown 28 = .ok (.iadd, 1) := by decide +kernel
theorem dX6_writeDown_29 : decode cX6_writeDown 29 = .ok (.iload_n 2, 1) := by decide +kernel
theorem dX6_writeDown_30 : decode cX6_writeDown 30 = .ok (.iadd, 1) := by decide +kernel
theorem dX6_writeDown_31 : decode cX6_writeDown 31 = .ok (.iastore, 1) := by decide +kernel
theorem dX6_writeDown_32 : decode cX6_writeDown 32 = .ok (.aload_n 0, 1) := by decide +kernel
theorem dX6_writeDown_33 : decode cX6_writeDown 33 = .ok (.getfield 24, 3) := by decide +kernel
theorem dX6_writeDown_36 : decode cX6_writeDown 36 = .ok (.aload_n 0, 1) := by decide +kernel
theorem dX6_writeDown_37 : decode cX6_writeDown 37 = .ok (.getfield 27, 3) := by decide +kernel
theorem dX6_writeDown_40 : decode cX6_writeDown 40 = .ok (.aload_n 0, 1) := by decide +kernel
theorem dX6_writeDown_41 : decode cX6_writeDown 41 = .ok (.getfield 31, 3) := by decide +kernel
theorem dX6_writeDown_44 : decode cX6_writeDown 44 = .ok (.iastore, 1) := by decide +kernel
theorem dX6_writeDown_45 : decode cX6_writeDown 45 = .ok (.aload_n 0, 1) := by decide +kernel
theorem dX6_writeDown_46 : decode cX6_writeDown 46 = .ok (.dup, 1) := by decide +kernel
theorem dX6_writeDown_47 : decode cX6_writeDown 47 = .ok (.getfield 27, 3) := by decide +kernel
theorem dX6_writeDown_50 : decode cX6_writeDown 50 = .ok (.iconst 1, 1) := by decide +kernel
theorem dX6_writeDown_51 : decode cX6_writeDown 51 = .ok (.iadd, 1) := by decide +kernel
theorem dX6_writeDown_52 : decode cX6_writeDown 52 = .ok (.putfield 27, 3) := by decide +kernel
theorem dX6_writeDown_55 : decode cX6_writeDown 55 = .ok (.return_, 1) := by decide +kernel
theorem dX6_entryMan_0 : decode cX6_entryMan 0 = .ok (.aload_n 0, 1) := by decide +kernel
theorem dX6_entryMan_1 : decode cX6_entryMan 1 = .ok (.getfield 21, 3) := by decide +kernel
theorem dX6_entryMan_4 : decode cX6_entryMan 4 = .ok (.iload_n 1, 1) := by decide +kernel
theorem dX6_entryMan_5 : decode cX6_entryMan 5 = .ok (.iaload, 1) := by decide +kernel
theorem dX6_entryMan_6 : decode cX6_entryMan 6 = .ok (.bipush 8, 2) := by decide +kernel
theorem dX6_entryMan_8 : decode cX6_entryMan 8 = .ok (.idiv, 1) := by decide +kernel
theorem dX6_entryMan_9 : decode cX6_entryMan 9 = .ok (.bipush 8, 2) := by decide +kernel
theorem dX6_entryMan_11 : decode cX6_entryMan 11 = .ok (.irem, 1) := by decide +kernel
theorem dX6_entryMan_12 : decode cX6_entryMan 12 = .ok (.ireturn, 1) := by decide +kernel
theorem dX6_entryDeed_0 : decode cX6_entryDeed 0 = .ok (.aload_n 0, 1) := by decide +kernel
theorem dX6_entryDeed_1 : decode cX6_entryDeed 1 = .ok (.getfield 21, 3) := by decide +kernel
theorem dX6_entryDeed_4 : decode cX6_entryDeed 4 = .ok (.iload_n 1, 1) := by decide +kernel
theorem dX6_entryDeed_5 : decode cX6_entryDeed 5 = .ok (.iaload, 1) := by decide +kernel
theorem dX6_entryDeed_6 : decode cX6_entryDeed 6 = .ok (.bipush 8, 2) := by decide +kernel
theorem dX6_entryDeed_8 : decode cX6_entryDeed 8 = .ok (.irem, 1) := by decide +kernel
theorem dX6_entryDeed_9 : decode cX6_entryDeed 9 = .ok (.ireturn, 1) := by decide +kernel
theorem dX6_entryPlucked_0 : decode cX6_entryPlucked 0 = .ok (.aload_n 0, 1) := by decide +kernel
theorem dX6_entryPlucked_1 : decode cX6_entryPlucked 1 = .ok (.getfield 21, 3) := by decide +kernel
theorem dX6_entryPlucked_4 : decode cX6_entryPlucked 4 = .ok (.iload_n 1, 1) := by decide +kernel
theorem dX6_entryPlucked_5 : decode cX6_entryPlucked 5 = .ok (.iaload, 1) := by decide +kernel
theorem dX6_entryPlucked_6 : decode cX6_entryPlucked 6 = .ok (.sipush 128, 3) := by decide +kernel
theorem dX6_entryPlucked_9 : decode cX6_entryPlucked 9 = .ok (.idiv, 1) := by decide +kernel
theorem dX6_entryPlucked_10 : decode cX6_entryPlucked 10 = .ok (.ireturn, 1) := by decide +kernel
theorem dX6_isAppealed_0 : decode cX6_isAppealed 0 = .ok (.aload_n 0, 1) := by decide +kernel
theorem dX6_isAppealed_1 : decode cX6_isAppealed 1 = .ok (.getfield 21, 3) := by decide +kernel
theorem dX6_isAppealed_4 : decode cX6_isAppealed 4 = .ok (.iload_n 1, 1) := by decide +kernel
theorem dX6_isAppealed_5 : decode cX6_isAppealed 5 = .ok (.iaload, 1) := by decide +kernel
theorem dX6_isAppealed_6 : decode cX6_isAppealed 6 = .ok (.bipush 64, 2) := by decide +kernel
theorem dX6_isAppealed_8 : decode cX6_isAppealed 8 = .ok (.idiv, 1) := by decide +kernel
theorem dX6_isAppealed_9 : decode cX6_isAppealed 9 = .ok (.iconst 2, 1) := by decide +kernel
theorem dX6_isAppealed_10 : decode cX6_isAppealed 10 = .ok (.irem, 1) := by decide +kernel
theorem dX6_isAppealed_11 : decode cX6_isAppealed 11 = .ok (.iconst 1, 1) := by decide +kernel
theorem dX6_isAppealed_12 : decode cX6_isAppealed 12 = .ok (.if_icmp .ne 7, 3) := by decide +kernel
theorem dX6_isAppealed_15 : decode cX6_isAppealed 15 = .ok (.iconst 1, 1) := by decide +kernel
theorem dX6_isAppealed_16 : decode cX6_isAppealed 16 = .ok (.goto 4, 3) := by decide +kernel
theorem dX6_isAppealed_19 : decode cX6_isAppealed 19 = .ok (.iconst 0, 1) := by decide +kernel
theorem dX6_isAppealed_20 : decode cX6_isAppealed 20 = .ok (.ireturn, 1) := by decide +kernel
theorem dX6_setAppealed_0 : decode cX6_setAppealed 0 = .ok (.aload_n 0, 1) := by decide +kernel
theorem dX6_setAppealed_1 : decode cX6_setAppealed 1 = .ok (.iload_n 1, 1) := by decide +kernel
theorem dX6_setAppealed_2 : decode cX6_setAppealed 2 = .ok (.invokevirtual 57, 3) := by decide +kernel
theorem dX6_setAppealed_5 : decode cX6_setAppealed 5 = .ok (.iload_n 2, 1) := by decide +kernel
theorem dX6_setAppealed_6 : decode cX6_setAppealed 6 = .ok (.if_icmp .eq 23, 3) := by decide +kernel
theorem dX6_setAppealed_9 : decode cX6_setAppealed 9 = .ok (.aload_n 0, 1) := by decide +kernel
theorem dX6_setAppealed_10 : decode cX6_setAppealed 10 = .ok (.getfield 21, 3) := by decide +kernel
theorem dX6_setAppealed_13 : decode cX6_setAppealed 13 = .ok (.iload_n 1, 1) := by decide +kernel
theorem dX6_setAppealed_14 : decode cX6_setAppealed 14 = .ok (.dup2, 1) := by decide +kernel
theorem dX6_setAppealed_15 : decode cX6_setAppealed 15 = .ok (.iaload, 1) := by decide +kernel
theorem dX6_setAppealed_16 : decode cX6_setAppealed 16 = .ok (.iload_n 2, 1) := by decide +kernel
theorem dX6_setAppealed_17 : decode cX6_setAppealed 17 = .ok (.ifCond .eq 8, 3) := by decide +kernel
theorem dX6_setAppealed_20 : decode cX6_setAppealed 20 = .ok (.bipush 64, 2) := by decide +kernel
theorem dX6_setAppealed_22 : decode cX6_setAppealed 22 = .ok (.goto 5, 3) := by decide +kernel
theorem dX6_setAppealed_25 : decode cX6_setAppealed 25 = .ok (.bipush (-64), 2) := by decide +kernel
theorem dX6_setAppealed_27 : decode cX6_setAppealed 27 = .ok (.iadd, 1) := by decide +kernel
theorem dX6_setAppealed_28 : decode cX6_setAppealed 28 = .ok (.iastore, 1) := by decide +kernel
theorem dX6_setAppealed_29 : decode cX6_setAppealed 29 = .ok (.return_, 1) := by decide +kernel
theorem dX7_init_0 : decode cX7_init 0 = .ok (.aload_n 0, 1) := by decide +kernel
theorem dX7_init_1 : decode cX7_init 1 = .ok (.invokespecial 3, 3) := by decide +kernel
theorem dX7_init_4 : decode cX7_init 4 = .ok (.aload_n 0, 1) := by decide +kernel
theorem dX7_init_5 : decode cX7_init 5 = .ok (.sipush 2000, 3) := by decide +kernel
theorem dX7_init_8 : decode cX7_init 8 = .ok (.newarray .byte, 2) := by decide +kernel
theorem dX7_init_10 : decode cX7_init 10 = .ok (.putfield 11, 3) := by decide +kernel
theorem dX7_init_13 : decode cX7_init 13 = .ok (.aload_n 0, 1) := by decide +kernel
theorem dX7_init_14 : decode cX7_init 14 = .ok (.sipush 401, 3) := by decide +kernel
theorem dX7_init_17 : decode cX7_init 17 = .ok (.newarray .int, 2) := by decide +kernel
theorem dX7_init_19 : decode cX7_init 19 = .ok (.putfield 15, 3) := by decide +kernel
theorem dX7_init_22 : decode cX7_init 22 = .ok (.aload_n 0, 1) := by decide +kernel
theorem dX7_init_23 : decode cX7_init 23 = .ok (.sipush 401, 3) := by decide +kernel
theorem dX7_init_26 : decode cX7_init 26 = .ok (.newarray .int, 2) := by decide +kernel
theorem dX7_init_28 : decode cX7_init 28 = .ok (.putfield 19, 3) := by decide +kernel
theorem dX7_init_31 : decode cX7_init 31 = .ok (.aload_n 0, 1) := by decide +kernel
theorem dX7_init_32 : decode cX7_init 32 = .ok (.sipush 401, 3) := by decide +kernel
theorem dX7_init_35 : decode cX7_init 35 = .ok (.newarray .long, 2) := by decide +kernel
theorem dX7_init_37 : decode cX7_init 37 = .ok (.putfield 22, 3) := by decide +kernel
theorem dX7_init_40 : decode cX7_init 40 = .ok (.aload_n 0, 1) := by decide +kernel
theorem dX7_init_41 : decode cX7_init 41 = .ok (.bipush 17, 2) := by decide +kernel
theorem dX7_init_43 : decode cX7_init 43 = .ok (.newarray .long, 2) := by decide +kernel
theorem dX7_init_45 : decode cX7_init 45 = .ok (.putfield 26, 3) := by decide +kernel
theorem dX7_init_48 : decode cX7_init 48 = .ok (.iconst 0, 1) := by decide +kernel
theorem dX7_init_49 : decode cX7_init 49 = .ok (.istore_n 1, 1) := by decide +kernel
theorem dX7_init_50 : decode cX7_init 50 = .ok (.iconst 0, 1) := by decide +kernel
theorem dX7_init_51 : decode cX7_init 51 = .ok (.istore_n 2, 1) := by decide +kernel
theorem dX7_init_52 : decode cX7_init 52 = .ok (.iload_n 2, 1) := by decide +kernel
theorem dX7_init_53 : decode cX7_init 53 = .ok (.ldc 29, 2) := by decide +kernel
theorem dX7_init_55 : decode cX7_init 55 = .ok (.invokevirtual 31, 3) := by decide +kernel
theorem dX7_init_58 : decode cX7_init 58 = .ok (.if_icmp .ge 50, 3) := by decide +kernel
theorem dX7_init_61 : decode cX7_init 61 = .ok (.iload_n 1, 1) := by decide +kernel
theorem dX7_init_62 : decode cX7_init 62 = .ok (.bipush 17, 2) := by decide +kernel
theorem dX7_init_64 : decode cX7_init 64 = .ok (.if_icmp .ge 44, 3) := by decide +kernel
theorem dX7_init_67 : decode cX7_init 67 = .ok (.ldc 29, 2) := by decide +kernel
theorem dX7_init_69 : decode cX7_init 69 = .ok (.iload_n 2, 1) := by decide +kernel
theorem dX7_init_70 : decode cX7_init 70 = .ok (.invokevirtual 37, 3) := by decide +kernel
theorem dX7_init_73 : decode cX7_init 73 = .ok (.istore_n 3, 1) := by decide +kernel
theorem dX7_init_74 : decode cX7_init 74 = .ok (.iload_n 3, 1) := by decide +kernel
theorem dX7_init_75 : decode cX7_init 75 = .ok (.bipush 32, 2) := by decide +kernel
theorem dX7_init_77 : decode cX7_init 77 = .ok (.if_icmp .ne 9, 3) := by decide +kernel
theorem dX7_init_80 : decode cX7_init 80 = .ok (.iinc 1 1, 3) := by decide +kernel
theorem dX7_init_83 : decode cX7_init 83 = .ok (.goto 19, 3) := by decide +kernel
theorem dX7_init_86 : decode cX7_init 86 = .ok (.aload_n 0, 1) := by decide +kernel
theorem dX7_init_87 : decode cX7_init 87 = .ok (.getfield 26, 3) := by decide +kernel
theorem dX7_init_90 : decode cX7_init 90 = .ok (.iload_n 1, 1) := by decide +kernel
theorem dX7_init_91 : decode cX7_init 91 = .ok (.aload_n 0, 1) := by decide +kernel
theorem dX7_init_92 : decode cX7_init 92 = .ok (.getfield 26, 3) := by decide +kernel
theorem dX7_init_95 : decode cX7_init 95 = .ok (.iload_n 1, 1) := by decide +kernel
theorem dX7_init_96 : decode cX7_init 96 = .ok (.laload, 1) := by decide +kernel
theorem dX7_init_97 : decode cX7_init 97 = .ok (.iload_n 3, 1) := by decide +kernel
theorem dX7_init_98 : decode cX7_init 98 = .ok (.invokestatic 41, 3) := by decide +kernel
theorem dX7_init_101 : decode cX7_init 101 = .ok (.lastore, 1) := by decide +kernel
theorem dX7_init_102 : decode cX7_init 102 = .ok (.iinc 2 1, 3) := by decide +kernel
theorem dX7_init_105 : decode cX7_init 105 = .ok (.goto (-53), 3) := by decide +kernel
theorem dX7_init_108 : decode cX7_init 108 = .ok (.return_, 1) := by decide +kernel
theorem dX7_hasRoomFor_0 : decode cX7_hasRoomFor 0 = .ok (.aload_n 0, 1) := by decide +kernel
theorem dX7_hasRoomFor_1 : decode cX7_hasRoomFor 1 = .ok (.getfield 45, 3) := by decide +kernel
theorem dX7_hasRoomFor_4 : decode cX7_hasRoomFor 4 = .ok (.sipush 2000, 3) := by decide +kernel
theorem dX7_hasRoomFor_7 : decode cX7_hasRoomFor 7 = .ok (.iload_n 1, 1) := by decide +kernel
theorem dX7_hasRoomFor_8 : decode cX7_hasRoomFor 8 = .ok (.isub, 1) := by decide +kernel
theorem dX7_hasRoomFor_9 : decode cX7_hasRoomFor 9 = .ok (.if_icmp .gt 7, 3) := by decide +kernel
theorem dX7_hasRoomFor_12 : decode cX7_hasRoomFor 12 = .ok (.iconst 1, 1) := by decide +kernel
theorem dX7_hasRoomFor_13 : decode cX7_hasRoomFor 13 = .ok (.goto 4, 3) := by decide +kernel
theorem dX7_hasRoomFor_16 : decode cX7_hasRoomFor 16 = .ok (.iconst 0, 1) := by decide +kernel
theorem dX7_hasRoomFor_17 : decode cX7_hasRoomFor 17 = .ok (.ireturn, 1) := by decide +kernel
theorem dX7_append_0 : decode cX7_append 0 = .ok (.bipush 24, 2) := by decide +kernel
theorem dX7_append_2 : decode cX7_append 2 = .ok (.istore_n 2, 1) := by decide +kernel
theorem dX7_append_3 : decode cX7_append 3 = .ok (.iload_n 2, 1) := by decide +kernel
theorem dX7_append_4 : decode cX7_append 4 = .ok (.ifCond .lt 42, 3) := by decide +kernel
theorem dX7_append_7 : decode cX7_append 7 = .ok (.aload_n 0, 1) := by decide +kernel
theorem dX7_append_8 : decode cX7_append 8 = .ok (.getfield 45, 3) := by decide +kernel
theorem dX7_append_11 : decode cX7_append 11 = .ok (.sipush 2000, 3) := by decide +kernel
theorem dX7_append_14 : decode cX7_append 14 = .ok (.if_icmp .ge 32, 3) := by decide +kernel
theorem dX7_append_17 : decode cX7_append 17 = .ok (.aload_n 0, 1) := by decide +kernel
theorem dX7_append_18 : decode cX7_append 18 = .ok (.getfield 11, 3) := by decide +kernel
theorem dX7_append_21 : decode cX7_append 21 = .ok (.aload_n 0, 1) := by decide +kernel
theorem dX7_append_22 : decode cX7_append 22 = .ok (.getfield 45, 3) := by decide +kernel
theorem dX7_append_25 : decode cX7_append 25 = .ok (.iload_n 1, 1) := by decide +kernel
theorem dX7_append_26 : decode cX7_append 26 = .ok (.iload_n 2, 1) := by decide +kernel
theorem dX7_append_27 : decode cX7_append 27 = .ok (.ishr, 1) := by decide +kernel
theorem dX7_append_28 : decode cX7_append 28 = .ok (.i2b, 1) := by decide +kernel
theorem dX7_append_29 : decode cX7_append 29 = .ok (.bastore, 1) := by decide +kernel
theorem dX7_append_30 : decode cX7_append 30 = .ok (.aload_n 0, 1) := by decide +kernel
theorem dX7_append_31 : decode cX7_append 31 = .ok (.dup, 1) := by decide +kernel
theorem dX7_append_32 : decode cX7_append 32 = .ok (.getfield 45, 3) := by decide +kernel
theorem dX7_append_35 : decode cX7_append 35 = .ok (.iconst 1, 1) := by decide +kernel
theorem dX7_append_36 : decode cX7_append 36 = .ok (.iadd, 1) := by decide +kernel
theorem dX7_append_37 : decode cX7_append 37 = .ok (.putfield 45, 3) := by decide +kernel
theorem dX7_append_40 : decode cX7_append 40 = .ok (.iinc 2 (-8), 3) := by decide +kernel
theorem dX7_append_43 : decode cX7_append 43 = .ok (.goto (-40), 3) := by decide +kernel
theorem dX7_append_46 : decode cX7_append 46 = .ok (.return_, 1) := by decide +kernel
theorem dX7_scan_0 : decode cX7_scan 0 = .ok (.aload_n 0, 1) := by decide +kernel
theorem dX7_scan_1 : decode cX7_scan 1 = .ok (.iconst 0, 1) := by decide +kernel
theorem dX7_scan_2 : decode cX7_scan 2 = .ok (.putfield 48, 3) := by decide +kernel
theorem dX7_scan_5 : decode cX7_scan 5 = .ok (.iconst 1, 1) := by decide +kernel
theorem dX7_scan_6 : decode cX7_scan 6 = .ok (.istore_n 1, 1) := by decide +kernel
theorem dX7_scan_7 : decode cX7_scan 7 = .ok (.iconst 0, 1) := by decide +kernel
theorem dX7_scan_8 : decode cX7_scan 8 = .ok (.istore_n 2, 1) := by decide +kernel
theorem dX7_scan_9 : decode cX7_scan 9 = .ok (.iload_n 2, 1) := by decide +kernel
theorem dX7_scan_10 : decode cX7_scan 10 = .ok (.sipush 400, 3) := by decide +kernel
theorem dX7_scan_13 : decode cX7_scan 13 = .ok (.if_icmp .gt 86, 3) := by decide +kernel
theorem dX7_scan_16 : decode cX7_scan 16 = .ok (.iload_n 1, 1) := by decide +kernel
theorem dX7_scan_17 : decode cX7_scan 17 = .ok (.iconst (-1), 1) := by decide +kernel
theorem dX7_scan_18 : decode cX7_scan 18 = .ok (.if_icmp .eq 81, 3) := by decide +kernel
theorem dX7_scan_21 : decode cX7_scan 21 = .ok (.iload_n 1, 1) := by decide +kernel
theorem dX7_scan_22 : decode cX7_scan 22 = .ok (.ifCond .eq 77, 3) := by decide +kernel
theorem dX7_scan_25 : decode cX7_scan 25 = .ok (.aload_n 0, 1) := by decide +kernel
theorem dX7_scan_26 : decode cX7_scan 26 = .ok (.getfield 48, 3) := by decide +kernel
theorem dX7_scan_29 : decode cX7_scan 29 = .ok (.aload_n 0, 1) := by decide +kernel
theorem dX7_scan_30 : decode cX7_scan 30 = .ok (.getfield 45, 3) := by decide +kernel
theorem dX7_scan_33 : decode cX7_scan 33 = .ok (.if_icmp .ge 30, 3) := by decide +kernel
theorem dX7_scan_36 : decode cX7_scan 36 = .ok (.aload_n 0, 1) := by decide +kernel
theorem dX7_scan_37 : decode cX7_scan 37 = .ok (.aload_n 0, 1) := by decide +kernel
theorem dX7_scan_38 : decode cX7_scan 38 = .ok (.getfield 48, 3) := by decide +kernel
theorem dX7_scan_41 : decode cX7_scan 41 = .ok (.invokevirtual 51, 3) := by decide +kernel
theorem dX7_scan_44 : decode cX7_scan 44 = .ok (.invokestatic 55, 3) := by decide +kernel
theorem dX7_scan_47 : decode cX7_scan 47 = .ok (.ifCond .eq 16, 3) := by decide +kernel
theorem dX7_scan_50 : decode cX7_scan 50 = .ok (.aload_n 0, 1) := by decide +kernel
theorem dX7_scan_51 : decode cX7_scan 51 = .ok (.dup, 1) := by decide +kernel
theorem dX7_scan_52 : decode cX7_scan 52 = .ok (.getfield 48, 3) := by decide +kernel
theorem dX7_scan_55 : decode cX7_scan 55 = .ok (.iconst 1, 1) := by decide +kernel
theorem dX7_scan_56 : decode cX7_scan 56 = .ok (.iadd, 1) := by decide +kernel
theorem dX7_scan_57 : decode cX7_scan 57 = .ok (.putfield 48, 3) := by decide +kernel
theorem dX7_scan_60 : decode cX7_scan 60 = .ok (.goto (-35), 3) := by decide +kernel
theorem dX7_scan_63 : decode cX7_scan 63 = .ok (.aload_n 0, 1) := by decide +kernel
theorem dX7_scan_64 : decode cX7_scan 64 = .ok (.getfield 19, 3) := by decide +kernel
theorem dX7_scan_67 : decode cX7_scan 67 = .ok (.iload_n 2, 1) := by decide +kernel
theorem dX7_scan_68 : decode cX7_scan 68 = .ok (.aload_n 0, 1) := by decide +kernel
theorem dX7_scan_69 : decode cX7_scan 69 = .ok (.getfield 48, 3) := by decide +kernel
theorem dX7_scan_72 : decode cX7_scan 72 = .ok (.iastore, 1) := by decide +kernel
theorem dX7_scan_73 : decode cX7_scan 73 = .ok (.aload_n 0, 1) := by decide +kernel
theorem dX7_scan_74 : decode cX7_scan 74 = .ok (.getfield 22, 3) := by decide +kernel
theorem dX7_scan_77 : decode cX7_scan 77 = .ok (.iload_n 2, 1) := by decide +kernel
theorem dX7_scan_78 : decode cX7_scan 78 = .ok (.lconst 0, 1) := by decide +kernel
theorem dX7_scan_79 : decode cX7_scan 79 = .ok (.lastore, 1) := by decide +kernel
theorem dX7_scan_80 : decode cX7_scan 80 = .ok (.aload_n 0, 1) := by decide +kernel
theorem dX7_scan_81 : decode cX7_scan 81 = .ok (.iload_n 2, 1) := by decide +kernel
theorem dX7_scan_82 : decode cX7_scan 82 = .ok (.invokevirtual 59, 3) := by decide +kernel
theorem dX7_scan_85 : decode cX7_scan 85 = .ok (.istore_n 1, 1) := by decide +kernel
theorem dX7_scan_86 : decode cX7_scan 86 = .ok (.aload_n 0, 1) := by decide +kernel
theorem dX7_scan_87 : decode cX7_scan 87 = .ok (.getfield 15, 3) := by decide +kernel
theorem dX7_scan_90 : decode cX7_scan 90 = .ok (.iload_n 2, 1) := by decide +kernel
theorem dX7_scan_91 : decode cX7_scan 91 = .ok (.iload_n 1, 1) := by decide +kernel
theorem dX7_scan_92 : decode cX7_scan 92 = .ok (.iastore, 1) := by decide +kernel
theorem dX7_scan_93 : decode cX7_scan 93 = .ok (.iinc 2 1, 3) := by decide +kernel
theorem dX7_scan_96 : decode cX7_scan 96 = .ok (.goto (-87), 3) := by decide +kernel
theorem dX7_scan_99 : decode cX7_scan 99 = .ok (.return_, 1) := by decide +kernel
theorem dX7_scanToken_0 : decode cX7_scanToken 0 = .ok (.aload_n 0, 1) := by decide +kernel
theorem dX7_scanToken_1 : decode cX7_scanToken 1 = .ok (.aload_n 0, 1) := by decide +kernel
theorem dX7_scanToken_2 : decode cX7_scanToken 2 = .ok (.getfield 48, 3) := by decide +kernel
theorem dX7_scanToken_5 : decode cX7_scanToken 5 = .ok (.invokevirtual 51, 3) := by decide +kernel
theorem dX7_scanToken_8 : decode cX7_scanToken 8 = .ok (.istore_n 2, 1) := by decide +kernel
theorem dX7_scanToken_9 : decode cX7_scanToken 9 = .ok (.iload_n 2, 1) := by decide +kernel
theorem dX7_scanToken_10 : decode cX7_scanToken 10 = .ok (.iconst (-1), 1) := by decide +kernel
theorem dX7_scanToken_11 : decode cX7_scanToken 11 = .ok (.if_icmp .ne 5, 3) := by decide +kernel
theorem dX7_scanToken_14 : decode cX7_scanToken 14 = .ok (.iconst 0, 1) := by decide +kernel
theorem dX7_scanToken_15 : decode cX7_scanToken 15 = .ok (.ireturn, 1) := by decide +kernel
theorem dX7_scanToken_16 : decode cX7_scanToken 16 = .ok (.iload_n 2, 1) := by decide +kernel
theorem dX7_scanToken_17 : decode cX7_scanToken 17 = .ok (.invokestatic 62, 3) := by decide +kernel
theorem dX7_scanToken_20 : decode cX7_scanToken 20 = .ok (.ifCond .eq 9, 3) := by decide +kernel
theorem dX7_scanToken_23 : decode cX7_scanToken 23 = .ok (.aload_n 0, 1) := by decide +kernel
theorem dX7_scanToken_24 : decode cX7_scanToken 24 = .ok (.iload_n 1, 1) := by decide +kernel
theorem dX7_scanToken_25 : decode cX7_scanToken 25 = .ok (.invokevirtual 65, 3) := by decide +kernel
theorem dX7_scanToken_28 : decode cX7_scanToken 28 = .ok (.ireturn, 1) := by decide +kernel
theorem dX7_scanToken_29 : decode cX7_scanToken 29 = .ok (.iload_n 2, 1) := by decide +kernel
theorem dX7_scanToken_30 : decode cX7_scanToken 30 = .ok (.invokestatic 68, 3) := by decide +kernel
theorem dX7_scanToken_33 : decode cX7_scanToken 33 = .ok (.ifCond .eq 9, 3) := by decide +kernel
theorem dX7_scanToken_36 : decode cX7_scanToken 36 = .ok (.aload_n 0, 1) := by decide +kernel
theorem dX7_scanToken_37 : decode cX7_scanToken 37 = .ok (.iload_n 1, 1) := by decide +kernel
theorem dX7_scanToken_38 : decode cX7_scanToken 38 = .ok (.invokevirtual 71, 3) := by decide +kernel
theorem dX7_scanToken_41 : decode cX7_scanToken 41 = .ok (.ireturn, 1) := by decide +kernel
theorem dX7_scanToken_42 : decode cX7_scanToken 42 = .ok (.aload_n 0, 1) := by decide +kernel
theorem dX7_scanToken_43 : decode cX7_scanToken 43 = .ok (.dup, 1) := by decide +kernel
theorem dX7_scanToken_44 : decode cX7_scanToken 44 = .ok (.getfield 48, 3) := by decide +kernel
theorem dX7_scanToken_47 : decode cX7_scanToken 47 = .ok (.iconst 1, 1) := by decide +kernel
theorem dX7_scanToken_48 : decode cX7_scanToken 48 = .ok (.iadd, 1) := by decide +kernel
theorem dX7_scanToken_49 : decode cX7_scanToken 49 = .ok (.putfield 48, 3) := by decide +kernel
theorem dX7_scanToken_52 : decode cX7_scanToken 52 = .ok (.ldc 74, 2) := by decide +kernel
theorem dX7_scanToken_54 : decode cX7_scanToken 54 = .ok (.iload_n 2, 1) := by decide +kernel
theorem dX7_scanToken_55 : decode cX7_scanToken 55 = .ok (.i2c, 1) := by decide +kernel
theorem dX7_scanToken_56 : decode cX7_scanToken 56 = .ok (.invokevirtual 76, 3) := by decide +kernel
theorem dX7_scanToken_59 : decode cX7_scanToken 59 = .ok (.ifCond .lt 7, 3) := by decide +kernel
theorem dX7_scanToken_62 : decode cX7_scanToken 62 = .ok (.iload_n 2, 1) := by decide +kernel
theorem dX7_scanToken_63 : decode cX7_scanToken 63 = .ok (.goto 4, 3) := by decide +kernel
theorem dX7_scanToken_66 : decode cX7_scanToken 66 = .ok (.iconst (-1), 1) := by decide +kernel
theorem dX7_scanToken_67 : decode cX7_scanToken 67 = .ok (.ireturn, 1) := by decide +kernel
theorem dX7_scanLetters_0 : decode cX7_scanLetters 0 = .ok (.lconst 0, 1) := by decide +kernel
theorem dX7_scanLetters_1 : decode cX7_scanLetters 1 = .ok (.lstore_n 2, 1) := by decide +kernel
theorem dX7_scanLetters_2 : decode cX7_scanLetters 2 = .ok (.aload_n 0, 1) := by decide +kernel
theorem dX7_scanLetters_3 : decode cX7_scanLetters 3 = .ok (.getfield 48, 3) := by decide +kernel
theorem dX7_scanLetters_6 : decode cX7_scanLetters 6 = .ok (.istore 4, 2) := by decide +kernel
theorem dX7_scanLetters_8 : decode cX7_scanLetters 8 = .ok (.aload_n 0, 1) := by decide +kernel
theorem dX7_scanLetters_9 : decode cX7_scanLetters 9 = .ok (.getfield 48, 3) := by decide +kernel
theorem dX7_scanLetters_12 : decode cX7_scanLetters 12 = .ok (.aload_n 0, 1) := by decide +kernel
theorem dX7_scanLetters_13 : decode cX7_scanLetters 13 = .ok (.getfield 45, 3) := by decide +kernel
theorem dX7_scanLetters_16 : decode cX7_scanLetters 16 = .ok (.if_icmp .ge 43, 3) := by decide +kernel
theorem dX7_scanLetters_19 : decode cX7_scanLetters 19 = .ok (.aload_n 0, 1) := by decide +kernel
theorem dX7_scanLetters_20 : decode cX7_scanLetters 20 = .ok (.aload_n 0, 1) := by decide +kernel
theorem dX7_scanLetters_21 : decode cX7_scanLetters 21 = .ok (.getfield 48, 3) := by decide +kernel
theorem dX7_scanLetters_24 : decode cX7_scanLetters 24 = .ok (.invokevirtual 51, 3) := by decide +kernel
theorem dX7_scanLetters_27 : decode cX7_scanLetters 27 = .ok (.invokestatic 62, 3) := by decide +kernel
theorem dX7_scanLetters_30 : decode cX7_scanLetters 30 = .ok (.ifCond .eq 29, 3) := by decide +kernel
theorem dX7_scanLetters_33 : decode cX7_scanLetters 33 = .ok (.lload_n 2, 1) := by decide +kernel
theorem dX7_scanLetters_34 : decode cX7_scanLetters 34 = .ok (.aload_n 0, 1) := by decide +kernel
theorem dX7_scanLetters_35 : decode cX7_scanLetters 35 = .ok (.aload_n 0, 1) := by decide +kernel
theorem dX7_scanLetters_36 : decode cX7_scanLetters 36 = .ok (.getfield 48, 3) := by decide +kernel
theorem dX7_scanLetters_39 : decode cX7_scanLetters 39 = .ok (.invokevirtual 51, 3) := by decide +kernel
theorem dX7_scanLetters_42 : decode cX7_scanLetters 42 = .ok (.invokestatic 41, 3) := by decide +kernel
theorem dX7_scanLetters_45 : decode cX7_scanLetters 45 = .ok (.lstore_n 2, 1) := by decide +kernel
theorem dX7_scanLetters_46 : decode cX7_scanLetters 46 = .ok (.aload_n 0, 1) := by decide +kernel
theorem dX7_scanLetters_47 : decode cX7_scanLetters 47 = .ok (.dup, 1) := by decide +kernel
theorem dX7_scanLetters_48 : decode cX7_scanLetters 48 = .ok (.getfield 48, 3) := by decide +kernel
theorem dX7_scanLetters_51 : decode cX7_scanLetters 51 = .ok (.iconst 1, 1) := by decide +kernel
theorem dX7_scanLetters_52 : decode cX7_scanLetters 52 = .ok (.iadd, 1) := by decide +kernel
theorem dX7_scanLetters_53 : decode cX7_scanLetters 53 = .ok (.putfield 48, 3) := by decide +kernel
theorem dX7_scanLetters_56 : decode cX7_scanLetters 56 = .ok (.goto (-48), 3) := by decide +kernel
theorem dX7_scanLetters_59 : decode cX7_scanLetters 59 = .ok (.aload_n 0, 1) := by decide +kernel
theorem dX7_scanLetters_60 : decode cX7_scanLetters 60 = .ok (.getfield 48, 3) := by decide +kernel
theorem dX7_scanLetters_63 : decode cX7_scanLetters 63 = .ok (.iload 4, 2) := by decide +kernel
theorem dX7_scanLetters_65 : decode cX7_scanLetters 65 = .ok (.isub, 1) := by decide +kernel
theorem dX7_scanLetters_66 : decode cX7_scanLetters 66 = .ok (.bipush 8, 2) := by decide +kernel
theorem dX7_scanLetters_68 : decode cX7_scanLetters 68 = .ok (.if_icmp .le 5, 3) := by decide +kernel
theorem dX7_scanLetters_71 : decode cX7_scanLetters 71 = .ok (.iconst (-1), 1) := by decide +kernel
theorem dX7_scanLetters_72 : decode cX7_scanLetters 72 = .ok (.ireturn, 1) := by decide +kernel
theorem dX7_scanLetters_73 : decode cX7_scanLetters 73 = .ok (.aload_n 0, 1) := by decide +kernel
theorem dX7_scanLetters_74 : decode cX7_scanLetters 74 = .ok (.getfield 22, 3) := by decide +kernel
theorem dX7_scanLetters_77 : decode cX7_scanLetters 77 = .ok (.iload_n 1, 1) := by decide +kernel
theorem dX7_scanLetters_78 : decode cX7_scanLetters 78 = .ok (.lload_n 2, 1) := by decide +kernel
theorem dX7_scanLetters_79 : decode cX7_scanLetters 79 = .ok (.lastore, 1) := by decide +kernel
theorem dX7_scanLetters_80 : decode cX7_scanLetters 80 = .ok (.iconst 0, 1) := by decide +kernel
theorem dX7_scanLetters_81 : decode cX7_scanLetters 81 = .ok (.istore 5, 2) := by decide +kernel
theorem dX7_scanLetters_83 : decode cX7_scanLetters 83 = .ok (.iload 5, 2) := by decide +kernel
theorem dX7_scanLetters_85 : decode cX7_scanLetters 85 = .ok (.bipush 17, 2) := by decide +kernel
theorem dX7_scanLetters_87 : decode cX7_scanLetters 87 = .ok (.if_icmp .ge 28, 3) := by decide +kernel
theorem dX7_scanLetters_90 : decode cX7_scanLetters 90 = .ok (.aload_n 0, 1) := by decide +kernel
theorem dX7_scanLetters_91 : decode cX7_scanLetters 91 = .ok (.getfield 26, 3) := by decide +kernel
