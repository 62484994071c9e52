/-! decode rows 3 -/
theorem dX7_scanLetters_94 : decode cX7_scanLetters 94 = .ok (.iload 5, 2) := by decide +kernel
theorem dX7_scanLetters_96 : decode cX7_scanLetters 96 = .ok (.laload, 1) := by decide +kernel
theorem dX7_scanLetters_97 : decode cX7_scanLetters 97 = .ok (.lload_n 2, 1) := by decide +kernel
theorem dX7_scanLetters_98 : decode cX7_scanLetters 98 = .ok (.lcmp, 1) := by decide +kernel
theorem dX7_scanLetters_99 : decode cX7_scanLetters 99 = .ok (.ifCond .ne 10, 3) := by decide +kernel
theorem dX7_scanLetters_102 : decode cX7_scanLetters 102 = .ok (.sipush 256, 3) := by decide +kernel
theorem dX7_scanLetters_105 : decode cX7_scanLetters 105 = .ok (.iload 5, 2) := by decide +kernel
theorem dX7_scanLetters_107 : decode cX7_scanLetters 107 = .ok (.iadd, 1) := by decide +kernel
theorem dX7_scanLetters_108 : decode cX7_scanLetters 108 = .ok (.ireturn, 1) := by decide +kernel
theorem dX7_scanLetters_109 : decode cX7_scanLetters 109 = .ok (.iinc 5 1, 3) := by decide +kernel
theorem dX7_scanLetters_112 : decode cX7_scanLetters 112 = .ok (.goto (-29), 3) := by decide +kernel
theorem dX7_scanLetters_115 : decode cX7_scanLetters 115 = .ok (.iconst 1, 1) := by decide +kernel
theorem dX7_scanLetters_116 : decode cX7_scanLetters 116 = .ok (.ireturn, 1) := by decide +kernel
theorem dX7_scanDigits_0 : decode cX7_scanDigits 0 = .ok (.aload_n 0, 1) := by decide +kernel
theorem dX7_scanDigits_1 : decode cX7_scanDigits 1 = .ok (.getfield 48, 3) := by decide +kernel
theorem dX7_scanDigits_4 : decode cX7_scanDigits 4 = .ok (.istore_n 2, 1) := by decide +kernel
theorem dX7_scanDigits_5 : decode cX7_scanDigits 5 = .ok (.iconst 0, 1) := by decide +kernel
theorem dX7_scanDigits_6 : decode cX7_scanDigits 6 = .ok (.istore_n 3, 1) := by decide +kernel
theorem dX7_scanDigits_7 : decode cX7_scanDigits 7 = .ok (.aload_n 0, 1) := by decide +kernel
theorem dX7_scanDigits_8 : decode cX7_scanDigits 8 = .ok (.getfield 48, 3) := by decide +kernel
theorem dX7_scanDigits_11 : decode cX7_scanDigits 11 = .ok (.aload_n 0, 1) := by decide +kernel
theorem dX7_scanDigits_12 : decode cX7_scanDigits 12 = .ok (.getfield 45, 3) := by decide +kernel
theorem dX7_scanDigits_15 : decode cX7_scanDigits 15 = .ok (.if_icmp .ge 47, 3) := by decide +kernel
theorem dX7_scanDigits_18 : decode cX7_scanDigits 18 = .ok (.aload_n 0, 1) := by decide +kernel
theorem dX7_scanDigits_19 : decode cX7_scanDigits 19 = .ok (.aload_n 0, 1) := by decide +kernel
theorem dX7_scanDigits_20 : decode cX7_scanDigits 20 = .ok (.getfield 48, 3) := by decide +kernel
theorem dX7_scanDigits_23 : decode cX7_scanDigits 23 = .ok (.invokevirtual 51, 3) := by decide +kernel
theorem dX7_scanDigits_26 : decode cX7_scanDigits 26 = .ok (.invokestatic 68, 3) := by decide +kernel
theorem dX7_scanDigits_29 : decode cX7_scanDigits 29 = .ok (.ifCond .eq 33, 3) := by decide +kernel
theorem dX7_scanDigits_32 : decode cX7_scanDigits 32 = .ok (.iload_n 3, 1) := by decide +kernel
theorem dX7_scanDigits_33 : decode cX7_scanDigits 33 = .ok (.bipush 10, 2) := by decide +kernel
theorem dX7_scanDigits_35 : decode cX7_scanDigits 35 = .ok (.imul, 1) := by decide +kernel
theorem dX7_scanDigits_36 : decode cX7_scanDigits 36 = .ok (.aload_n 0, 1) := by decide +kernel
theorem dX7_scanDigits_37 : decode cX7_scanDigits 37 = .ok (.aload_n 0, 1) := by decide +kernel
theorem dX7_scanDigits_38 : decode cX7_scanDigits 38 = .ok (.getfield 48, 3) := by decide +kernel
theorem dX7_scanDigits_41 : decode cX7_scanDigits 41 = .ok (.invokevirtual 51, 3) := by decide +kernel
theorem dX7_scanDigits_44 : decode cX7_scanDigits 44 = .ok (.iadd, 1) := by decide +kernel
theorem dX7_scanDigits_45 : decode cX7_scanDigits 45 = .ok (.bipush 48, 2) := by decide +kernel
theorem dX7_scanDigits_47 : decode cX7_scanDigits 47 = .ok (.isub, 1) := by decide +kernel
theorem dX7_scanDigits_48 : decode cX7_scanDigits 48 = .ok (.istore_n 3, 1) := by decide +kernel
theorem dX7_scanDigits_49 : decode cX7_scanDigits 49 = .ok (.aload_n 0, 1) := by decide +kernel
theorem dX7_scanDigits_50 : decode cX7_scanDigits 50 = .ok (.dup, 1) := by decide +kernel
theorem dX7_scanDigits_51 : decode cX7_scanDigits 51 = .ok (.getfield 48, 3) := by decide +kernel
theorem dX7_scanDigits_54 : decode cX7_scanDigits 54 = .ok (.iconst 1, 1) := by decide +kernel
theorem dX7_scanDigits_55 : decode cX7_scanDigits 55 = .ok (.iadd, 1) := by decide +kernel
theorem dX7_scanDigits_56 : decode cX7_scanDigits 56 = .ok (.putfield 48, 3) := by decide +kernel
theorem dX7_scanDigits_59 : decode cX7_scanDigits 59 = .ok (.goto (-52), 3) := by decide +kernel
theorem dX7_scanDigits_62 : decode cX7_scanDigits 62 = .ok (.aload_n 0, 1) := by decide +kernel
theorem dX7_scanDigits_63 : decode cX7_scanDigits 63 = .ok (.getfield 22, 3) := by decide +kernel
theorem dX7_scanDigits_66 : decode cX7_scanDigits 66 = .ok (.iload_n 1, 1) := by decide +kernel
theorem dX7_scanDigits_67 : decode cX7_scanDigits 67 = .ok (.iload_n 3, 1) := by decide +kernel
theorem dX7_scanDigits_68 : decode cX7_scanDigits 68 = .ok (.i2l, 1) := by decide +kernel
theorem dX7_scanDigits_69 : decode cX7_scanDigits 69 = .ok (.lastore, 1) := by decide +kernel
theorem dX7_scanDigits_70 : decode cX7_scanDigits 70 = .ok (.aload_n 0, 1) := by decide +kernel
theorem dX7_scanDigits_71 : decode cX7_scanDigits 71 = .ok (.getfield 48, 3) := by decide +kernel
theorem dX7_scanDigits_74 : decode cX7_scanDigits 74 = .ok (.iload_n 2, 1) := by decide +kernel
theorem dX7_scanDigits_75 : decode cX7_scanDigits 75 = .ok (.isub, 1) := by decide +kernel
theorem dX7_scanDigits_76 : decode cX7_scanDigits 76 = .ok (.iconst 4, 1) := by decide +kernel
theorem dX7_scanDigits_77 : decode cX7_scanDigits 77 = .ok (.if_icmp .le 7, 3) := by decide +kernel
theorem dX7_scanDigits_80 : decode cX7_scanDigits 80 = .ok (.iconst (-1), 1) := by decide +kernel
theorem dX7_scanDigits_81 : decode cX7_scanDigits 81 = .ok (.goto 4, 3) := by decide +kernel
theorem dX7_scanDigits_84 : decode cX7_scanDigits 84 = .ok (.iconst 2, 1) := by decide +kernel
theorem dX7_scanDigits_85 : decode cX7_scanDigits 85 = .ok (.ireturn, 1) := by decide +kernel
theorem dX7_withLetter_0 : decode cX7_withLetter 0 = .ok (.lload_n 0, 1) := by decide +kernel
theorem dX7_withLetter_1 : decode cX7_withLetter 1 = .ok (.iconst 5, 1) := by decide +kernel
theorem dX7_withLetter_2 : decode cX7_withLetter 2 = .ok (.lshl, 1) := by decide +kernel
theorem dX7_withLetter_3 : decode cX7_withLetter 3 = .ok (.iload_n 2, 1) := by decide +kernel
theorem dX7_withLetter_4 : decode cX7_withLetter 4 = .ok (.bipush 97, 2) := by decide +kernel
theorem dX7_withLetter_6 : decode cX7_withLetter 6 = .ok (.isub, 1) := by decide +kernel
theorem dX7_withLetter_7 : decode cX7_withLetter 7 = .ok (.iconst 1, 1) := by decide +kernel
theorem dX7_withLetter_8 : decode cX7_withLetter 8 = .ok (.iadd, 1) := by decide +kernel
theorem dX7_withLetter_9 : decode cX7_withLetter 9 = .ok (.i2l, 1) := by decide +kernel
theorem dX7_withLetter_10 : decode cX7_withLetter 10 = .ok (.lor, 1) := by decide +kernel
theorem dX7_withLetter_11 : decode cX7_withLetter 11 = .ok (.lreturn, 1) := by decide +kernel
theorem dX7_byteAt_0 : decode cX7_byteAt 0 = .ok (.iload_n 1, 1) := by decide +kernel
theorem dX7_byteAt_1 : decode cX7_byteAt 1 = .ok (.ifCond .lt 31, 3) := by decide +kernel
theorem dX7_byteAt_4 : decode cX7_byteAt 4 = .ok (.iload_n 1, 1) := by decide +kernel
theorem dX7_byteAt_5 : decode cX7_byteAt 5 = .ok (.aload_n 0, 1) := by decide +kernel
theorem dX7_byteAt_6 : decode cX7_byteAt 6 = .ok (.getfield 45, 3) := by decide +kernel
theorem dX7_byteAt_9 : decode cX7_byteAt 9 = .ok (.if_icmp .ge 23, 3) := by decide +kernel
theorem dX7_byteAt_12 : decode cX7_byteAt 12 = .ok (.iload_n 1, 1) := by decide +kernel
theorem dX7_byteAt_13 : decode cX7_byteAt 13 = .ok (.sipush 2000, 3) := by decide +kernel
theorem dX7_byteAt_16 : decode cX7_byteAt 16 = .ok (.if_icmp .ge 16, 3) := by decide +kernel
theorem dX7_byteAt_19 : decode cX7_byteAt 19 = .ok (.aload_n 0, 1) := by decide +kernel
theorem dX7_byteAt_20 : decode cX7_byteAt 20 = .ok (.getfield 11, 3) := by decide +kernel
theorem dX7_byteAt_23 : decode cX7_byteAt 23 = .ok (.iload_n 1, 1) := by decide +kernel
theorem dX7_byteAt_24 : decode cX7_byteAt 24 = .ok (.baload, 1) := by decide +kernel
theorem dX7_byteAt_25 : decode cX7_byteAt 25 = .ok (.sipush 255, 3) := by decide +kernel
theorem dX7_byteAt_28 : decode cX7_byteAt 28 = .ok (.iand, 1) := by decide +kernel
theorem dX7_byteAt_29 : decode cX7_byteAt 29 = .ok (.goto 4, 3) := by decide +kernel
theorem dX7_byteAt_32 : decode cX7_byteAt 32 = .ok (.iconst (-1), 1) := by decide +kernel
theorem dX7_byteAt_33 : decode cX7_byteAt 33 = .ok (.ireturn, 1) := by decide +kernel
theorem dX7_isBlank_0 : decode cX7_isBlank 0 = .ok (.iload_n 0, 1) := by decide +kernel
theorem dX7_isBlank_1 : decode cX7_isBlank 1 = .ok (.bipush 32, 2) := by decide +kernel
theorem dX7_isBlank_3 : decode cX7_isBlank 3 = .ok (.if_icmp .eq 21, 3) := by decide +kernel
theorem dX7_isBlank_6 : decode cX7_isBlank 6 = .ok (.iload_n 0, 1) := by decide +kernel
theorem dX7_isBlank_7 : decode cX7_isBlank 7 = .ok (.bipush 9, 2) := by decide +kernel
theorem dX7_isBlank_9 : decode cX7_isBlank 9 = .ok (.if_icmp .eq 15, 3) := by decide +kernel
theorem dX7_isBlank_12 : decode cX7_isBlank 12 = .ok (.iload_n 0, 1) := by decide +kernel
theorem dX7_isBlank_13 : decode cX7_isBlank 13 = .ok (.bipush 10, 2) := by decide +kernel
theorem dX7_isBlank_15 : decode cX7_isBlank 15 = .ok (.if_icmp .eq 9, 3) := by decide +kernel
theorem dX7_isBlank_18 : decode cX7_isBlank 18 = .ok (.iload_n 0, 1) := by decide +kernel
theorem dX7_isBlank_19 : decode cX7_isBlank 19 = .ok (.bipush 13, 2) := by decide +kernel
theorem dX7_isBlank_21 : decode cX7_isBlank 21 = .ok (.if_icmp .ne 7, 3) := by decide +kernel
theorem dX7_isBlank_24 : decode cX7_isBlank 24 = .ok (.iconst 1, 1) := by decide +kernel
theorem dX7_isBlank_25 : decode cX7_isBlank 25 = .ok (.goto 4, 3) := by decide +kernel
theorem dX7_isBlank_28 : decode cX7_isBlank 28 = .ok (.iconst 0, 1) := by decide +kernel
theorem dX7_isBlank_29 : decode cX7_isBlank 29 = .ok (.ireturn, 1) := by decide +kernel
theorem dX7_isLetter_0 : decode cX7_isLetter 0 = .ok (.iload_n 0, 1) := by decide +kernel
theorem dX7_isLetter_1 : decode cX7_isLetter 1 = .ok (.bipush 97, 2) := by decide +kernel
theorem dX7_isLetter_3 : decode cX7_isLetter 3 = .ok (.if_icmp .lt 13, 3) := by decide +kernel
theorem dX7_isLetter_6 : decode cX7_isLetter 6 = .ok (.iload_n 0, 1) := by decide +kernel
theorem dX7_isLetter_7 : decode cX7_isLetter 7 = .ok (.bipush 122, 2) := by decide +kernel
theorem dX7_isLetter_9 : decode cX7_isLetter 9 = .ok (.if_icmp .gt 7, 3) := by decide +kernel
theorem dX7_isLetter_12 : decode cX7_isLetter 12 = .ok (.iconst 1, 1) := by decide +kernel
theorem dX7_isLetter_13 : decode cX7_isLetter 13 = .ok (.goto 4, 3) := by decide +kernel
theorem dX7_isLetter_16 : decode cX7_isLetter 16 = .ok (.iconst 0, 1) := by decide +kernel
theorem dX7_isLetter_17 : decode cX7_isLetter 17 = .ok (.ireturn, 1) := by decide +kernel
theorem dX7_isDigit_0 : decode cX7_isDigit 0 = .ok (.iload_n 0, 1) := by decide +kernel
theorem dX7_isDigit_1 : decode cX7_isDigit 1 = .ok (.bipush 48, 2) := by decide +kernel
theorem dX7_isDigit_3 : decode cX7_isDigit 3 = .ok (.if_icmp .lt 13, 3) := by decide +kernel
theorem dX7_isDigit_6 : decode cX7_isDigit 6 = .ok (.iload_n 0, 1) := by decide +kernel
theorem dX7_isDigit_7 : decode cX7_isDigit 7 = .ok (.bipush 57, 2) := by decide +kernel
theorem dX7_isDigit_9 : decode cX7_isDigit 9 = .ok (.if_icmp .gt 7, 3) := by decide +kernel
theorem dX7_isDigit_12 : decode cX7_isDigit 12 = .ok (.iconst 1, 1) := by decide +kernel
theorem dX7_isDigit_13 : decode cX7_isDigit 13 = .ok (.goto 4, 3) := by decide +kernel
theorem dX7_isDigit_16 : decode cX7_isDigit 16 = .ok (.iconst 0, 1) := by decide +kernel
theorem dX7_isDigit_17 : decode cX7_isDigit 17 = .ok (.ireturn, 1) := by decide +kernel
theorem dX8_init_0 : decode cX8_init 0 = .ok (.aload_n 0, 1) := by decide +kernel
theorem dX8_init_1 : decode cX8_init 1 = .ok (.invokespecial 3, 3) := by decide +kernel
theorem dX8_init_4 : decode cX8_init 4 = .ok (.aload_n 0, 1) := by decide +kernel
theorem dX8_init_5 : decode cX8_init 5 = .ok (.bipush 20, 2) := by decide +kernel
theorem dX8_init_7 : decode cX8_init 7 = .ok (.newarray .int, 2) := by decide +kernel
theorem dX8_init_9 : decode cX8_init 9 = .ok (.putfield 9, 3) := by decide +kernel
theorem dX8_init_12 : decode cX8_init 12 = .ok (.aload_n 0, 1) := by decide +kernel
theorem dX8_init_13 : decode cX8_init 13 = .ok (.bipush 20, 2) := by decide +kernel
theorem dX8_init_15 : decode cX8_init 15 = .ok (.newarray .int, 2) := by decide +kernel
theorem dX8_init_17 : decode cX8_init 17 = .ok (.putfield 15, 3) := by decide +kernel
theorem dX8_init_20 : decode cX8_init 20 = .ok (.aload_n 0, 1) := by decide +kernel
theorem dX8_init_21 : decode cX8_init 21 = .ok (.bipush 20, 2) := by decide +kernel
theorem dX8_init_23 : decode cX8_init 23 = .ok (.newarray .int, 2) := by decide +kernel
theorem dX8_init_25 : decode cX8_init 25 = .ok (.putfield 18, 3) := by decide +kernel
theorem dX8_init_28 : decode cX8_init 28 = .ok (.return_, 1) := by decide +kernel
theorem dX8_lookAt_0 : decode cX8_lookAt 0 = .ok (.iconst 0, 1) := by decide +kernel
theorem dX8_lookAt_1 : decode cX8_lookAt 1 = .ok (.istore_n 3, 1) := by decide +kernel
theorem dX8_lookAt_2 : decode cX8_lookAt 2 = .ok (.iload_n 3, 1) := by decide +kernel
theorem dX8_lookAt_3 : decode cX8_lookAt 3 = .ok (.iload_n 2, 1) := by decide +kernel
theorem dX8_lookAt_4 : decode cX8_lookAt 4 = .ok (.if_icmp .ge 81, 3) := by decide +kernel
theorem dX8_lookAt_7 : decode cX8_lookAt 7 = .ok (.aload_n 0, 1) := by decide +kernel
theorem dX8_lookAt_8 : decode cX8_lookAt 8 = .ok (.getfield 18, 3) := by decide +kernel
theorem dX8_lookAt_11 : decode cX8_lookAt 11 = .ok (.iload_n 3, 1) := by decide +kernel
theorem dX8_lookAt_12 : decode cX8_lookAt 12 = .ok (.aload_n 0, 1) := by decide +kernel
theorem dX8_lookAt_13 : decode cX8_lookAt 13 = .ok (.getfield 15, 3) := by decide +kernel
theorem dX8_lookAt_16 : decode cX8_lookAt 16 = .ok (.iload_n 3, 1) := by decide +kernel
theorem dX8_lookAt_17 : decode cX8_lookAt 17 = .ok (.iaload, 1) := by decide +kernel
theorem dX8_lookAt_18 : decode cX8_lookAt 18 = .ok (.iastore, 1) := by decide +kernel
theorem dX8_lookAt_19 : decode cX8_lookAt 19 = .ok (.iconst 0, 1) := by decide +kernel
theorem dX8_lookAt_20 : decode cX8_lookAt 20 = .ok (.istore 4, 2) := by decide +kernel
theorem dX8_lookAt_22 : decode cX8_lookAt 22 = .ok (.iload 4, 2) := by decide +kernel
theorem dX8_lookAt_24 : decode cX8_lookAt 24 = .ok (.bipush 8, 2) := by decide +kernel
theorem dX8_lookAt_26 : decode cX8_lookAt 26 = .ok (.if_icmp .ge 53, 3) := by decide +kernel
theorem dX8_lookAt_29 : decode cX8_lookAt 29 = .ok (.aload_n 0, 1) := by decide +kernel
theorem dX8_lookAt_30 : decode cX8_lookAt 30 = .ok (.getfield 9, 3) := by decide +kernel
theorem dX8_lookAt_33 : decode cX8_lookAt 33 = .ok (.iload_n 3, 1) := by decide +kernel
theorem dX8_lookAt_34 : decode cX8_lookAt 34 = .ok (.iaload, 1) := by decide +kernel
theorem dX8_lookAt_35 : decode cX8_lookAt 35 = .ok (.iload 4, 2) := by decide +kernel
theorem dX8_lookAt_37 : decode cX8_lookAt 37 = .ok (.ishr, 1) := by decide +kernel
theorem dX8_lookAt_38 : decode cX8_lookAt 38 = .ok (.iconst 1, 1) := by decide +kernel
theorem dX8_lookAt_39 : decode cX8_lookAt 39 = .ok (.iand, 1) := by decide +kernel
theorem dX8_lookAt_40 : decode cX8_lookAt 40 = .ok (.iconst 1, 1) := by decide +kernel
theorem dX8_lookAt_41 : decode cX8_lookAt 41 = .ok (.if_icmp .ne 32, 3) := by decide +kernel
theorem dX8_lookAt_44 : decode cX8_lookAt 44 = .ok (.aload_n 0, 1) := by decide +kernel
theorem dX8_lookAt_45 : decode cX8_lookAt 45 = .ok (.getfield 18, 3) := by decide +kernel
theorem dX8_lookAt_48 : decode cX8_lookAt 48 = .ok (.iload_n 3, 1) := by decide +kernel
theorem dX8_lookAt_49 : decode cX8_lookAt 49 = .ok (.dup2, 1) := by decide +kernel
theorem dX8_lookAt_50 : decode cX8_lookAt 50 = .ok (.iaload, 1) := by decide +kernel
theorem dX8_lookAt_51 : decode cX8_lookAt 51 = .ok (.aload_n 1, 1) := by decide +kernel
theorem dX8_lookAt_52 : decode cX8_lookAt 52 = .ok (.iload 4, 2) := by decide +kernel
theorem dX8_lookAt_54 : decode cX8_lookAt 54 = .ok (.invokevirtual 21, 3) := by decide +kernel
theorem dX8_lookAt_57 : decode cX8_lookAt 57 = .ok (.aload_n 1, 1) := by decide +kernel
theorem dX8_lookAt_58 : decode cX8_lookAt 58 = .ok (.getfield 27, 3) := by decide +kernel
theorem dX8_lookAt_61 : decode cX8_lookAt 61 = .ok (.iload 4, 2) := by decide +kernel
theorem dX8_lookAt_63 : decode cX8_lookAt 63 = .ok (.bipush 8, 2) := by decide +kernel
theorem dX8_lookAt_65 : decode cX8_lookAt 65 = .ok (.imul, 1) := by decide +kernel
theorem dX8_lookAt_66 : decode cX8_lookAt 66 = .ok (.iload 4, 2) := by decide +kernel
theorem dX8_lookAt_68 : decode cX8_lookAt 68 = .ok (.iadd, 1) := by decide +kernel
theorem dX8_lookAt_69 : decode cX8_lookAt 69 = .ok (.iaload, 1) := by decide +kernel
theorem dX8_lookAt_70 : decode cX8_lookAt 70 = .ok (.isub, 1) := by decide +kernel
theorem dX8_lookAt_71 : decode cX8_lookAt 71 = .ok (.isub, 1) := by decide +kernel
theorem dX8_lookAt_72 : decode cX8_lookAt 72 = .ok (.iastore, 1) := by decide +kernel
theorem dX8_lookAt_73 : decode cX8_lookAt 73 = .ok (.iinc 4 1, 3) := by decide +kernel
theorem dX8_lookAt_76 : decode cX8_lookAt 76 = .ok (.goto (-54), 3) := by decide +kernel
theorem dX8_lookAt_79 : decode cX8_lookAt 79 = .ok (.iinc 3 1, 3) := by decide +kernel
theorem dX8_lookAt_82 : decode cX8_lookAt 82 = .ok (.goto (-80), 3) := by decide +kernel
theorem dX8_lookAt_85 : decode cX8_lookAt 85 = .ok (.return_, 1) := by decide +kernel
theorem dX8_agree_0 : decode cX8_agree 0 = .ok (.iconst 0, 1) := by decide +kernel
theorem dX8_agree_1 : decode cX8_agree 1 = .ok (.istore 4, 2) := by decide +kernel
theorem dX8_agree_3 : decode cX8_agree 3 = .ok (.iload 4, 2) := by decide +kernel
theorem dX8_agree_5 : decode cX8_agree 5 = .ok (.iload_n 1, 1) := by decide +kernel
theorem dX8_agree_6 : decode cX8_agree 6 = .ok (.if_icmp .ge 45, 3) := by decide +kernel
theorem dX8_agree_9 : decode cX8_agree 9 = .ok (.aload_n 0, 1) := by decide +kernel
theorem dX8_agree_10 : decode cX8_agree 10 = .ok (.getfield 9, 3) := by decide +kernel
theorem dX8_agree_13 : decode cX8_agree 13 = .ok (.iload 4, 2) := by decide +kernel
theorem dX8_agree_15 : decode cX8_agree 15 = .ok (.iaload, 1) := by decide +kernel
theorem dX8_agree_16 : decode cX8_agree 16 = .ok (.iload_n 2, 1) := by decide +kernel
theorem dX8_agree_17 : decode cX8_agree 17 = .ok (.ishr, 1) := by decide +kernel
theorem dX8_agree_18 : decode cX8_agree 18 = .ok (.iconst 1, 1) := by decide +kernel
theorem dX8_agree_19 : decode cX8_agree 19 = .ok (.iand, 1) := by decide +kernel
theorem dX8_agree_20 : decode cX8_agree 20 = .ok (.iconst 1, 1) := by decide +kernel
theorem dX8_agree_21 : decode cX8_agree 21 = .ok (.if_icmp .ne 7, 3) := by decide +kernel
theorem dX8_agree_24 : decode cX8_agree 24 = .ok (.iload_n 3, 1) := by decide +kernel
theorem dX8_agree_25 : decode cX8_agree 25 = .ok (.goto 4, 3) := by decide +kernel
theorem dX8_agree_28 : decode cX8_agree 28 = .ok (.iconst 0, 1) := by decide +kernel
theorem dX8_agree_29 : decode cX8_agree 29 = .ok (.istore 5, 2) := by decide +kernel
theorem dX8_agree_31 : decode cX8_agree 31 = .ok (.aload_n 0, 1) := by decide +kernel
theorem dX8_agree_32 : decode cX8_agree 32 = .ok (.getfield 18, 3) := by decide +kernel
theorem dX8_agree_35 : decode cX8_agree 35 = .ok (.iload 4, 2) := by decide +kernel
theorem dX8_agree_37 : decode cX8_agree 37 = .ok (.iaload, 1) := by decide +kernel
theorem dX8_agree_38 : decode cX8_agree 38 = .ok (.iload 5, 2) := by decide +kernel
theorem dX8_agree_40 : decode cX8_agree 40 = .ok (.if_icmp .eq 5, 3) := by decide +kernel
theorem dX8_agree_43 : decode cX8_agree 43 = .ok (.iconst 0, 1) := by decide +kernel
theorem dX8_agree_44 : decode cX8_agree 44 = .ok (.ireturn, 1) := by decide +kernel
theorem dX8_agree_45 : decode cX8_agree 45 = .ok (.iinc 4 1, 3) := by decide +kernel
theorem dX8_agree_48 : decode cX8_agree 48 = .ok (.goto (-45), 3) := by decide +kernel
theorem dX8_agree_51 : decode cX8_agree 51 = .ok (.iconst 1, 1) := by decide +kernel
theorem dX8_agree_52 : decode cX8_agree 52 = .ok (.ireturn, 1) := by decide +kernel
theorem dX9_init_0 : decode cX9_init 0 = .ok (.aload_n 0, 1) := by decide +kernel
theorem dX9_init_1 : decode cX9_init 1 = .ok (.invokespecial 3, 3) := by decide +kernel
theorem dX9_init_4 : decode cX9_init 4 = .ok (.aload_n 0, 1) := by decide +kernel
theorem dX9_init_5 : decode cX9_init 5 = .ok (.new 9, 3) := by decide +kernel
theorem dX9_init_8 : decode cX9_init 8 = .ok (.dup, 1) := by decide +kernel
theorem dX9_init_9 : decode cX9_init 9 = .ok (.invokespecial 11, 3) := by decide +kernel
theorem dX9_init_12 : decode cX9_init 12 = .ok (.putfield 12, 3) := by decide +kernel
theorem dX9_init_15 : decode cX9_init 15 = .ok (.aload_n 0, 1) := by decide +kernel
theorem dX9_init_16 : decode cX9_init 16 = .ok (.new 16, 3) := by decide +kernel
theorem dX9_init_19 : decode cX9_init 19 = .ok (.dup, 1) := by decide +kernel
theorem dX9_init_20 : decode cX9_init 20 = .ok (.invokespecial 18, 3) := by decide +kernel
theorem dX9_init_23 : decode cX9_init 23 = .ok (.putfield 19, 3) := by decide +kernel
theorem dX9_init_26 : decode cX9_init 26 = .ok (.aload_n 0, 1) := by decide +kernel
theorem dX9_init_27 : decode cX9_init 27 = .ok (.new 23, 3) := by decide +kernel
theorem dX9_init_30 : decode cX9_init 30 = .ok (.dup, 1) := by decide +kernel
theorem dX9_init_31 : decode cX9_init 31 = .ok (.invokespecial 25, 3) := by decide +kernel
theorem dX9_init_34 : decode cX9_init 34 = .ok (.putfield 26, 3) := by decide +kernel
theorem dX9_init_37 : decode cX9_init 37 = .ok (.aload_n 0, 1) := by decide +kernel
theorem dX9_init_38 : decode cX9_init 38 = .ok (.new 23, 3) := by decide +kernel
theorem dX9_init_41 : decode cX9_init 41 = .ok (.dup, 1) := by decide +kernel
theorem dX9_init_42 : decode cX9_init 42 = .ok (.invokespecial 25, 3) := by decide +kernel
theorem dX9_init_45 : decode cX9_init 45 = .ok (.putfield 30, 3) := by decide +kernel
theorem dX9_init_48 : decode cX9_init 48 = .ok (.aload_n 0, 1) := by decide +kernel
theorem dX9_init_49 : decode cX9_init 49 = .ok (.new 33, 3) := by decide +kernel
theorem dX9_init_52 : decode cX9_init 52 = .ok (.dup, 1) := by decide +kernel
theorem dX9_init_53 : decode cX9_init 53 = .ok (.invokespecial 35, 3) := by decide +kernel
theorem dX9_init_56 : decode cX9_init 56 = .ok (.putfield 36, 3) := by decide +kernel
theorem dX9_init_59 : decode cX9_init 59 = .ok (.aload_n 0, 1) := by decide +kernel
theorem dX9_init_60 : decode cX9_init 60 = .ok (.iconst 3, 1) := by decide +kernel
theorem dX9_init_61 : decode cX9_init 61 = .ok (.anewarray 33, 3) := by decide +kernel
theorem dX9_init_64 : decode cX9_init 64 = .ok (.putfield 40, 3) := by decide +kernel
theorem dX9_init_67 : decode cX9_init 67 = .ok (.aload_n 0, 1) := by decide +kernel
theorem dX9_init_68 : decode cX9_init 68 = .ok (.iconst 3, 1) := by decide +kernel
theorem dX9_init_69 : decode cX9_init 69 = .ok (.newarray .boolean, 2) := by decide +kernel
theorem dX9_init_71 : decode cX9_init 71 = .ok (.putfield 44, 3) := by decide +kernel
theorem dX9_init_74 : decode cX9_init 74 = .ok (.aload_n 0, 1) := by decide +kernel
theorem dX9_init_75 : decode cX9_init 75 = .ok (.new 48, 3) := by decide +kernel
theorem dX9_init_78 : decode cX9_init 78 = .ok (.dup, 1) := by decide +kernel
theorem dX9_init_79 : decode cX9_init 79 = .ok (.invokespecial 50, 3) := by decide +kernel
theorem dX9_init_82 : decode cX9_init 82 = .ok (.putfield 51, 3) := by decide +kernel
theorem dX9_init_85 : decode cX9_init 85 = .ok (.aload_n 0, 1) := by decide +kernel
theorem dX9_init_86 : decode cX9_init 86 = .ok (.new 55, 3) := by decide +kernel
theorem dX9_init_89 : decode cX9_init 89 = .ok (.dup, 1) := by decide +kernel
theorem dX9_init_90 : decode cX9_init 90 = .ok (.invokespecial 57, 3) := by decide +kernel
theorem dX9_init_93 : decode cX9_init 93 = .ok (.putfield 58, 3) := by decide +kernel
theorem dX9_init_96 : decode cX9_init 96 = .ok (.aload_n 0, 1) := by decide +kernel
theorem dX9_init_97 : decode cX9_init 97 = .ok (.new 62, 3) := by decide +kernel
theorem dX9_init_100 : decode cX9_init 100 = .ok (.dup, 1) := by decide +kernel
theorem dX9_init_101 : decode cX9_init 101 = .ok (.invokespecial 64, 3) := by decide +kernel
theorem dX9_init_104 : decode cX9_init 104 = .ok (.putfield 65, 3) := by decide +kernel
theorem dX9_init_107 : decode cX9_init 107 = .ok (.aload_n 0, 1) := by decide +kernel
theorem dX9_init_108 : decode cX9_init 108 = .ok (.new 69, 3) := by decide +kernel
theorem dX9_init_111 : decode cX9_init 111 = .ok (.dup, 1) := by decide +kernel
theorem dX9_init_112 : decode cX9_init 112 = .ok (.invokespecial 71, 3) := by decide +kernel
theorem dX9_init_115 : decode cX9_init 115 = .ok (.putfield 72, 3) := by decide +kernel
theorem dX9_init_118 : decode cX9_init 118 = .ok (.aload_n 0, 1) := by decide +kernel
theorem dX9_init_119 : decode cX9_init 119 = .ok (.bipush 8, 2) := by decide +kernel
theorem dX9_init_121 : decode cX9_init 121 = .ok (.newarray .int, 2) := by decide +kernel
theorem dX9_init_123 : decode cX9_init 123 = .ok (.putfield 76, 3) := by decide +kernel
theorem dX9_init_126 : decode cX9_init 126 = .ok (.aload_n 0, 1) := by decide +kernel
theorem dX9_init_127 : decode cX9_init 127 = .ok (.iconst 1, 1) := by decide +kernel
theorem dX9_init_128 : decode cX9_init 128 = .ok (.newarray .int, 2) := by decide +kernel
theorem dX9_init_130 : decode cX9_init 130 = .ok (.putfield 80, 3) := by decide +kernel
theorem dX9_init_133 : decode cX9_init 133 = .ok (.aload_n 0, 1) := by decide +kernel
theorem dX9_init_134 : decode cX9_init 134 = .ok (.sipush 256, 3) := by decide +kernel
theorem dX9_init_137 : decode cX9_init 137 = .ok (.newarray .int, 2) := by decide +kernel
theorem dX9_init_139 : decode cX9_init 139 = .ok (.putfield 83, 3) := by decide +kernel
theorem dX9_init_142 : decode cX9_init 142 = .ok (.aload_n 0, 1) := by decide +kernel
theorem dX9_init_143 : decode cX9_init 143 = .ok (.sipush 256, 3) := by decide +kernel
theorem dX9_init_146 : decode cX9_init 146 = .ok (.newarray .int, 2) := by decide +kernel
theorem dX9_init_148 : decode cX9_init 148 = .ok (.putfield 86, 3) := by decide +kernel
theorem dX9_init_151 : decode cX9_init 151 = .ok (.return_, 1) := by decide +kernel
theorem dX9_feed_0 : decode cX9_feed 0 = .ok (.aload_n 0, 1) := by decide +kernel
theorem dX9_feed_1 : decode cX9_feed 1 = .ok (.getfield 12, 3) := by decide +kernel
theorem dX9_feed_4 : decode cX9_feed 4 = .ok (.bipush 20, 2) := by decide +kernel
theorem dX9_feed_6 : decode cX9_feed 6 = .ok (.invokevirtual 89, 3) := by decide +kernel
theorem dX9_feed_9 : decode cX9_feed 9 = .ok (.ifCond .ne 5, 3) := by decide +kernel
theorem dX9_feed_12 : decode cX9_feed 12 = .ok (.iconst (-1), 1) := by decide +kernel
theorem dX9_feed_13 : decode cX9_feed 13 = .ok (.ireturn, 1) := by decide +kernel
theorem dX9_feed_14 : decode cX9_feed 14 = .ok (.aload_n 0, 1) := by decide +kernel
theorem dX9_feed_15 : decode cX9_feed 15 = .ok (.getfield 12, 3) := by decide +kernel
theorem dX9_feed_18 : decode cX9_feed 18 = .ok (.iload_n 1, 1) := by decide +kernel
theorem dX9_feed_19 : decode cX9_feed 19 = .ok (.invokevirtual 93, 3) := by decide +kernel
theorem dX9_feed_22 : decode cX9_feed 22 = .ok (.aload_n 0, 1) := by decide +kernel
theorem dX9_feed_23 : decode cX9_feed 23 = .ok (.getfield 12, 3) := by decide +kernel
theorem dX9_feed_26 : decode cX9_feed 26 = .ok (.iload_n 2, 1) := by decide +kernel
theorem dX9_feed_27 : decode cX9_feed 27 = .ok (.invokevirtual 93, 3) := by decide +kernel
theorem dX9_feed_30 : decode cX9_feed 30 = .ok (.aload_n 0, 1) := by decide +kernel
theorem dX9_feed_31 : decode cX9_feed 31 = .ok (.getfield 12, 3) := by decide +kernel
theorem dX9_feed_34 : decode cX9_feed 34 = .ok (.iload_n 3, 1) := by decide +kernel
theorem dX9_feed_35 : decode cX9_feed 35 = .ok (.invokevirtual 93, 3) := by decide +kernel
theorem dX9_feed_38 : decode cX9_feed 38 = .ok (.aload_n 0, 1) := by decide +kernel
theorem dX9_feed_39 : decode cX9_feed 39 = .ok (.getfield 12, 3) := by decide +kernel
theorem dX9_feed_42 : decode cX9_feed 42 = .ok (.iload 4, 2) := by decide +kernel
theorem dX9_feed_44 : decode cX9_feed 44 = .ok (.invokevirtual 93, 3) := by decide +kernel
theorem dX9_feed_47 : decode cX9_feed 47 = .ok (.aload_n 0, 1) := by decide +kernel
theorem dX9_feed_48 : decode cX9_feed 48 = .ok (.getfield 12, 3) := by decide +kernel
theorem dX9_feed_51 : decode cX9_feed 51 = .ok (.iload 5, 2) := by decide +kernel
theorem dX9_feed_53 : decode cX9_feed 53 = .ok (.invokevirtual 93, 3) := by decide +kernel
theorem dX9_feed_56 : decode cX9_feed 56 = .ok (.aload_n 0, 1) := by decide +kernel
theorem dX9_feed_57 : decode cX9_feed 57 = .ok (.getfield 12, 3) := by decide +kernel
theorem dX9_feed_60 : decode cX9_feed 60 = .ok (.getfield 97, 3) := by decide +kernel
theorem dX9_feed_63 : decode cX9_feed 63 = .ok (.ireturn, 1) := by decide +kernel
theorem dX9_back_0 : decode cX9_back 0 = .ok (.iload_n 1, 1) := by decide +kernel
theorem dX9_back_1 : decode cX9_back 1 = .ok (.ifCond .lt 14, 3) := by decide +kernel
theorem dX9_back_4 : decode cX9_back 4 = .ok (.iload_n 1, 1) := by decide +kernel
theorem dX9_back_5 : decode cX9_back 5 = .ok (.aload_n 0, 1) := by decide +kernel
theorem dX9_back_6 : decode cX9_back 6 = .ok (.getfield 12, 3) := by decide +kernel
theorem dX9_back_9 : decode cX9_back 9 = .ok (.getfield 97, 3) := by decide +kernel
theorem dX9_back_12 : decode cX9_back 12 = .ok (.if_icmp .le 5, 3) := by decide +kernel
theorem dX9_back_15 : decode cX9_back 15 = .ok (.iconst (-1), 1) := by decide +kernel
theorem dX9_back_16 : decode cX9_back 16 = .ok (.ireturn, 1) := by decide +kernel
theorem dX9_back_17 : decode cX9_back 17 = .ok (.aload_n 0, 1) := by decide +kernel
theorem dX9_back_18 : decode cX9_back 18 = .ok (.getfield 12, 3) := by decide +kernel
theorem dX9_back_21 : decode cX9_back 21 = .ok (.dup, 1) := by decide +kernel
theorem dX9_back_22 : decode cX9_back 22 = .ok (.getfield 97, 3) := by decide +kernel
theorem dX9_back_25 : decode cX9_back 25 = .ok (.iload_n 1, 1) := by decide +kernel
theorem dX9_back_26 : decode cX9_back 26 = .ok (.isub, 1) := by decide +kernel
theorem dX9_back_27 : decode cX9_back 27 = .ok (.putfield 97, 3) := by decide +kernel
theorem dX9_back_30 : decode cX9_back 30 = .ok (.aload_n 0, 1) := by decide +kernel
theorem dX9_back_31 : decode cX9_back 31 = .ok (.getfield 12, 3) := by decide +kernel
theorem dX9_back_34 : decode cX9_back 34 = .ok (.getfield 97, 3) := by decide +kernel
theorem dX9_back_37 : decode cX9_back 37 = .ok (.ireturn, 1) := by decide +kernel
theorem dX9_read_0 : decode cX9_read 0 = .ok (.aload_n 0, 1) := by decide +kernel
theorem dX9_read_1 : decode cX9_read 1 = .ok (.getfield 12, 3) := by decide +kernel
theorem dX9_read_4 : decode cX9_read 4 = .ok (.invokevirtual 101, 3) := by decide +kernel
theorem dX9_read_7 : decode cX9_read 7 = .ok (.aload_n 0, 1) := by decide +kernel
theorem dX9_read_8 : decode cX9_read 8 = .ok (.getfield 19, 3) := by decide +kernel
theorem dX9_read_11 : decode cX9_read 11 = .ok (.aload_n 0, 1) := by decide +kernel
theorem dX9_read_12 : decode cX9_read 12 = .ok (.getfield 12, 3) := by decide +kernel
theorem dX9_read_15 : decode cX9_read 15 = .ok (.aload_n 0, 1) := by decide +kernel
theorem dX9_read_16 : decode cX9_read 16 = .ok (.getfield 30, 3) := by decide +kernel
theorem dX9_read_19 : decode cX9_read 19 = .ok (.invokevirtual 104, 3) := by decide +kernel
theorem dX9_read_22 : decode cX9_read 22 = .ok (.aload_n 0, 1) := by decide +kernel
theorem dX9_read_23 : decode cX9_read 23 = .ok (.getfield 12, 3) := by decide +kernel
theorem dX9_read_26 : decode cX9_read 26 = .ok (.iconst 0, 1) := by decide +kernel
theorem dX9_read_27 : decode cX9_read 27 = .ok (.putfield 97, 3) := by decide +kernel
theorem dX9_read_30 : decode cX9_read 30 = .ok (.aload_n 0, 1) := by decide +kernel
theorem dX9_read_31 : decode cX9_read 31 = .ok (.getfield 19, 3) := by decide +kernel
theorem dX9_read_34 : decode cX9_read 34 = .ok (.getfield 108, 3) := by decide +kernel
theorem dX9_read_37 : decode cX9_read 37 = .ok (.ifCond .ne 25, 3) := by decide +kernel
theorem dX9_read_40 : decode cX9_read 40 = .ok (.aload_n 0, 1) := by decide +kernel
theorem dX9_read_41 : decode cX9_read 41 = .ok (.getfield 26, 3) := by decide +kernel
theorem dX9_read_44 : decode cX9_read 44 = .ok (.astore_n 1, 1) := by decide +kernel
theorem dX9_read_45 : decode cX9_read 45 = .ok (.aload_n 0, 1) := by decide +kernel
theorem dX9_read_46 : decode cX9_read 46 = .ok (.aload_n 0, 1) := by decide +kernel
theorem dX9_read_47 : decode cX9_read 47 = .ok (.getfield 30, 3) := by decide +kernel
theorem dX9_read_50 : decode cX9_read 50 = .ok (.putfield 26, 3) := by decide +kernel
theorem dX9_read_53 : decode cX9_read 53 = .ok (.aload_n 0, 1) := by decide +kernel
theorem dX9_read_54 : decode cX9_read 54 = .ok (.aload_n 1, 1) := by decide +kernel
theorem dX9_read_55 : decode cX9_read 55 = .ok (.putfield 30, 3) := by decide +kernel
theorem dX9_read_58 : decode cX9_read 58 = .ok (.aload_n 0, 1) := by decide +kernel
theorem dX9_read_59 : decode cX9_read 59 = .ok (.invokevirtual 111, 3) := by decide +kernel
theorem dX9_read_62 : decode cX9_read 62 = .ok (.aload_n 0, 1) := by decide +kernel
theorem dX9_read_63 : decode cX9_read 63 = .ok (.getfield 19, 3) := by decide +kernel
theorem dX9_read_66 : decode cX9_read 66 = .ok (.getfield 108, 3) := by decide +kernel
theorem dX9_read_69 : decode cX9_read 69 = .ok (.ireturn, 1) := by decide +kernel
theorem dX9_beginAnew_0 : decode cX9_beginAnew 0 = .ok (.aload_n 0, 1) := by decide +kernel
theorem dX9_beginAnew_1 : decode cX9_beginAnew 1 = .ok (.getfield 36, 3) := by decide +kernel
theorem dX9_beginAnew_4 : decode cX9_beginAnew 4 = .ok (.invokevirtual 114, 3) := by decide +kernel
theorem dX9_beginAnew_7 : decode cX9_beginAnew 7 = .ok (.iconst 0, 1) := by decide +kernel
theorem dX9_beginAnew_8 : decode cX9_beginAnew 8 = .ok (.istore_n 1, 1) := by decide +kernel
theorem dX9_beginAnew_9 : decode cX9_beginAnew 9 = .ok (.iload_n 1, 1) := by decide +kernel
theorem dX9_beginAnew_10 : decode cX9_beginAnew 10 = .ok (.aload_n 0, 1) := by decide +kernel
theorem dX9_beginAnew_11 : decode cX9_beginAnew 11 = .ok (.getfield 26, 3) := by decide +kernel
theorem dX9_beginAnew_14 : decode cX9_beginAnew 14 = .ok (.getfield 117, 3) := by decide +kernel
theorem dX9_beginAnew_17 : decode cX9_beginAnew 17 = .ok (.if_icmp .ge 32, 3) := by decide +kernel
theorem dX9_beginAnew_20 : decode cX9_beginAnew 20 = .ok (.aload_n 0, 1) := by decide +kernel
theorem dX9_beginAnew_21 : decode cX9_beginAnew 21 = .ok (.getfield 36, 3) := by decide +kernel
theorem dX9_beginAnew_24 : decode cX9_beginAnew 24 = .ok (.getfield 120, 3) := by decide +kernel
theorem dX9_beginAnew_27 : decode cX9_beginAnew 27 = .ok (.iload_n 1, 1) := by decide +kernel
theorem dX9_beginAnew_28 : decode cX9_beginAnew 28 = .ok (.bipush 8, 2) := by decide +kernel
theorem dX9_beginAnew_30 : decode cX9_beginAnew 30 = .ok (.imul, 1) := by decide +kernel
theorem dX9_beginAnew_31 : decode cX9_beginAnew 31 = .ok (.iload_n 1, 1) := by decide +kernel
theorem dX9_beginAnew_32 : decode cX9_beginAnew 32 = .ok (.iadd, 1) := by decide +kernel
theorem dX9_beginAnew_33 : decode cX9_beginAnew 33 = .ok (.aload_n 0, 1) := by decide +kernel
theorem dX9_beginAnew_34 : decode cX9_beginAnew 34 = .ok (.getfield 26, 3) := by decide +kernel
theorem dX9_beginAnew_37 : decode cX9_beginAnew 37 = .ok (.getfield 123, 3) := by decide +kernel
theorem dX9_beginAnew_40 : decode cX9_beginAnew 40 = .ok (.iload_n 1, 1) := by decide +kernel
theorem dX9_beginAnew_41 : decode cX9_beginAnew 41 = .ok (.iaload, 1) := by decide +kernel
theorem dX9_beginAnew_42 : decode cX9_beginAnew 42 = .ok (.iastore, 1) := by decide +kernel
theorem dX9_beginAnew_43 : decode cX9_beginAnew 43 = .ok (.iinc 1 1, 3) := by decide +kernel
theorem dX9_beginAnew_46 : decode cX9_beginAnew 46 = .ok (.goto (-37), 3) := by decide +kernel
theorem dX9_beginAnew_49 : decode cX9_beginAnew 49 = .ok (.aload_n 0, 1) := by decide +kernel
theorem dX9_beginAnew_50 : decode cX9_beginAnew 50 = .ok (.getfield 51, 3) := by decide +kernel
theorem dX9_beginAnew_53 : decode cX9_beginAnew 53 = .ok (.iconst 0, 1) := by decide +kernel
theorem dX9_beginAnew_54 : decode cX9_beginAnew 54 = .ok (.putfield 124, 3) := by decide +kernel
theorem dX9_beginAnew_57 : decode cX9_beginAnew 57 = .ok (.aload_n 0, 1) := by decide +kernel
theorem dX9_beginAnew_58 : decode cX9_beginAnew 58 = .ok (.getfield 58, 3) := by decide +kernel
theorem dX9_beginAnew_61 : decode cX9_beginAnew 61 = .ok (.iconst 0, 1) := by decide +kernel
theorem dX9_beginAnew_62 : decode cX9_beginAnew 62 = .ok (.putfield 127, 3) := by decide +kernel
theorem dX9_beginAnew_65 : decode cX9_beginAnew 65 = .ok (.iconst 0, 1) := by decide +kernel
theorem dX9_beginAnew_66 : decode cX9_beginAnew 66 = .ok (.istore_n 1, 1) := by decide +kernel
theorem dX9_beginAnew_67 : decode cX9_beginAnew 67 = .ok (.iload_n 1, 1) := by decide +kernel
theorem dX9_beginAnew_68 : decode cX9_beginAnew 68 = .ok (.iconst 3, 1) := by decide +kernel
theorem dX9_beginAnew_69 : decode cX9_beginAnew 69 = .ok (.if_icmp .ge 16, 3) := by decide +kernel
theorem dX9_beginAnew_72 : decode cX9_beginAnew 72 = .ok (.aload_n 0, 1) := by decide +kernel
theorem dX9_beginAnew_73 : decode cX9_beginAnew 73 = .ok (.getfield 44, 3) := by decide +kernel
theorem dX9_beginAnew_76 : decode cX9_beginAnew 76 = .ok (.iload_n 1, 1) := by decide +kernel
theorem dX9_beginAnew_77 : decode cX9_beginAnew 77 = .ok (.iconst 0, 1) := by decide +kernel
theorem dX9_beginAnew_78 : decode cX9_beginAnew 78 = .ok (.bastore, 1) := by decide +kernel
theorem dX9_beginAnew_79 : decode cX9_beginAnew 79 = .ok (.iinc 1 1, 3) := by decide +kernel
theorem dX9_beginAnew_82 : decode cX9_beginAnew 82 = .ok (.goto (-15), 3) := by decide +kernel
theorem dX9_beginAnew_85 : decode cX9_beginAnew 85 = .ok (.return_, 1) := by decide +kernel
theorem dX9_place_0 : decode cX9_place 0 = .ok (.aload_n 0, 1) := by decide +kernel
theorem dX9_place_1 : decode cX9_place 1 = .ok (.getfield 19, 3) := by decide +kernel
theorem dX9_place_4 : decode cX9_place 4 = .ok (.getfield 108, 3) := by decide +kernel
theorem dX9_place_7 : decode cX9_place 7 = .ok (.ifCond .ne 7, 3) := by decide +kernel
theorem dX9_place_10 : decode cX9_place 10 = .ok (.iconst (-1), 1) := by decide +kernel
theorem dX9_place_11 : decode cX9_place 11 = .ok (.goto 10, 3) := by decide +kernel
theorem dX9_place_14 : decode cX9_place 14 = .ok (.aload_n 0, 1) := by decide +kernel
theorem dX9_place_15 : decode cX9_place 15 = .ok (.getfield 19, 3) := by decide +kernel
theorem dX9_place_18 : decode cX9_place 18 = .ok (.getfield 128, 3) := by decide +kernel
theorem dX9_place_21 : decode cX9_place 21 = .ok (.ireturn, 1) := by decide +kernel
theorem dX9_isMan_0 : decode cX9_isMan 0 = .ok (.iload_n 1, 1) := by decide +kernel
theorem dX9_isMan_1 : decode cX9_isMan 1 = .ok (.ifCond .lt 18, 3) := by decide +kernel
theorem dX9_isMan_4 : decode cX9_isMan 4 = .ok (.iload_n 1, 1) := by decide +kernel
theorem dX9_isMan_5 : decode cX9_isMan 5 = .ok (.aload_n 0, 1) := by decide +kernel
theorem dX9_isMan_6 : decode cX9_isMan 6 = .ok (.getfield 26, 3) := by decide +kernel
theorem dX9_isMan_9 : decode cX9_isMan 9 = .ok (.getfield 117, 3) := by decide +kernel
theorem dX9_isMan_12 : decode cX9_isMan 12 = .ok (.if_icmp .ge 7, 3) := by decide +kernel
theorem dX9_isMan_15 : decode cX9_isMan 15 = .ok (.iconst 1, 1) := by decide +kernel
theorem dX9_isMan_16 : decode cX9_isMan 16 = .ok (.goto 4, 3) := by decide +kernel
theorem dX9_isMan_19 : decode cX9_isMan 19 = .ok (.iconst 0, 1) := by decide +kernel
theorem dX9_isMan_20 : decode cX9_isMan 20 = .ok (.ireturn, 1) := by decide +kernel
theorem dX9_isDeed_0 : decode cX9_isDeed 0 = .ok (.iload_n 1, 1) := by decide +kernel
theorem dX9_isDeed_1 : decode cX9_isDeed 1 = .ok (.ifCond .lt 18, 3) := by decide +kernel
theorem dX9_isDeed_4 : decode cX9_isDeed 4 = .ok (.iload_n 1, 1) := by decide +kernel
theorem dX9_isDeed_5 : decode cX9_isDeed 5 = .ok (.aload_n 0, 1) := by decide +kernel
theorem dX9_isDeed_6 : decode cX9_isDeed 6 = .ok (.getfield 26, 3) := by decide +kernel
theorem dX9_isDeed_9 : decode cX9_isDeed 9 = .ok (.getfield 131, 3) := by decide +kernel
theorem dX9_isDeed_12 : decode cX9_isDeed 12 = .ok (.if_icmp .ge 7, 3) := by decide +kernel
theorem dX9_isDeed_15 : decode cX9_isDeed 15 = .ok (.iconst 1, 1) := by decide +kernel
theorem dX9_isDeed_16 : decode cX9_isDeed 16 = .ok (.goto 4, 3) := by decide +kernel
theorem dX9_isDeed_19 : decode cX9_isDeed 19 = .ok (.iconst 0, 1) := by decide +kernel
theorem dX9_isDeed_20 : decode cX9_isDeed 20 = .ok (.ireturn, 1) := by decide +kernel
theorem dX9_areTwoMen_0 : decode cX9_areTwoMen 0 = .ok (.aload_n 0, 1) := by decide +kernel
theorem dX9_areTwoMen_1 : decode cX9_areTwoMen 1 = .ok (.iload_n 1, 1) := by decide +kernel
theorem dX9_areTwoMen_2 : decode cX9_areTwoMen 2 = .ok (.invokevirtual 134, 3) := by decide +kernel
theorem dX9_areTwoMen_5 : decode cX9_areTwoMen 5 = .ok (.ifCond .eq 20, 3) := by decide +kernel
theorem dX9_areTwoMen_8 : decode cX9_areTwoMen 8 = .ok (.aload_n 0, 1) := by decide +kernel
theorem dX9_areTwoMen_9 : decode cX9_areTwoMen 9 = .ok (.iload_n 2, 1) := by decide +kernel
theorem dX9_areTwoMen_10 : decode cX9_areTwoMen 10 = .ok (.invokevirtual 134, 3) := by decide +kernel
theorem dX9_areTwoMen_13 : decode cX9_areTwoMen 13 = .ok (.ifCond .eq 12, 3) := by decide +kernel
theorem dX9_areTwoMen_16 : decode cX9_areTwoMen 16 = .ok (.iload_n 1, 1) := by decide +kernel
theorem dX9_areTwoMen_17 : decode cX9_areTwoMen 17 = .ok (.iload_n 2, 1) := by decide +kernel
theorem dX9_areTwoMen_18 : decode cX9_areTwoMen 18 = .ok (.if_icmp .eq 7, 3) := by decide +kernel
theorem dX9_areTwoMen_21 : decode cX9_areTwoMen 21 = .ok (.iconst 1, 1) := by decide +kernel
theorem dX9_areTwoMen_22 : decode cX9_areTwoMen 22 = .ok (.goto 4, 3) := by decide +kernel
theorem dX9_areTwoMen_25 : decode cX9_areTwoMen 25 = .ok (.iconst 0, 1) := by decide +kernel
theorem dX9_areTwoMen_26 : decode cX9_areTwoMen 26 = .ok (.ireturn, 1) := by decide +kernel
theorem dX9_isEntry_0 : decode cX9_isEntry 0 = .ok (.iload_n 1, 1) := by decide +kernel
theorem dX9_isEntry_1 : decode cX9_isEntry 1 = .ok (.ifCond .lt 18, 3) := by decide +kernel
theorem dX9_isEntry_4 : decode cX9_isEntry 4 = .ok (.iload_n 1, 1) := by decide +kernel
theorem dX9_isEntry_5 : decode cX9_isEntry 5 = .ok (.aload_n 0, 1) := by decide +kernel
theorem dX9_isEntry_6 : decode cX9_isEntry 6 = .ok (.getfield 36, 3) := by decide +kernel
theorem dX9_isEntry_9 : decode cX9_isEntry 9 = .ok (.getfield 137, 3) := by decide +kernel
theorem dX9_isEntry_12 : decode cX9_isEntry 12 = .ok (.if_icmp .ge 7, 3) := by decide +kernel
theorem dX9_isEntry_15 : decode cX9_isEntry 15 = .ok (.iconst 1, 1) := by decide +kernel
theorem dX9_isEntry_16 : decode cX9_isEntry 16 = .ok (.goto 4, 3) := by decide +kernel
theorem dX9_isEntry_19 : decode cX9_isEntry 19 = .ok (.iconst 0, 1) := by decide +kernel
theorem dX9_isEntry_20 : decode cX9_isEntry 20 = .ok (.ireturn, 1) := by decide +kernel
theorem dX9_man_0 : decode cX9_man 0 = .ok (.aload_n 0, 1) := by decide +kernel
theorem dX9_man_1 : decode cX9_man 1 = .ok (.iload_n 1, 1) := by decide +kernel
theorem dX9_man_2 : decode cX9_man 2 = .ok (.invokevirtual 134, 3) := by decide +kernel
theorem dX9_man_5 : decode cX9_man 5 = .ok (.ifCond .ne 5, 3) := by decide +kernel
theorem dX9_man_8 : decode cX9_man 8 = .ok (.iconst (-1), 1) := by decide +kernel
theorem dX9_man_9 : decode cX9_man 9 = .ok (.ireturn, 1) := by decide +kernel
theorem dX9_man_10 : decode cX9_man 10 = .ok (.iload_n 2, 1) := by decide +kernel
theorem dX9_man_11 : decode cX9_man 11 = .ok (.tableswitch 142 0 6 #[41, 50, 65, 74, 83, 112, 118], 41) := by decide +kernel
theorem dX9_man_52 : decode cX9_man 52 = .ok (.aload_n 0, 1) := by decide +kernel
theorem dX9_man_53 : decode cX9_man 53 = .ok (.getfield 36, 3) := by decide +kernel
theorem dX9_man_56 : decode cX9_man 56 = .ok (.iload_n 1, 1) := by decide +kernel
theorem dX9_man_57 : decode cX9_man 57 = .ok (.invokevirtual 140, 3) := by decide +kernel
theorem dX9_man_60 : decode cX9_man 60 = .ok (.ireturn, 1) := by decide +kernel
theorem dX9_man_61 : decode cX9_man 61 = .ok (.aload_n 0, 1) := by decide +kernel
theorem dX9_man_62 : decode cX9_man 62 = .ok (.getfield 36, 3) := by decide +kernel
theorem dX9_man_65 : decode cX9_man 65 = .ok (.getfield 120, 3) := by decide +kernel
theorem dX9_man_68 : decode cX9_man 68 = .ok (.iload_n 1, 1) := by decide +kernel
theorem dX9_man_69 : decode cX9_man 69 = .ok (.bipush 8, 2) := by decide +kernel
theorem dX9_man_71 : decode cX9_man 71 = .ok (.imul, 1) := by decide +kernel
theorem dX9_man_72 : decode cX9_man 72 = .ok (.iload_n 1, 1) := by decide +kernel
theorem dX9_man_73 : decode cX9_man 73 = .ok (.iadd, 1) := by decide +kernel
theorem dX9_man_74 : decode cX9_man 74 = .ok (.iaload, 1) := by decide +kernel
theorem dX9_man_75 : decode cX9_man 75 = .ok (.ireturn, 1) := by decide +kernel
theorem dX9_man_76 : decode cX9_man 76 = .ok (.aload_n 0, 1) := by decide +kernel
theorem dX9_man_77 : decode cX9_man 77 = .ok (.getfield 36, 3) := by decide +kernel
theorem dX9_man_80 : decode cX9_man 80 = .ok (.iload_n 1, 1) := by decide +kernel
theorem dX9_man_81 : decode cX9_man 81 = .ok (.invokevirtual 144, 3) := by decide +kernel
theorem dX9_man_84 : decode cX9_man 84 = .ok (.ireturn, 1) := by decide +kernel
theorem dX9_man_85 : decode cX9_man 85 = .ok (.aload_n 0, 1) := by decide +kernel
theorem dX9_man_86 : decode cX9_man 86 = .ok (.getfield 36, 3) := by decide +kernel
theorem dX9_man_89 : decode cX9_man 89 = .ok (.iload_n 1, 1) := by decide +kernel
theorem dX9_man_90 : decode cX9_man 90 = .ok (.invokevirtual 147, 3) := by decide +kernel
theorem dX9_man_93 : decode cX9_man 93 = .ok (.ireturn, 1) := by decide +kernel
theorem dX9_man_94 : decode cX9_man 94 = .ok (.aload_n 0, 1) := by decide +kernel
theorem dX9_man_95 : decode cX9_man 95 = .ok (.iload_n 1, 1) := by decide +kernel
theorem dX9_man_96 : decode cX9_man 96 = .ok (.aload_n 0, 1) := by decide +kernel
theorem dX9_man_97 : decode cX9_man 97 = .ok (.getfield 36, 3) := by decide +kernel
theorem dX9_man_100 : decode cX9_man 100 = .ok (.iload_n 1, 1) := by decide +kernel
theorem dX9_man_101 : decode cX9_man 101 = .ok (.invokevirtual 140, 3) := by decide +kernel
theorem dX9_man_104 : decode cX9_man 104 = .ok (.aload_n 0, 1) := by decide +kernel
theorem dX9_man_105 : decode cX9_man 105 = .ok (.getfield 36, 3) := by decide +kernel
theorem dX9_man_108 : decode cX9_man 108 = .ok (.getfield 150, 3) := by decide +kernel
theorem dX9_man_111 : decode cX9_man 111 = .ok (.invokevirtual 153, 3) := by decide +kernel
theorem dX9_man_114 : decode cX9_man 114 = .ok (.ifCond .eq 7, 3) := by decide +kernel
theorem dX9_man_117 : decode cX9_man 117 = .ok (.iconst 1, 1) := by decide +kernel
theorem dX9_man_118 : decode cX9_man 118 = .ok (.goto 4, 3) := by decide +kernel
theorem dX9_man_121 : decode cX9_man 121 = .ok (.iconst 0, 1) := by decide +kernel
theorem dX9_man_122 : decode cX9_man 122 = .ok (.ireturn, 1) := by decide +kernel
theorem dX9_man_123 : decode cX9_man 123 = .ok (.aload_n 0, 1) := by decide +kernel
theorem dX9_man_124 : decode cX9_man 124 = .ok (.iload_n 1, 1) := by decide +kernel
theorem dX9_man_125 : decode cX9_man 125 = .ok (.invokevirtual 157, 3) := by decide +kernel
theorem dX9_man_128 : decode cX9_man 128 = .ok (.ireturn, 1) := by decide +kernel
theorem dX9_man_129 : decode cX9_man 129 = .ok (.aload_n 0, 1) := by decide +kernel
theorem dX9_man_130 : decode cX9_man 130 = .ok (.getfield 36, 3) := by decide +kernel
theorem dX9_man_133 : decode cX9_man 133 = .ok (.iload_n 1, 1) := by decide +kernel
theorem dX9_man_134 : decode cX9_man 134 = .ok (.invokevirtual 160, 3) := by decide +kernel
theorem dX9_man_137 : decode cX9_man 137 = .ok (.aload_n 0, 1) := by decide +kernel
theorem dX9_man_138 : decode cX9_man 138 = .ok (.getfield 36, 3) := by decide +kernel
theorem dX9_man_141 : decode cX9_man 141 = .ok (.getfield 120, 3) := by decide +kernel
theorem dX9_man_144 : decode cX9_man 144 = .ok (.iload_n 1, 1) := by decide +kernel
theorem dX9_man_145 : decode cX9_man 145 = .ok (.bipush 8, 2) := by decide +kernel
theorem dX9_man_147 : decode cX9_man 147 = .ok (.imul, 1) := by decide +kernel
theorem dX9_man_148 : decode cX9_man 148 = .ok (.iload_n 1, 1) := by decide +kernel
theorem dX9_man_149 : decode cX9_man 149 = .ok (.iadd, 1) := by decide +kernel
theorem dX9_man_150 : decode cX9_man 150 = .ok (.iaload, 1) := by decide +kernel
theorem dX9_man_151 : decode cX9_man 151 = .ok (.isub, 1) := by decide +kernel
theorem dX9_man_152 : decode cX9_man 152 = .ok (.ireturn, 1) := by decide +kernel
theorem dX9_man_153 : decode cX9_man 153 = .ok (.iconst (-1), 1) := by decide +kernel
theorem dX9_man_154 : decode cX9_man 154 = .ok (.ireturn, 1) := by decide +kernel
theorem dX9_choiceOf_0 : decode cX9_choiceOf 0 = .ok (.aload_n 0, 1) := by decide +kernel
theorem dX9_choiceOf_1 : decode cX9_choiceOf 1 = .ok (.invokevirtual 163, 3) := by decide +kernel
theorem dX9_choiceOf_4 : decode cX9_choiceOf 4 = .ok (.aload_n 0, 1) := by decide +kernel
theorem dX9_choiceOf_5 : decode cX9_choiceOf 5 = .ok (.getfield 72, 3) := by decide +kernel
theorem dX9_choiceOf_8 : decode cX9_choiceOf 8 = .ok (.iload_n 1, 1) := by decide +kernel
theorem dX9_choiceOf_9 : decode cX9_choiceOf 9 = .ok (.invokevirtual 166, 3) := by decide +kernel
theorem dX9_choiceOf_12 : decode cX9_choiceOf 12 = .ok (.ireturn, 1) := by decide +kernel
theorem dX9_led_0 : decode cX9_led 0 = .ok (.aload_n 0, 1) := by decide +kernel
theorem dX9_led_1 : decode cX9_led 1 = .ok (.iload_n 2, 1) := by decide +kernel
theorem dX9_led_2 : decode cX9_led 2 = .ok (.invokevirtual 134, 3) := by decide +kernel
theorem dX9_led_5 : decode cX9_led 5 = .ok (.ifCond .eq 16, 3) := by decide +kernel
theorem dX9_led_8 : decode cX9_led 8 = .ok (.iload_n 1, 1) := by decide +kernel
theorem dX9_led_9 : decode cX9_led 9 = .ok (.iconst (-1), 1) := by decide +kernel
theorem dX9_led_10 : decode cX9_led 10 = .ok (.if_icmp .eq 13, 3) := by decide +kernel
theorem dX9_led_13 : decode cX9_led 13 = .ok (.aload_n 0, 1) := by decide +kernel
theorem dX9_led_14 : decode cX9_led 14 = .ok (.iload_n 1, 1) := by decide +kernel
theorem dX9_led_15 : decode cX9_led 15 = .ok (.invokevirtual 134, 3) := by decide +kernel
theorem dX9_led_18 : decode cX9_led 18 = .ok (.ifCond .ne 5, 3) := by decide +kernel
theorem dX9_led_21 : decode cX9_led 21 = .ok (.iconst (-1), 1) := by decide +kernel
theorem dX9_led_22 : decode cX9_led 22 = .ok (.ireturn, 1) := by decide +kernel
theorem dX9_led_23 : decode cX9_led 23 = .ok (.iload_n 1, 1) := by decide +kernel
theorem dX9_led_24 : decode cX9_led 24 = .ok (.iconst (-1), 1) := by decide +kernel
theorem dX9_led_25 : decode cX9_led 25 = .ok (.if_icmp .ne 8, 3) := by decide +kernel
theorem dX9_led_28 : decode cX9_led 28 = .ok (.bipush 8, 2) := by decide +kernel
theorem dX9_led_30 : decode cX9_led 30 = .ok (.goto 4, 3) := by decide +kernel
theorem dX9_led_33 : decode cX9_led 33 = .ok (.iload_n 1, 1) := by decide +kernel
theorem dX9_led_34 : decode cX9_led 34 = .ok (.istore_n 3, 1) := by decide +kernel
theorem dX9_led_35 : decode cX9_led 35 = .ok (.aload_n 0, 1) := by decide +kernel
theorem dX9_led_36 : decode cX9_led 36 = .ok (.getfield 36, 3) := by decide +kernel
theorem dX9_led_39 : decode cX9_led 39 = .ok (.getfield 120, 3) := by decide +kernel
theorem dX9_led_42 : decode cX9_led 42 = .ok (.iload_n 3, 1) := by decide +kernel
theorem dX9_led_43 : decode cX9_led 43 = .ok (.bipush 8, 2) := by decide +kernel
theorem dX9_led_45 : decode cX9_led 45 = .ok (.imul, 1) := by decide +kernel
theorem dX9_led_46 : decode cX9_led 46 = .ok (.iload_n 2, 1) := by decide +kernel
theorem dX9_led_47 : decode cX9_led 47 = .ok (.iadd, 1) := by decide +kernel
theorem dX9_led_48 : decode cX9_led 48 = .ok (.iaload, 1) := by decide +kernel
theorem dX9_led_49 : decode cX9_led 49 = .ok (.ireturn, 1) := by decide +kernel
theorem dX9_debt_0 : decode cX9_debt 0 = .ok (.aload_n 0, 1) := by decide +kernel
theorem dX9_debt_1 : decode cX9_debt 1 = .ok (.iload_n 1, 1) := by decide +kernel
theorem dX9_debt_2 : decode cX9_debt 2 = .ok (.iload_n 2, 1) := by decide +kernel
theorem dX9_debt_3 : decode cX9_debt 3 = .ok (.invokevirtual 167, 3) := by decide +kernel
theorem dX9_debt_6 : decode cX9_debt 6 = .ok (.ifCond .eq 20, 3) := by decide +kernel
theorem dX9_debt_9 : decode cX9_debt 9 = .ok (.aload_n 0, 1) := by decide +kernel
theorem dX9_debt_10 : decode cX9_debt 10 = .ok (.getfield 36, 3) := by decide +kernel
theorem dX9_debt_13 : decode cX9_debt 13 = .ok (.getfield 171, 3) := by decide +kernel
theorem dX9_debt_16 : decode cX9_debt 16 = .ok (.iload_n 1, 1) := by decide +kernel
theorem dX9_debt_17 : decode cX9_debt 17 = .ok (.bipush 8, 2) := by decide +kernel
theorem dX9_debt_19 : decode cX9_debt 19 = .ok (.imul, 1) := by decide +kernel
theorem dX9_debt_20 : decode cX9_debt 20 = .ok (.iload_n 2, 1) := by decide +kernel
theorem dX9_debt_21 : decode cX9_debt 21 = .ok (.iadd, 1) := by decide +kernel
theorem dX9_debt_22 : decode cX9_debt 22 = .ok (.iaload, 1) := by decide +kernel
theorem dX9_debt_23 : decode cX9_debt 23 = .ok (.goto 4, 3) := by decide +kernel
theorem dX9_debt_26 : decode cX9_debt 26 = .ok (.iconst (-1), 1) := by decide +kernel
theorem dX9_debt_27 : decode cX9_debt 27 = .ok (.ireturn, 1) := by decide +kernel
theorem dX9_tariff_0 : decode cX9_tariff 0 = .ok (.aload_n 0, 1) := by decide +kernel
theorem dX9_tariff_1 : decode cX9_tariff 1 = .ok (.iload_n 1, 1) := by decide +kernel
theorem dX9_tariff_2 : decode cX9_tariff 2 = .ok (.invokevirtual 134, 3) := by decide +kernel
theorem dX9_tariff_5 : decode cX9_tariff 5 = .ok (.ifCond .eq 20, 3) := by decide +kernel
theorem dX9_tariff_8 : decode cX9_tariff 8 = .ok (.aload_n 0, 1) := by decide +kernel
theorem dX9_tariff_9 : decode cX9_tariff 9 = .ok (.iload_n 2, 1) := by decide +kernel
theorem dX9_tariff_10 : decode cX9_tariff 10 = .ok (.invokevirtual 174, 3) := by decide +kernel
theorem dX9_tariff_13 : decode cX9_tariff 13 = .ok (.ifCond .eq 12, 3) := by decide +kernel
theorem dX9_tariff_16 : decode cX9_tariff 16 = .ok (.aload_n 0, 1) := by decide +kernel
theorem dX9_tariff_17 : decode cX9_tariff 17 = .ok (.iload_n 1, 1) := by decide +kernel
theorem dX9_tariff_18 : decode cX9_tariff 18 = .ok (.iload_n 2, 1) := by decide +kernel
theorem dX9_tariff_19 : decode cX9_tariff 19 = .ok (.invokevirtual 177, 3) := by decide +kernel
theorem dX9_tariff_22 : decode cX9_tariff 22 = .ok (.goto 4, 3) := by decide +kernel
theorem dX9_tariff_25 : decode cX9_tariff 25 = .ok (.iconst (-1), 1) := by decide +kernel
theorem dX9_tariff_26 : decode cX9_tariff 26 = .ok (.ireturn, 1) := by decide +kernel
theorem dX9_fineNow_0 : decode cX9_fineNow 0 = .ok (.aload_n 0, 1) := by decide +kernel
theorem dX9_fineNow_1 : decode cX9_fineNow 1 = .ok (.getfield 26, 3) := by decide +kernel
theorem dX9_fineNow_4 : decode cX9_fineNow 4 = .ok (.aload_n 0, 1) := by decide +kernel
theorem dX9_fineNow_5 : decode cX9_fineNow 5 = .ok (.getfield 36, 3) := by decide +kernel
theorem dX9_fineNow_8 : decode cX9_fineNow 8 = .ok (.iload_n 1, 1) := by decide +kernel
theorem dX9_fineNow_9 : decode cX9_fineNow 9 = .ok (.invokevirtual 140, 3) := by decide +kernel
theorem dX9_fineNow_12 : decode cX9_fineNow 12 = .ok (.aload_n 0, 1) := by decide +kernel
theorem dX9_fineNow_13 : decode cX9_fineNow 13 = .ok (.getfield 36, 3) := by decide +kernel
theorem dX9_fineNow_16 : decode cX9_fineNow 16 = .ok (.getfield 181, 3) := by decide +kernel
theorem dX9_fineNow_19 : decode cX9_fineNow 19 = .ok (.iload_n 1, 1) := by decide +kernel
theorem dX9_fineNow_20 : decode cX9_fineNow 20 = .ok (.bipush 8, 2) := by decide +kernel
theorem dX9_fineNow_22 : decode cX9_fineNow 22 = .ok (.imul, 1) := by decide +kernel
theorem dX9_fineNow_23 : decode cX9_fineNow 23 = .ok (.iload_n 2, 1) := by decide +kernel
theorem dX9_fineNow_24 : decode cX9_fineNow 24 = .ok (.iadd, 1) := by decide +kernel
theorem dX9_fineNow_25 : decode cX9_fineNow 25 = .ok (.iaload, 1) := by decide +kernel
theorem dX9_fineNow_26 : decode cX9_fineNow 26 = .ok (.aload_n 0, 1) := by decide +kernel
theorem dX9_fineNow_27 : decode cX9_fineNow 27 = .ok (.getfield 36, 3) := by decide +kernel
theorem dX9_fineNow_30 : decode cX9_fineNow 30 = .ok (.getfield 150, 3) := by decide +kernel
theorem dX9_fineNow_33 : decode cX9_fineNow 33 = .ok (.aload_n 0, 1) := by decide +kernel
theorem dX9_fineNow_34 : decode cX9_fineNow 34 = .ok (.getfield 36, 3) := by decide +kernel
theorem dX9_fineNow_37 : decode cX9_fineNow 37 = .ok (.bipush 8, 2) := by decide +kernel
theorem dX9_fineNow_39 : decode cX9_fineNow 39 = .ok (.invokevirtual 140, 3) := by decide +kernel
theorem dX9_fineNow_42 : decode cX9_fineNow 42 = .ok (.iload_n 1, 1) := by decide +kernel
theorem dX9_fineNow_43 : decode cX9_fineNow 43 = .ok (.invokevirtual 184, 3) := by decide +kernel
theorem dX9_fineNow_46 : decode cX9_fineNow 46 = .ok (.aload_n 0, 1) := by decide +kernel
theorem dX9_fineNow_47 : decode cX9_fineNow 47 = .ok (.getfield 26, 3) := by decide +kernel
theorem dX9_fineNow_50 : decode cX9_fineNow 50 = .ok (.aload_n 0, 1) := by decide +kernel
theorem dX9_fineNow_51 : decode cX9_fineNow 51 = .ok (.getfield 26, 3) := by decide +kernel
theorem dX9_fineNow_54 : decode cX9_fineNow 54 = .ok (.getfield 188, 3) := by decide +kernel
theorem dX9_fineNow_57 : decode cX9_fineNow 57 = .ok (.iload_n 2, 1) := by decide +kernel
theorem dX9_fineNow_58 : decode cX9_fineNow 58 = .ok (.iaload, 1) := by decide +kernel
theorem dX9_fineNow_59 : decode cX9_fineNow 59 = .ok (.invokevirtual 191, 3) := by decide +kernel
theorem dX9_fineNow_62 : decode cX9_fineNow 62 = .ok (.invokestatic 194, 3) := by decide +kernel
theorem dX9_fineNow_65 : decode cX9_fineNow 65 = .ok (.ireturn, 1) := by decide +kernel
theorem dX9_withinLaw_0 : decode cX9_withinLaw 0 = .ok (.iconst 0, 1) := by decide +kernel
theorem dX9_withinLaw_1 : decode cX9_withinLaw 1 = .ok (.sipush 999, 3) := by decide +kernel
theorem dX9_withinLaw_4 : decode cX9_withinLaw 4 = .ok (.iload_n 0, 1) := by decide +kernel
theorem dX9_withinLaw_5 : decode cX9_withinLaw 5 = .ok (.invokestatic 197, 3) := by decide +kernel
theorem dX9_withinLaw_8 : decode cX9_withinLaw 8 = .ok (.invokestatic 202, 3) := by decide +kernel
theorem dX9_withinLaw_11 : decode cX9_withinLaw 11 = .ok (.ireturn, 1) := by decide +kernel
theorem dX9_entry_0 : decode cX9_entry 0 = .ok (.aload_n 0, 1) := by decide +kernel
theorem dX9_entry_1 : decode cX9_entry 1 = .ok (.iload_n 1, 1) := by decide +kernel
theorem dX9_entry_2 : decode cX9_entry 2 = .ok (.invokevirtual 205, 3) := by decide +kernel
theorem dX9_entry_5 : decode cX9_entry 5 = .ok (.ifCond .ne 5, 3) := by decide +kernel
theorem dX9_entry_8 : decode cX9_entry 8 = .ok (.iconst (-1), 1) := by decide +kernel
theorem dX9_entry_9 : decode cX9_entry 9 = .ok (.ireturn, 1) := by decide +kernel
theorem dX9_entry_10 : decode cX9_entry 10 = .ok (.iload_n 2, 1) := by decide +kernel
theorem dX9_entry_11 : decode cX9_entry 11 = .ok (.tableswitch 87 0 4 #[33, 42, 51, 61, 70], 33) := by decide +kernel
theorem dX9_entry_44 : decode cX9_entry 44 = .ok (.aload_n 0, 1) := by decide +kernel
theorem dX9_entry_45 : decode cX9_entry 45 = .ok (.getfield 36, 3) := by decide +kernel
theorem dX9_entry_48 : decode cX9_entry 48 = .ok (.iload_n 1, 1) := by decide +kernel
theorem dX9_entry_49 : decode cX9_entry 49 = .ok (.invokevirtual 208, 3) := by decide +kernel
theorem dX9_entry_52 : decode cX9_entry 52 = .ok (.ireturn, 1) := by decide +kernel
theorem dX9_entry_53 : decode cX9_entry 53 = .ok (.aload_n 0, 1) := by decide +kernel
theorem dX9_entry_54 : decode cX9_entry 54 = .ok (.getfield 36, 3) := by decide +kernel
theorem dX9_entry_57 : decode cX9_entry 57 = .ok (.iload_n 1, 1) := by decide +kernel
theorem dX9_entry_58 : decode cX9_entry 58 = .ok (.invokevirtual 211, 3) := by decide +kernel
theorem dX9_entry_61 : decode cX9_entry 61 = .ok (.ireturn, 1) := by decide +kernel
theorem dX9_entry_62 : decode cX9_entry 62 = .ok (.aload_n 0, 1) := by decide +kernel
theorem dX9_entry_63 : decode cX9_entry 63 = .ok (.getfield 36, 3) := by decide +kernel
theorem dX9_entry_66 : decode cX9_entry 66 = .ok (.getfield 214, 3) := by decide +kernel
theorem dX9_entry_69 : decode cX9_entry 69 = .ok (.iload_n 1, 1) := by decide +kernel
theorem dX9_entry_70 : decode cX9_entry 70 = .ok (.iaload, 1) := by decide +kernel
theorem dX9_entry_71 : decode cX9_entry 71 = .ok (.ireturn, 1) := by decide +kernel
theorem dX9_entry_72 : decode cX9_entry 72 = .ok (.aload_n 0, 1) := by decide +kernel
theorem dX9_entry_73 : decode cX9_entry 73 = .ok (.getfield 36, 3) := by decide +kernel
theorem dX9_entry_76 : decode cX9_entry 76 = .ok (.iload_n 1, 1) := by decide +kernel
theorem dX9_entry_77 : decode cX9_entry 77 = .ok (.invokevirtual 217, 3) := by decide +kernel
theorem dX9_entry_80 : decode cX9_entry 80 = .ok (.ireturn, 1) := by decide +kernel
theorem dX9_entry_81 : decode cX9_entry 81 = .ok (.aload_n 0, 1) := by decide +kernel
theorem dX9_entry_82 : decode cX9_entry 82 = .ok (.getfield 36, 3) := by decide +kernel
theorem dX9_entry_85 : decode cX9_entry 85 = .ok (.iload_n 1, 1) := by decide +kernel
theorem dX9_entry_86 : decode cX9_entry 86 = .ok (.invokevirtual 220, 3) := by decide +kernel
theorem dX9_entry_89 : decode cX9_entry 89 = .ok (.ifCond .eq 7, 3) := by decide +kernel
theorem dX9_entry_92 : decode cX9_entry 92 = .ok (.iconst 1, 1) := by decide +kernel
theorem dX9_entry_93 : decode cX9_entry 93 = .ok (.goto 4, 3) := by decide +kernel
theorem dX9_entry_96 : decode cX9_entry 96 = .ok (.iconst 0, 1) := by decide +kernel
theorem dX9_entry_97 : decode cX9_entry 97 = .ok (.ireturn, 1) := by decide +kernel
theorem dX9_entry_98 : decode cX9_entry 98 = .ok (.iconst (-1), 1) := by decide +kernel
theorem dX9_entry_99 : decode cX9_entry 99 = .ok (.ireturn, 1) := by decide +kernel
theorem dX9_count_0 : decode cX9_count 0 = .ok (.iload_n 1, 1) := by decide +kernel
theorem dX9_count_1 : decode cX9_count 1 = .ok (.tableswitch 155 0 11 #[63, 71, 79, 87, 97, 102, 110, 118, 126, 134, 142, 150], 63) := by decide +kernel
theorem dX9_count_64 : decode cX9_count 64 = .ok (.aload_n 0, 1) := by decide +kernel
theorem dX9_count_65 : decode cX9_count 65 = .ok (.getfield 26, 3) := by decide +kernel
theorem dX9_count_68 : decode cX9_count 68 = .ok (.getfield 117, 3) := by decide +kernel
theorem dX9_count_71 : decode cX9_count 71 = .ok (.ireturn, 1) := by decide +kernel
theorem dX9_count_72 : decode cX9_count 72 = .ok (.aload_n 0, 1) := by decide +kernel
theorem dX9_count_73 : decode cX9_count 73 = .ok (.getfield 26, 3) := by decide +kernel
theorem dX9_count_76 : decode cX9_count 76 = .ok (.getfield 131, 3) := by decide +kernel
theorem dX9_count_79 : decode cX9_count 79 = .ok (.ireturn, 1) := by decide +kernel
theorem dX9_count_80 : decode cX9_count 80 = .ok (.aload_n 0, 1) := by decide +kernel
theorem dX9_count_81 : decode cX9_count 81 = .ok (.getfield 36, 3) := by decide +kernel
theorem dX9_count_84 : decode cX9_count 84 = .ok (.getfield 150, 3) := by decide +kernel
theorem dX9_count_87 : decode cX9_count 87 = .ok (.ireturn, 1) := by decide +kernel
theorem dX9_count_88 : decode cX9_count 88 = .ok (.aload_n 0, 1) := by decide +kernel
theorem dX9_count_89 : decode cX9_count 89 = .ok (.getfield 36, 3) := by decide +kernel
theorem dX9_count_92 : decode cX9_count 92 = .ok (.bipush 8, 2) := by decide +kernel
theorem dX9_count_94 : decode cX9_count 94 = .ok (.invokevirtual 140, 3) := by decide +kernel
theorem dX9_count_97 : decode cX9_count 97 = .ok (.ireturn, 1) := by decide +kernel
theorem dX9_count_98 : decode cX9_count 98 = .ok (.aload_n 0, 1) := by decide +kernel
theorem dX9_count_99 : decode cX9_count 99 = .ok (.invokevirtual 223, 3) := by decide +kernel
theorem dX9_count_102 : decode cX9_count 102 = .ok (.ireturn, 1) := by decide +kernel
theorem dX9_count_103 : decode cX9_count 103 = .ok (.aload_n 0, 1) := by decide +kernel
theorem dX9_count_104 : decode cX9_count 104 = .ok (.getfield 36, 3) := by decide +kernel
theorem dX9_count_107 : decode cX9_count 107 = .ok (.getfield 137, 3) := by decide +kernel
theorem dX9_count_110 : decode cX9_count 110 = .ok (.ireturn, 1) := by decide +kernel
theorem dX9_count_111 : decode cX9_count 111 = .ok (.aload_n 0, 1) := by decide +kernel
theorem dX9_count_112 : decode cX9_count 112 = .ok (.getfield 26, 3) := by decide +kernel
theorem dX9_count_115 : decode cX9_count 115 = .ok (.getfield 227, 3) := by decide +kernel
theorem dX9_count_118 : decode cX9_count 118 = .ok (.ireturn, 1) := by decide +kernel
theorem dX9_count_119 : decode cX9_count 119 = .ok (.aload_n 0, 1) := by decide +kernel
theorem dX9_count_120 : decode cX9_count 120 = .ok (.getfield 26, 3) := by decide +kernel
theorem dX9_count_123 : decode cX9_count 123 = .ok (.getfield 230, 3) := by decide +kernel
theorem dX9_count_126 : decode cX9_count 126 = .ok (.ireturn, 1) := by decide +kernel
theorem dX9_count_127 : decode cX9_count 127 = .ok (.aload_n 0, 1) := by decide +kernel
theorem dX9_count_128 : decode cX9_count 128 = .ok (.getfield 12, 3) := by decide +kernel
theorem dX9_count_131 : decode cX9_count 131 = .ok (.getfield 97, 3) := by decide +kernel
theorem dX9_count_134 : decode cX9_count 134 = .ok (.ireturn, 1) := by decide +kernel
theorem dX9_count_135 : decode cX9_count 135 = .ok (.aload_n 0, 1) := by decide +kernel
theorem dX9_count_136 : decode cX9_count 136 = .ok (.getfield 51, 3) := by decide +kernel
theorem dX9_count_139 : decode cX9_count 139 = .ok (.getfield 124, 3) := by decide +kernel
theorem dX9_count_142 : decode cX9_count 142 = .ok (.ireturn, 1) := by decide +kernel
theorem dX9_count_143 : decode cX9_count 143 = .ok (.aload_n 0, 1) := by decide +kernel
theorem dX9_count_144 : decode cX9_count 144 = .ok (.getfield 58, 3) := by decide +kernel
theorem dX9_count_147 : decode cX9_count 147 = .ok (.getfield 127, 3) := by decide +kernel
theorem dX9_count_150 : decode cX9_count 150 = .ok (.ireturn, 1) := by decide +kernel
theorem dX9_count_151 : decode cX9_count 151 = .ok (.aload_n 0, 1) := by decide +kernel
theorem dX9_count_152 : decode cX9_count 152 = .ok (.invokevirtual 233, 3) := by decide +kernel
theorem dX9_count_155 : decode cX9_count 155 = .ok (.ireturn, 1) := by decide +kernel
theorem dX9_count_156 : decode cX9_count 156 = .ok (.iconst (-1), 1) := by decide +kernel
theorem dX9_count_157 : decode cX9_count 157 = .ok (.ireturn, 1) := by decide +kernel
theorem dX9_onAllGeese_0 : decode cX9_onAllGeese 0 = .ok (.iconst 0, 1) := by decide +kernel
theorem dX9_onAllGeese_1 : decode cX9_onAllGeese 1 = .ok (.istore_n 1, 1) := by decide +kernel
theorem dX9_onAllGeese_2 : decode cX9_onAllGeese 2 = .ok (.iconst 0, 1) := by decide +kernel
theorem dX9_onAllGeese_3 : decode cX9_onAllGeese 3 = .ok (.istore_n 2, 1) := by decide +kernel
theorem dX9_onAllGeese_4 : decode cX9_onAllGeese 4 = .ok (.iload_n 2, 1) := by decide +kernel
theorem dX9_onAllGeese_5 : decode cX9_onAllGeese 5 = .ok (.aload_n 0, 1) := by decide +kernel
theorem dX9_onAllGeese_6 : decode cX9_onAllGeese 6 = .ok (.getfield 26, 3) := by decide +kernel
theorem dX9_onAllGeese_9 : decode cX9_onAllGeese 9 = .ok (.getfield 117, 3) := by decide +kernel
theorem dX9_onAllGeese_12 : decode cX9_onAllGeese 12 = .ok (.if_icmp .ge 20, 3) := by decide +kernel
theorem dX9_onAllGeese_15 : decode cX9_onAllGeese 15 = .ok (.iload_n 1, 1) := by decide +kernel
theorem dX9_onAllGeese_16 : decode cX9_onAllGeese 16 = .ok (.aload_n 0, 1) := by decide +kernel
theorem dX9_onAllGeese_17 : decode cX9_onAllGeese 17 = .ok (.getfield 36, 3) := by decide +kernel
theorem dX9_onAllGeese_20 : decode cX9_onAllGeese 20 = .ok (.iload_n 2, 1) := by decide +kernel
theorem dX9_onAllGeese_21 : decode cX9_onAllGeese 21 = .ok (.invokevirtual 140, 3) := by decide +kernel
theorem dX9_onAllGeese_24 : decode cX9_onAllGeese 24 = .ok (.iadd, 1) := by decide +kernel
theorem dX9_onAllGeese_25 : decode cX9_onAllGeese 25 = .ok (.istore_n 1, 1) := by decide +kernel
theorem dX9_onAllGeese_26 : decode cX9_onAllGeese 26 = .ok (.iinc 2 1, 3) := by decide +kernel
theorem dX9_onAllGeese_29 : decode cX9_onAllGeese 29 = .ok (.goto (-25), 3) := by decide +kernel
theorem dX9_onAllGeese_32 : decode cX9_onAllGeese 32 = .ok (.iload_n 1, 1) := by decide +kernel
theorem dX9_onAllGeese_33 : decode cX9_onAllGeese 33 = .ok (.ireturn, 1) := by decide +kernel
theorem dX9_slotsHeld_0 : decode cX9_slotsHeld 0 = .ok (.iconst 0, 1) := by decide +kernel
theorem dX9_slotsHeld_1 : decode cX9_slotsHeld 1 = .ok (.istore_n 1, 1) := by decide +kernel
theorem dX9_slotsHeld_2 : decode cX9_slotsHeld 2 = .ok (.iconst 0, 1) := by decide +kernel
theorem dX9_slotsHeld_3 : decode cX9_slotsHeld 3 = .ok (.istore_n 2, 1) := by decide +kernel
theorem dX9_slotsHeld_4 : decode cX9_slotsHeld 4 = .ok (.iload_n 2, 1) := by decide +kernel
theorem dX9_slotsHeld_5 : decode cX9_slotsHeld 5 = .ok (.iconst 3, 1) := by decide +kernel
theorem dX9_slotsHeld_6 : decode cX9_slotsHeld 6 = .ok (.if_icmp .ge 21, 3) := by decide +kernel
theorem dX9_slotsHeld_9 : decode cX9_slotsHeld 9 = .ok (.aload_n 0, 1) := by decide +kernel
theorem dX9_slotsHeld_10 : decode cX9_slotsHeld 10 = .ok (.getfield 44, 3) := by decide +kernel
theorem dX9_slotsHeld_13 : decode cX9_slotsHeld 13 = .ok (.iload_n 2, 1) := by decide +kernel
theorem dX9_slotsHeld_14 : decode cX9_slotsHeld 14 = .ok (.baload, 1) := by decide +kernel
theorem dX9_slotsHeld_15 : decode cX9_slotsHeld 15 = .ok (.ifCond .eq 6, 3) := by decide +kernel
theorem dX9_slotsHeld_18 : decode cX9_slotsHeld 18 = .ok (.iinc 1 1, 3) := by decide +kernel
theorem dX9_slotsHeld_21 : decode cX9_slotsHeld 21 = .ok (.iinc 2 1, 3) := by decide +kernel
theorem dX9_slotsHeld_24 : decode cX9_slotsHeld 24 = .ok (.goto (-20), 3) := by decide +kernel
theorem dX9_slotsHeld_27 : decode cX9_slotsHeld 27 = .ok (.iload_n 1, 1) := by decide +kernel
theorem dX9_slotsHeld_28 : decode cX9_slotsHeld 28 = .ok (.ireturn, 1) := by decide +kernel
theorem dX9_fine_0 : decode cX9_fine 0 = .ok (.aload_n 0, 1) := by decide +kernel
theorem dX9_fine_1 : decode cX9_fine 1 = .ok (.iload_n 1, 1) := by decide +kernel
theorem dX9_fine_2 : decode cX9_fine 2 = .ok (.invokevirtual 134, 3) := by decide +kernel
theorem dX9_fine_5 : decode cX9_fine 5 = .ok (.ifCond .eq 11, 3) := by decide +kernel
theorem dX9_fine_8 : decode cX9_fine 8 = .ok (.aload_n 0, 1) := by decide +kernel
theorem dX9_fine_9 : decode cX9_fine 9 = .ok (.iload_n 2, 1) := by decide +kernel
theorem dX9_fine_10 : decode cX9_fine 10 = .ok (.invokevirtual 174, 3) := by decide +kernel
theorem dX9_fine_13 : decode cX9_fine 13 = .ok (.ifCond .ne 5, 3) := by decide +kernel
theorem dX9_fine_16 : decode cX9_fine 16 = .ok (.iconst (-1), 1) := by decide +kernel
theorem dX9_fine_17 : decode cX9_fine 17 = .ok (.ireturn, 1) := by decide +kernel
theorem dX9_fine_18 : decode cX9_fine 18 = .ok (.aload_n 0, 1) := by decide +kernel
theorem dX9_fine_19 : decode cX9_fine 19 = .ok (.getfield 36, 3) := by decide +kernel
theorem dX9_fine_22 : decode cX9_fine 22 = .ok (.getfield 137, 3) := by decide +kernel
theorem dX9_fine_25 : decode cX9_fine 25 = .ok (.sipush 300, 3) := by decide +kernel
theorem dX9_fine_28 : decode cX9_fine 28 = .ok (.if_icmp .lt 6, 3) := by decide +kernel
theorem dX9_fine_31 : decode cX9_fine 31 = .ok (.bipush (-2), 2) := by decide +kernel
theorem dX9_fine_33 : decode cX9_fine 33 = .ok (.ireturn, 1) := by decide +kernel
theorem dX9_fine_34 : decode cX9_fine 34 = .ok (.aload_n 0, 1) := by decide +kernel
theorem dX9_fine_35 : decode cX9_fine 35 = .ok (.iload_n 1, 1) := by decide +kernel
theorem dX9_fine_36 : decode cX9_fine 36 = .ok (.iload_n 2, 1) := by decide +kernel
theorem dX9_fine_37 : decode cX9_fine 37 = .ok (.invokevirtual 177, 3) := by decide +kernel
theorem dX9_fine_40 : decode cX9_fine 40 = .ok (.istore_n 3, 1) := by decide +kernel
theorem dX9_fine_41 : decode cX9_fine 41 = .ok (.aload_n 0, 1) := by decide +kernel
theorem dX9_fine_42 : decode cX9_fine 42 = .ok (.getfield 51, 3) := by decide +kernel
theorem dX9_fine_45 : decode cX9_fine 45 = .ok (.aload_n 0, 1) := by decide +kernel
theorem dX9_fine_46 : decode cX9_fine 46 = .ok (.getfield 36, 3) := by decide +kernel
theorem dX9_fine_49 : decode cX9_fine 49 = .ok (.invokevirtual 236, 3) := by decide +kernel
theorem dX9_fine_52 : decode cX9_fine 52 = .ok (.pop, 1) := by decide +kernel
theorem dX9_fine_53 : decode cX9_fine 53 = .ok (.aload_n 0, 1) := by decide +kernel
theorem dX9_fine_54 : decode cX9_fine 54 = .ok (.getfield 36, 3) := by decide +kernel
theorem dX9_fine_57 : decode cX9_fine 57 = .ok (.iload_n 1, 1) := by decide +kernel
theorem dX9_fine_58 : decode cX9_fine 58 = .ok (.bipush 8, 2) := by decide +kernel
theorem dX9_fine_60 : decode cX9_fine 60 = .ok (.iload_n 3, 1) := by decide +kernel
theorem dX9_fine_61 : decode cX9_fine 61 = .ok (.invokevirtual 240, 3) := by decide +kernel
theorem dX9_fine_64 : decode cX9_fine 64 = .ok (.istore 4, 2) := by decide +kernel
theorem dX9_fine_66 : decode cX9_fine 66 = .ok (.aload_n 0, 1) := by decide +kernel
theorem dX9_fine_67 : decode cX9_fine 67 = .ok (.getfield 36, 3) := by decide +kernel
theorem dX9_fine_70 : decode cX9_fine 70 = .ok (.iload_n 1, 1) := by decide +kernel
theorem dX9_fine_71 : decode cX9_fine 71 = .ok (.iload_n 2, 1) := by decide +kernel
theorem dX9_fine_72 : decode cX9_fine 72 = .ok (.iload 4, 2) := by decide +kernel
theorem dX9_fine_74 : decode cX9_fine 74 = .ok (.invokevirtual 244, 3) := by decide +kernel
theorem dX9_fine_77 : decode cX9_fine 77 = .ok (.aload_n 0, 1) := by decide +kernel
theorem dX9_fine_78 : decode cX9_fine 78 = .ok (.invokevirtual 248, 3) := by decide +kernel
theorem dX9_fine_81 : decode cX9_fine 81 = .ok (.iload 4, 2) := by decide +kernel
theorem dX9_fine_83 : decode cX9_fine 83 = .ok (.ireturn, 1) := by decide +kernel
theorem dX9_countTimes_0 : decode cX9_countTimes 0 = .ok (.aload_n 0, 1) := by decide +kernel
theorem dX9_countTimes_1 : decode cX9_countTimes 1 = .ok (.getfield 36, 3) := by decide +kernel
theorem dX9_countTimes_4 : decode cX9_countTimes 4 = .ok (.aload_n 0, 1) := by decide +kernel
theorem dX9_countTimes_5 : decode cX9_countTimes 5 = .ok (.getfield 26, 3) := by decide +kernel
theorem dX9_countTimes_8 : decode cX9_countTimes 8 = .ok (.getfield 230, 3) := by decide +kernel
theorem dX9_countTimes_11 : decode cX9_countTimes 11 = .ok (.ifCond .le 29, 3) := by decide +kernel
theorem dX9_countTimes_14 : decode cX9_countTimes 14 = .ok (.aload_n 0, 1) := by decide +kernel
theorem dX9_countTimes_15 : decode cX9_countTimes 15 = .ok (.getfield 36, 3) := by decide +kernel
theorem dX9_countTimes_18 : decode cX9_countTimes 18 = .ok (.getfield 150, 3) := by decide +kernel
theorem dX9_countTimes_21 : decode cX9_countTimes 21 = .ok (.aload_n 0, 1) := by decide +kernel
theorem dX9_countTimes_22 : decode cX9_countTimes 22 = .ok (.getfield 36, 3) := by decide +kernel
theorem dX9_countTimes_25 : decode cX9_countTimes 25 = .ok (.getfield 150, 3) := by decide +kernel
theorem dX9_countTimes_28 : decode cX9_countTimes 28 = .ok (.aload_n 0, 1) := by decide +kernel
theorem dX9_countTimes_29 : decode cX9_countTimes 29 = .ok (.getfield 26, 3) := by decide +kernel
theorem dX9_countTimes_32 : decode cX9_countTimes 32 = .ok (.getfield 230, 3) := by decide +kernel
theorem dX9_countTimes_35 : decode cX9_countTimes 35 = .ok (.irem, 1) := by decide +kernel
theorem dX9_countTimes_36 : decode cX9_countTimes 36 = .ok (.isub, 1) := by decide +kernel
theorem dX9_countTimes_37 : decode cX9_countTimes 37 = .ok (.goto 4, 3) := by decide +kernel
theorem dX9_countTimes_40 : decode cX9_countTimes 40 = .ok (.iconst 0, 1) := by decide +kernel
theorem dX9_countTimes_41 : decode cX9_countTimes 41 = .ok (.invokevirtual 251, 3) := by decide +kernel
theorem dX9_countTimes_44 : decode cX9_countTimes 44 = .ok (.return_, 1) := by decide +kernel
theorem dX9_appeal_0 : decode cX9_appeal 0 = .ok (.aload_n 0, 1) := by decide +kernel
theorem dX9_appeal_1 : decode cX9_appeal 1 = .ok (.iload_n 1, 1) := by decide +kernel
theorem dX9_appeal_2 : decode cX9_appeal 2 = .ok (.invokevirtual 205, 3) := by decide +kernel
theorem dX9_appeal_5 : decode cX9_appeal 5 = .ok (.ifCond .ne 5, 3) := by decide +kernel
theorem dX9_appeal_8 : decode cX9_appeal 8 = .ok (.iconst (-1), 1) := by decide +kernel
theorem dX9_appeal_9 : decode cX9_appeal 9 = .ok (.ireturn, 1) := by decide +kernel
theorem dX9_appeal_10 : decode cX9_appeal 10 = .ok (.aload_n 0, 1) := by decide +kernel
theorem dX9_appeal_11 : decode cX9_appeal 11 = .ok (.getfield 36, 3) := by decide +kernel
theorem dX9_appeal_14 : decode cX9_appeal 14 = .ok (.iload_n 1, 1) := by decide +kernel
theorem dX9_appeal_15 : decode cX9_appeal 15 = .ok (.invokevirtual 208, 3) := by decide +kernel
theorem dX9_appeal_18 : decode cX9_appeal 18 = .ok (.istore_n 2, 1) := by decide +kernel
theorem dX9_appeal_19 : decode cX9_appeal 19 = .ok (.aload_n 0, 1) := by decide +kernel
theorem dX9_appeal_20 : decode cX9_appeal 20 = .ok (.getfield 36, 3) := by decide +kernel
theorem dX9_appeal_23 : decode cX9_appeal 23 = .ok (.iload_n 1, 1) := by decide +kernel
theorem dX9_appeal_24 : decode cX9_appeal 24 = .ok (.invokevirtual 220, 3) := by decide +kernel
theorem dX9_appeal_27 : decode cX9_appeal 27 = .ok (.ifCond .ne 14, 3) := by decide +kernel
theorem dX9_appeal_30 : decode cX9_appeal 30 = .ok (.aload_n 0, 1) := by decide +kernel
theorem dX9_appeal_31 : decode cX9_appeal 31 = .ok (.getfield 36, 3) := by decide +kernel
theorem dX9_appeal_34 : decode cX9_appeal 34 = .ok (.iload_n 2, 1) := by decide +kernel
theorem dX9_appeal_35 : decode cX9_appeal 35 = .ok (.invokevirtual 140, 3) := by decide +kernel
theorem dX9_appeal_38 : decode cX9_appeal 38 = .ok (.ifCond .ne 6, 3) := by decide +kernel
theorem dX9_appeal_41 : decode cX9_appeal 41 = .ok (.bipush (-2), 2) := by decide +kernel
theorem dX9_appeal_43 : decode cX9_appeal 43 = .ok (.ireturn, 1) := by decide +kernel
theorem dX9_appeal_44 : decode cX9_appeal 44 = .ok (.aload_n 0, 1) := by decide +kernel
theorem dX9_appeal_45 : decode cX9_appeal 45 = .ok (.getfield 51, 3) := by decide +kernel
theorem dX9_appeal_48 : decode cX9_appeal 48 = .ok (.aload_n 0, 1) := by decide +kernel
theorem dX9_appeal_49 : decode cX9_appeal 49 = .ok (.getfield 36, 3) := by decide +kernel
theorem dX9_appeal_52 : decode cX9_appeal 52 = .ok (.invokevirtual 236, 3) := by decide +kernel
theorem dX9_appeal_55 : decode cX9_appeal 55 = .ok (.iload_n 1, 1) := by decide +kernel
theorem dX9_appeal_56 : decode cX9_appeal 56 = .ok (.putfield 253, 3) := by decide +kernel
theorem dX9_appeal_59 : decode cX9_appeal 59 = .ok (.aload_n 0, 1) := by decide +kernel
theorem dX9_appeal_60 : decode cX9_appeal 60 = .ok (.getfield 36, 3) := by decide +kernel
theorem dX9_appeal_63 : decode cX9_appeal 63 = .ok (.iload_n 1, 1) := by decide +kernel
theorem dX9_appeal_64 : decode cX9_appeal 64 = .ok (.iconst 1, 1) := by decide +kernel
theorem dX9_appeal_65 : decode cX9_appeal 65 = .ok (.invokevirtual 258, 3) := by decide +kernel
theorem dX9_appeal_68 : decode cX9_appeal 68 = .ok (.aload_n 0, 1) := by decide +kernel
theorem dX9_appeal_69 : decode cX9_appeal 69 = .ok (.getfield 36, 3) := by decide +kernel
theorem dX9_appeal_72 : decode cX9_appeal 72 = .ok (.iload_n 2, 1) := by decide +kernel
theorem dX9_appeal_73 : decode cX9_appeal 73 = .ok (.bipush 8, 2) := by decide +kernel
theorem dX9_appeal_75 : decode cX9_appeal 75 = .ok (.iconst 1, 1) := by decide +kernel
theorem dX9_appeal_76 : decode cX9_appeal 76 = .ok (.invokevirtual 240, 3) := by decide +kernel
theorem dX9_appeal_79 : decode cX9_appeal 79 = .ok (.pop, 1) := by decide +kernel
theorem dX9_appeal_80 : decode cX9_appeal 80 = .ok (.aload_n 0, 1) := by decide +kernel
theorem dX9_appeal_81 : decode cX9_appeal 81 = .ok (.getfield 36, 3) := by decide +kernel
theorem dX9_appeal_84 : decode cX9_appeal 84 = .ok (.bipush 8, 2) := by decide +kernel
theorem dX9_appeal_86 : decode cX9_appeal 86 = .ok (.iload_n 2, 1) := by decide +kernel
theorem dX9_appeal_87 : decode cX9_appeal 87 = .ok (.iload_n 2, 1) := by decide +kernel
theorem dX9_appeal_88 : decode cX9_appeal 88 = .ok (.aload_n 0, 1) := by decide +kernel
theorem dX9_appeal_89 : decode cX9_appeal 89 = .ok (.getfield 36, 3) := by decide +kernel
theorem dX9_appeal_92 : decode cX9_appeal 92 = .ok (.iload_n 1, 1) := by decide +kernel
theorem dX9_appeal_93 : decode cX9_appeal 93 = .ok (.invokevirtual 217, 3) := by decide +kernel
theorem dX9_appeal_96 : decode cX9_appeal 96 = .ok (.iconst 2, 1) := by decide +kernel
theorem dX9_appeal_97 : decode cX9_appeal 97 = .ok (.idiv, 1) := by decide +kernel
theorem dX9_appeal_98 : decode cX9_appeal 98 = .ok (.invokevirtual 262, 3) := by decide +kernel
theorem dX9_appeal_101 : decode cX9_appeal 101 = .ok (.ireturn, 1) := by decide +kernel
theorem dX9_stuff_0 : decode cX9_stuff 0 = .ok (.aload_n 0, 1) := by decide +kernel
theorem dX9_stuff_1 : decode cX9_stuff 1 = .ok (.iload_n 1, 1) := by decide +kernel
theorem dX9_stuff_2 : decode cX9_stuff 2 = .ok (.iload_n 2, 1) := by decide +kernel
theorem dX9_stuff_3 : decode cX9_stuff 3 = .ok (.iload_n 3, 1) := by decide +kernel
theorem dX9_stuff_4 : decode cX9_stuff 4 = .ok (.invokevirtual 266, 3) := by decide +kernel
theorem dX9_stuff_7 : decode cX9_stuff 7 = .ok (.ifCond .ne 5, 3) := by decide +kernel
theorem dX9_stuff_10 : decode cX9_stuff 10 = .ok (.iconst 0, 1) := by decide +kernel
theorem dX9_stuff_11 : decode cX9_stuff 11 = .ok (.ireturn, 1) := by decide +kernel
theorem dX9_stuff_12 : decode cX9_stuff 12 = .ok (.aload_n 0, 1) := by decide +kernel
theorem dX9_stuff_13 : decode cX9_stuff 13 = .ok (.getfield 51, 3) := by decide +kernel
theorem dX9_stuff_16 : decode cX9_stuff 16 = .ok (.aload_n 0, 1) := by decide +kernel
theorem dX9_stuff_17 : decode cX9_stuff 17 = .ok (.getfield 36, 3) := by decide +kernel
theorem dX9_stuff_20 : decode cX9_stuff 20 = .ok (.invokevirtual 236, 3) := by decide +kernel
theorem dX9_stuff_23 : decode cX9_stuff 23 = .ok (.pop, 1) := by decide +kernel
theorem dX9_stuff_24 : decode cX9_stuff 24 = .ok (.aload_n 0, 1) := by decide +kernel
theorem dX9_stuff_25 : decode cX9_stuff 25 = .ok (.getfield 36, 3) := by decide +kernel
theorem dX9_stuff_28 : decode cX9_stuff 28 = .ok (.iload_n 1, 1) := by decide +kernel
theorem dX9_stuff_29 : decode cX9_stuff 29 = .ok (.iload_n 2, 1) := by decide +kernel
theorem dX9_stuff_30 : decode cX9_stuff 30 = .ok (.iload_n 3, 1) := by decide +kernel
theorem dX9_stuff_31 : decode cX9_stuff 31 = .ok (.invokevirtual 240, 3) := by decide +kernel
theorem dX9_stuff_34 : decode cX9_stuff 34 = .ok (.pop, 1) := by decide +kernel
theorem dX9_stuff_35 : decode cX9_stuff 35 = .ok (.iconst 1, 1) := by decide +kernel
theorem dX9_stuff_36 : decode cX9_stuff 36 = .ok (.ireturn, 1) := by decide +kernel
theorem dX9_canStuff_0 : decode cX9_canStuff 0 = .ok (.aload_n 0, 1) := by decide +kernel
theorem dX9_canStuff_1 : decode cX9_canStuff 1 = .ok (.iload_n 1, 1) := by decide +kernel
theorem dX9_canStuff_2 : decode cX9_canStuff 2 = .ok (.iload_n 2, 1) := by decide +kernel
theorem dX9_canStuff_3 : decode cX9_canStuff 3 = .ok (.invokevirtual 167, 3) := by decide +kernel
theorem dX9_canStuff_6 : decode cX9_canStuff 6 = .ok (.ifCond .eq 33, 3) := by decide +kernel
theorem dX9_canStuff_9 : decode cX9_canStuff 9 = .ok (.iload_n 3, 1) := by decide +kernel
theorem dX9_canStuff_10 : decode cX9_canStuff 10 = .ok (.iconst 1, 1) := by decide +kernel
theorem dX9_canStuff_11 : decode cX9_canStuff 11 = .ok (.if_icmp .lt 28, 3) := by decide +kernel
theorem dX9_canStuff_14 : decode cX9_canStuff 14 = .ok (.iload_n 3, 1) := by decide +kernel
theorem dX9_canStuff_15 : decode cX9_canStuff 15 = .ok (.aload_n 0, 1) := by decide +kernel
theorem dX9_canStuff_16 : decode cX9_canStuff 16 = .ok (.getfield 36, 3) := by decide +kernel
theorem dX9_canStuff_19 : decode cX9_canStuff 19 = .ok (.iload_n 1, 1) := by decide +kernel
theorem dX9_canStuff_20 : decode cX9_canStuff 20 = .ok (.invokevirtual 140, 3) := by decide +kernel
theorem dX9_canStuff_23 : decode cX9_canStuff 23 = .ok (.if_icmp .gt 16, 3) := by decide +kernel
theorem dX9_canStuff_26 : decode cX9_canStuff 26 = .ok (.aload_n 0, 1) := by decide +kernel
theorem dX9_canStuff_27 : decode cX9_canStuff 27 = .ok (.iload_n 2, 1) := by decide +kernel
theorem dX9_canStuff_28 : decode cX9_canStuff 28 = .ok (.iload_n 3, 1) := by decide +kernel
theorem dX9_canStuff_29 : decode cX9_canStuff 29 = .ok (.invokevirtual 269, 3) := by decide +kernel
theorem dX9_canStuff_32 : decode cX9_canStuff 32 = .ok (.ifCond .eq 7, 3) := by decide +kernel
theorem dX9_canStuff_35 : decode cX9_canStuff 35 = .ok (.iconst 1, 1) := by decide +kernel
theorem dX9_canStuff_36 : decode cX9_canStuff 36 = .ok (.goto 4, 3) := by decide +kernel
theorem dX9_canStuff_39 : decode cX9_canStuff 39 = .ok (.iconst 0, 1) := by decide +kernel
theorem dX9_canStuff_40 : decode cX9_canStuff 40 = .ok (.ireturn, 1) := by decide +kernel
theorem dX9_hasRoom_0 : decode cX9_hasRoom 0 = .ok (.iload_n 2, 1) := by decide +kernel
theorem dX9_hasRoom_1 : decode cX9_hasRoom 1 = .ok (.sipush 9999, 3) := by decide +kernel
theorem dX9_hasRoom_4 : decode cX9_hasRoom 4 = .ok (.aload_n 0, 1) := by decide +kernel
theorem dX9_hasRoom_5 : decode cX9_hasRoom 5 = .ok (.getfield 36, 3) := by decide +kernel
theorem dX9_hasRoom_8 : decode cX9_hasRoom 8 = .ok (.iload_n 1, 1) := by decide +kernel
theorem dX9_hasRoom_9 : decode cX9_hasRoom 9 = .ok (.invokevirtual 140, 3) := by decide +kernel
theorem dX9_hasRoom_12 : decode cX9_hasRoom 12 = .ok (.isub, 1) := by decide +kernel
theorem dX9_hasRoom_13 : decode cX9_hasRoom 13 = .ok (.if_icmp .gt 7, 3) := by decide +kernel
theorem dX9_hasRoom_16 : decode cX9_hasRoom 16 = .ok (.iconst 1, 1) := by decide +kernel
theorem dX9_hasRoom_17 : decode cX9_hasRoom 17 = .ok (.goto 4, 3) := by decide +kernel
theorem dX9_hasRoom_20 : decode cX9_hasRoom 20 = .ok (.iconst 0, 1) := by decide +kernel
theorem dX9_hasRoom_21 : decode cX9_hasRoom 21 = .ok (.ireturn, 1) := by decide +kernel
theorem dX9_lend_0 : decode cX9_lend 0 = .ok (.aload_n 0, 1) := by decide +kernel
theorem dX9_lend_1 : decode cX9_lend 1 = .ok (.iload_n 1, 1) := by decide +kernel
theorem dX9_lend_2 : decode cX9_lend 2 = .ok (.iload_n 2, 1) := by decide +kernel
theorem dX9_lend_3 : decode cX9_lend 3 = .ok (.iload_n 3, 1) := by decide +kernel
theorem dX9_lend_4 : decode cX9_lend 4 = .ok (.invokevirtual 266, 3) := by decide +kernel
theorem dX9_lend_7 : decode cX9_lend 7 = .ok (.ifCond .ne 5, 3) := by decide +kernel
theorem dX9_lend_10 : decode cX9_lend 10 = .ok (.iconst 0, 1) := by decide +kernel
theorem dX9_lend_11 : decode cX9_lend 11 = .ok (.ireturn, 1) := by decide +kernel
theorem dX9_lend_12 : decode cX9_lend 12 = .ok (.aload_n 0, 1) := by decide +kernel
theorem dX9_lend_13 : decode cX9_lend 13 = .ok (.getfield 51, 3) := by decide +kernel
theorem dX9_lend_16 : decode cX9_lend 16 = .ok (.aload_n 0, 1) := by decide +kernel
theorem dX9_lend_17 : decode cX9_lend 17 = .ok (.getfield 36, 3) := by decide +kernel
theorem dX9_lend_20 : decode cX9_lend 20 = .ok (.invokevirtual 236, 3) := by decide +kernel
theorem dX9_lend_23 : decode cX9_lend 23 = .ok (.aload_n 0, 1) := by decide +kernel
theorem dX9_lend_24 : decode cX9_lend 24 = .ok (.getfield 36, 3) := by decide +kernel
theorem dX9_lend_27 : decode cX9_lend 27 = .ok (.iload_n 2, 1) := by decide +kernel
theorem dX9_lend_28 : decode cX9_lend 28 = .ok (.bipush 8, 2) := by decide +kernel
theorem dX9_lend_30 : decode cX9_lend 30 = .ok (.imul, 1) := by decide +kernel
theorem dX9_lend_31 : decode cX9_lend 31 = .ok (.iload_n 1, 1) := by decide +kernel
theorem dX9_lend_32 : decode cX9_lend 32 = .ok (.iadd, 1) := by decide +kernel
theorem dX9_lend_33 : decode cX9_lend 33 = .ok (.invokevirtual 272, 3) := by decide +kernel
theorem dX9_lend_36 : decode cX9_lend 36 = .ok (.aload_n 0, 1) := by decide +kernel
theorem dX9_lend_37 : decode cX9_lend 37 = .ok (.getfield 36, 3) := by decide +kernel
theorem dX9_lend_40 : decode cX9_lend 40 = .ok (.iload_n 1, 1) := by decide +kernel
theorem dX9_lend_41 : decode cX9_lend 41 = .ok (.iload_n 2, 1) := by decide +kernel
theorem dX9_lend_42 : decode cX9_lend 42 = .ok (.iload_n 3, 1) := by decide +kernel
theorem dX9_lend_43 : decode cX9_lend 43 = .ok (.invokevirtual 240, 3) := by decide +kernel
theorem dX9_lend_46 : decode cX9_lend 46 = .ok (.pop, 1) := by decide +kernel
theorem dX9_lend_47 : decode cX9_lend 47 = .ok (.aload_n 0, 1) := by decide +kernel
theorem dX9_lend_48 : decode cX9_lend 48 = .ok (.getfield 36, 3) := by decide +kernel
theorem dX9_lend_51 : decode cX9_lend 51 = .ok (.getfield 171, 3) := by decide +kernel
theorem dX9_lend_54 : decode cX9_lend 54 = .ok (.iload_n 2, 1) := by decide +kernel
theorem dX9_lend_55 : decode cX9_lend 55 = .ok (.bipush 8, 2) := by decide +kernel
theorem dX9_lend_57 : decode cX9_lend 57 = .ok (.imul, 1) := by decide +kernel
theorem dX9_lend_58 : decode cX9_lend 58 = .ok (.iload_n 1, 1) := by decide +kernel
theorem dX9_lend_59 : decode cX9_lend 59 = .ok (.iadd, 1) := by decide +kernel
theorem dX9_lend_60 : decode cX9_lend 60 = .ok (.dup2, 1) := by decide +kernel
theorem dX9_lend_61 : decode cX9_lend 61 = .ok (.iaload, 1) := by decide +kernel
theorem dX9_lend_62 : decode cX9_lend 62 = .ok (.iload_n 3, 1) := by decide +kernel
theorem dX9_lend_63 : decode cX9_lend 63 = .ok (.iadd, 1) := by decide +kernel
theorem dX9_lend_64 : decode cX9_lend 64 = .ok (.iastore, 1) := by decide +kernel
theorem dX9_lend_65 : decode cX9_lend 65 = .ok (.iconst 1, 1) := by decide +kernel
theorem dX9_lend_66 : decode cX9_lend 66 = .ok (.ireturn, 1) := by decide +kernel
theorem dX9_repay_0 : decode cX9_repay 0 = .ok (.aload_n 0, 1) := by decide +kernel
theorem dX9_repay_1 : decode cX9_repay 1 = .ok (.iload_n 1, 1) := by decide +kernel
theorem dX9_repay_2 : decode cX9_repay 2 = .ok (.iload_n 2, 1) := by decide +kernel
theorem dX9_repay_3 : decode cX9_repay 3 = .ok (.invokevirtual 167, 3) := by decide +kernel
theorem dX9_repay_6 : decode cX9_repay 6 = .ok (.ifCond .ne 5, 3) := by decide +kernel
theorem dX9_repay_9 : decode cX9_repay 9 = .ok (.iconst (-1), 1) := by decide +kernel
theorem dX9_repay_10 : decode cX9_repay 10 = .ok (.ireturn, 1) := by decide +kernel
theorem dX9_repay_11 : decode cX9_repay 11 = .ok (.iload_n 1, 1) := by decide +kernel
theorem dX9_repay_12 : decode cX9_repay 12 = .ok (.bipush 8, 2) := by decide +kernel
theorem dX9_repay_14 : decode cX9_repay 14 = .ok (.imul, 1) := by decide +kernel
theorem dX9_repay_15 : decode cX9_repay 15 = .ok (.iload_n 2, 1) := by decide +kernel
theorem dX9_repay_16 : decode cX9_repay 16 = .ok (.iadd, 1) := by decide +kernel
theorem dX9_repay_17 : decode cX9_repay 17 = .ok (.istore 4, 2) := by decide +kernel
theorem dX9_repay_19 : decode cX9_repay 19 = .ok (.iload_n 3, 1) := by decide +kernel
theorem dX9_repay_20 : decode cX9_repay 20 = .ok (.aload_n 0, 1) := by decide +kernel
theorem dX9_repay_21 : decode cX9_repay 21 = .ok (.getfield 36, 3) := by decide +kernel
theorem dX9_repay_24 : decode cX9_repay 24 = .ok (.getfield 171, 3) := by decide +kernel
theorem dX9_repay_27 : decode cX9_repay 27 = .ok (.iload 4, 2) := by decide +kernel
theorem dX9_repay_29 : decode cX9_repay 29 = .ok (.iaload, 1) := by decide +kernel
theorem dX9_repay_30 : decode cX9_repay 30 = .ok (.aload_n 0, 1) := by decide +kernel
theorem dX9_repay_31 : decode cX9_repay 31 = .ok (.getfield 36, 3) := by decide +kernel
theorem dX9_repay_34 : decode cX9_repay 34 = .ok (.iload_n 1, 1) := by decide +kernel
theorem dX9_repay_35 : decode cX9_repay 35 = .ok (.invokevirtual 140, 3) := by decide +kernel
theorem dX9_repay_38 : decode cX9_repay 38 = .ok (.invokestatic 197, 3) := by decide +kernel
theorem dX9_repay_41 : decode cX9_repay 41 = .ok (.invokestatic 197, 3) := by decide +kernel
theorem dX9_repay_44 : decode cX9_repay 44 = .ok (.istore 5, 2) := by decide +kernel
theorem dX9_repay_46 : decode cX9_repay 46 = .ok (.iload 5, 2) := by decide +kernel
theorem dX9_repay_48 : decode cX9_repay 48 = .ok (.iconst 1, 1) := by decide +kernel
theorem dX9_repay_49 : decode cX9_repay 49 = .ok (.if_icmp .lt 13, 3) := by decide +kernel
theorem dX9_repay_52 : decode cX9_repay 52 = .ok (.aload_n 0, 1) := by decide +kernel
theorem dX9_repay_53 : decode cX9_repay 53 = .ok (.iload_n 2, 1) := by decide +kernel
theorem dX9_repay_54 : decode cX9_repay 54 = .ok (.iload 5, 2) := by decide +kernel
theorem dX9_repay_56 : decode cX9_repay 56 = .ok (.invokevirtual 269, 3) := by decide +kernel
theorem dX9_repay_59 : decode cX9_repay 59 = .ok (.ifCond .ne 5, 3) := by decide +kernel
theorem dX9_repay_62 : decode cX9_repay 62 = .ok (.iconst (-1), 1) := by decide +kernel
theorem dX9_repay_63 : decode cX9_repay 63 = .ok (.ireturn, 1) := by decide +kernel
theorem dX9_repay_64 : decode cX9_repay 64 = .ok (.aload_n 0, 1) := by decide +kernel
theorem dX9_repay_65 : decode cX9_repay 65 = .ok (.getfield 51, 3) := by decide +kernel
theorem dX9_repay_68 : decode cX9_repay 68 = .ok (.aload_n 0, 1) := by decide +kernel
theorem dX9_repay_69 : decode cX9_repay 69 = .ok (.getfield 36, 3) := by decide +kernel
theorem dX9_repay_72 : decode cX9_repay 72 = .ok (.invokevirtual 236, 3) := by decide +kernel
theorem dX9_repay_75 : decode cX9_repay 75 = .ok (.aload_n 0, 1) := by decide +kernel
theorem dX9_repay_76 : decode cX9_repay 76 = .ok (.getfield 36, 3) := by decide +kernel
theorem dX9_repay_79 : decode cX9_repay 79 = .ok (.iload 4, 2) := by decide +kernel
theorem dX9_repay_81 : decode cX9_repay 81 = .ok (.invokevirtual 272, 3) := by decide +kernel
theorem dX9_repay_84 : decode cX9_repay 84 = .ok (.aload_n 0, 1) := by decide +kernel
theorem dX9_repay_85 : decode cX9_repay 85 = .ok (.getfield 36, 3) := by decide +kernel
theorem dX9_repay_88 : decode cX9_repay 88 = .ok (.iload_n 1, 1) := by decide +kernel
theorem dX9_repay_89 : decode cX9_repay 89 = .ok (.iload_n 2, 1) := by decide +kernel
theorem dX9_repay_90 : decode cX9_repay 90 = .ok (.iload 5, 2) := by decide +kernel
theorem dX9_repay_92 : decode cX9_repay 92 = .ok (.invokevirtual 240, 3) := by decide +kernel
theorem dX9_repay_95 : decode cX9_repay 95 = .ok (.pop, 1) := by decide +kernel
theorem dX9_repay_96 : decode cX9_repay 96 = .ok (.aload_n 0, 1) := by decide +kernel
theorem dX9_repay_97 : decode cX9_repay 97 = .ok (.getfield 36, 3) := by decide +kernel
theorem dX9_repay_100 : decode cX9_repay 100 = .ok (.getfield 171, 3) := by decide +kernel
theorem dX9_repay_103 : decode cX9_repay 103 = .ok (.iload 4, 2) := by decide +kernel
theorem dX9_repay_105 : decode cX9_repay 105 = .ok (.dup2, 1) := by decide +kernel
theorem dX9_repay_106 : decode cX9_repay 106 = .ok (.iaload, 1) := by decide +kernel
theorem dX9_repay_107 : decode cX9_repay 107 = .ok (.iload 5, 2) := by decide +kernel
theorem dX9_repay_109 : decode cX9_repay 109 = .ok (.isub, 1) := by decide +kernel
theorem dX9_repay_110 : decode cX9_repay 110 = .ok (.iastore, 1) := by decide +kernel
theorem dX9_repay_111 : decode cX9_repay 111 = .ok (.iload 5, 2) := by decide +kernel
theorem dX9_repay_113 : decode cX9_repay 113 = .ok (.ireturn, 1) := by decide +kernel
theorem dX9_weeks_0 : decode cX9_weeks 0 = .ok (.iload_n 1, 1) := by decide +kernel
theorem dX9_weeks_1 : decode cX9_weeks 1 = .ok (.ifCond .lt 9, 3) := by decide +kernel
theorem dX9_weeks_4 : decode cX9_weeks 4 = .ok (.iload_n 1, 1) := by decide +kernel
theorem dX9_weeks_5 : decode cX9_weeks 5 = .ok (.bipush 100, 2) := by decide +kernel
theorem dX9_weeks_7 : decode cX9_weeks 7 = .ok (.if_icmp .le 5, 3) := by decide +kernel
theorem dX9_weeks_10 : decode cX9_weeks 10 = .ok (.iconst (-1), 1) := by decide +kernel
theorem dX9_weeks_11 : decode cX9_weeks 11 = .ok (.ireturn, 1) := by decide +kernel
theorem dX9_weeks_12 : decode cX9_weeks 12 = .ok (.iload_n 1, 1) := by decide +kernel
theorem dX9_weeks_13 : decode cX9_weeks 13 = .ok (.ifCond .le 83, 3) := by decide +kernel
theorem dX9_weeks_16 : decode cX9_weeks 16 = .ok (.aload_n 0, 1) := by decide +kernel
theorem dX9_weeks_17 : decode cX9_weeks 17 = .ok (.getfield 51, 3) := by decide +kernel
theorem dX9_weeks_20 : decode cX9_weeks 20 = .ok (.aload_n 0, 1) := by decide +kernel
theorem dX9_weeks_21 : decode cX9_weeks 21 = .ok (.getfield 36, 3) := by decide +kernel
theorem dX9_weeks_24 : decode cX9_weeks 24 = .ok (.invokevirtual 236, 3) := by decide +kernel
theorem dX9_weeks_27 : decode cX9_weeks 27 = .ok (.pop, 1) := by decide +kernel
theorem dX9_weeks_28 : decode cX9_weeks 28 = .ok (.iconst 0, 1) := by decide +kernel
theorem dX9_weeks_29 : decode cX9_weeks 29 = .ok (.istore_n 2, 1) := by decide +kernel
theorem dX9_weeks_30 : decode cX9_weeks 30 = .ok (.iload_n 2, 1) := by decide +kernel
theorem dX9_weeks_31 : decode cX9_weeks 31 = .ok (.aload_n 0, 1) := by decide +kernel
theorem dX9_weeks_32 : decode cX9_weeks 32 = .ok (.getfield 26, 3) := by decide +kernel
theorem dX9_weeks_35 : decode cX9_weeks 35 = .ok (.getfield 117, 3) := by decide +kernel
theorem dX9_weeks_38 : decode cX9_weeks 38 = .ok (.if_icmp .ge 41, 3) := by decide +kernel
theorem dX9_weeks_41 : decode cX9_weeks 41 = .ok (.aload_n 0, 1) := by decide +kernel
theorem dX9_weeks_42 : decode cX9_weeks 42 = .ok (.getfield 36, 3) := by decide +kernel
theorem dX9_weeks_45 : decode cX9_weeks 45 = .ok (.getfield 120, 3) := by decide +kernel
theorem dX9_weeks_48 : decode cX9_weeks 48 = .ok (.iload_n 2, 1) := by decide +kernel
theorem dX9_weeks_49 : decode cX9_weeks 49 = .ok (.bipush 8, 2) := by decide +kernel
theorem dX9_weeks_51 : decode cX9_weeks 51 = .ok (.imul, 1) := by decide +kernel
theorem dX9_weeks_52 : decode cX9_weeks 52 = .ok (.iload_n 2, 1) := by decide +kernel
theorem dX9_weeks_53 : decode cX9_weeks 53 = .ok (.iadd, 1) := by decide +kernel
theorem dX9_weeks_54 : decode cX9_weeks 54 = .ok (.dup2, 1) := by decide +kernel
theorem dX9_weeks_55 : decode cX9_weeks 55 = .ok (.iaload, 1) := by decide +kernel
theorem dX9_weeks_56 : decode cX9_weeks 56 = .ok (.aload_n 0, 1) := by decide +kernel
theorem dX9_weeks_57 : decode cX9_weeks 57 = .ok (.iload_n 2, 1) := by decide +kernel
theorem dX9_weeks_58 : decode cX9_weeks 58 = .ok (.iload_n 1, 1) := by decide +kernel
theorem dX9_weeks_59 : decode cX9_weeks 59 = .ok (.invokevirtual 276, 3) := by decide +kernel
theorem dX9_weeks_62 : decode cX9_weeks 62 = .ok (.aload_n 0, 1) := by decide +kernel
theorem dX9_weeks_63 : decode cX9_weeks 63 = .ok (.getfield 36, 3) := by decide +kernel
theorem dX9_weeks_66 : decode cX9_weeks 66 = .ok (.iload_n 2, 1) := by decide +kernel
theorem dX9_weeks_67 : decode cX9_weeks 67 = .ok (.invokevirtual 140, 3) := by decide +kernel
theorem dX9_weeks_70 : decode cX9_weeks 70 = .ok (.isub, 1) := by decide +kernel
theorem dX9_weeks_71 : decode cX9_weeks 71 = .ok (.iadd, 1) := by decide +kernel
theorem dX9_weeks_72 : decode cX9_weeks 72 = .ok (.iastore, 1) := by decide +kernel
theorem dX9_weeks_73 : decode cX9_weeks 73 = .ok (.iinc 2 1, 3) := by decide +kernel
theorem dX9_weeks_76 : decode cX9_weeks 76 = .ok (.goto (-46), 3) := by decide +kernel
theorem dX9_weeks_79 : decode cX9_weeks 79 = .ok (.aload_n 0, 1) := by decide +kernel
theorem dX9_weeks_80 : decode cX9_weeks 80 = .ok (.getfield 36, 3) := by decide +kernel
theorem dX9_weeks_83 : decode cX9_weeks 83 = .ok (.dup, 1) := by decide +kernel
theorem dX9_weeks_84 : decode cX9_weeks 84 = .ok (.getfield 150, 3) := by decide +kernel
theorem dX9_weeks_87 : decode cX9_weeks 87 = .ok (.iload_n 1, 1) := by decide +kernel
theorem dX9_weeks_88 : decode cX9_weeks 88 = .ok (.iadd, 1) := by decide +kernel
theorem dX9_weeks_89 : decode cX9_weeks 89 = .ok (.putfield 150, 3) := by decide +kernel
theorem dX9_weeks_92 : decode cX9_weeks 92 = .ok (.aload_n 0, 1) := by decide +kernel
theorem dX9_weeks_93 : decode cX9_weeks 93 = .ok (.invokevirtual 248, 3) := by decide +kernel
theorem dX9_weeks_96 : decode cX9_weeks 96 = .ok (.aload_n 0, 1) := by decide +kernel
theorem dX9_weeks_97 : decode cX9_weeks 97 = .ok (.getfield 36, 3) := by decide +kernel
theorem dX9_weeks_100 : decode cX9_weeks 100 = .ok (.getfield 150, 3) := by decide +kernel
theorem dX9_weeks_103 : decode cX9_weeks 103 = .ok (.ireturn, 1) := by decide +kernel
theorem dX9_undo_0 : decode cX9_undo 0 = .ok (.aload_n 0, 1) := by decide +kernel
theorem dX9_undo_1 : decode cX9_undo 1 = .ok (.getfield 51, 3) := by decide +kernel
theorem dX9_undo_4 : decode cX9_undo 4 = .ok (.aload_n 0, 1) := by decide +kernel
theorem dX9_undo_5 : decode cX9_undo 5 = .ok (.getfield 36, 3) := by decide +kernel
theorem dX9_undo_8 : decode cX9_undo 8 = .ok (.invokevirtual 279, 3) := by decide +kernel
theorem dX9_undo_11 : decode cX9_undo 11 = .ok (.ifCond .ne 5, 3) := by decide +kernel
theorem dX9_undo_14 : decode cX9_undo 14 = .ok (.iconst 0, 1) := by decide +kernel
theorem dX9_undo_15 : decode cX9_undo 15 = .ok (.ireturn, 1) := by decide +kernel
theorem dX9_undo_16 : decode cX9_undo 16 = .ok (.aload_n 0, 1) := by decide +kernel
theorem dX9_undo_17 : decode cX9_undo 17 = .ok (.invokevirtual 248, 3) := by decide +kernel
theorem dX9_undo_20 : decode cX9_undo 20 = .ok (.iconst 1, 1) := by decide +kernel
theorem dX9_undo_21 : decode cX9_undo 21 = .ok (.ireturn, 1) := by decide +kernel
theorem dX9_hold_0 : decode cX9_hold 0 = .ok (.iload_n 1, 1) := by decide +kernel
theorem dX9_hold_1 : decode cX9_hold 1 = .ok (.ifCond .lt 8, 3) := by decide +kernel
theorem dX9_hold_4 : decode cX9_hold 4 = .ok (.iload_n 1, 1) := by decide +kernel
theorem dX9_hold_5 : decode cX9_hold 5 = .ok (.iconst 3, 1) := by decide +kernel
theorem dX9_hold_6 : decode cX9_hold 6 = .ok (.if_icmp .lt 5, 3) := by decide +kernel
theorem dX9_hold_9 : decode cX9_hold 9 = .ok (.iconst 0, 1) := by decide +kernel
theorem dX9_hold_10 : decode cX9_hold 10 = .ok (.ireturn, 1) := by decide +kernel
theorem dX9_hold_11 : decode cX9_hold 11 = .ok (.aload_n 0, 1) := by decide +kernel
theorem dX9_hold_12 : decode cX9_hold 12 = .ok (.getfield 40, 3) := by decide +kernel
theorem dX9_hold_15 : decode cX9_hold 15 = .ok (.iload_n 1, 1) := by decide +kernel
theorem dX9_hold_16 : decode cX9_hold 16 = .ok (.aaload, 1) := by decide +kernel
theorem dX9_hold_17 : decode cX9_hold 17 = .ok (.ifnonnull 16, 3) := by decide +kernel
theorem dX9_hold_20 : decode cX9_hold 20 = .ok (.aload_n 0, 1) := by decide +kernel
theorem dX9_hold_21 : decode cX9_hold 21 = .ok (.getfield 40, 3) := by decide +kernel
theorem dX9_hold_24 : decode cX9_hold 24 = .ok (.iload_n 1, 1) := by decide +kernel
theorem dX9_hold_25 : decode cX9_hold 25 = .ok (.new 33, 3) := by decide +kernel
theorem dX9_hold_28 : decode cX9_hold 28 = .ok (.dup, 1) := by decide +kernel
theorem dX9_hold_29 : decode cX9_hold 29 = .ok (.invokespecial 35, 3) := by decide +kernel
theorem dX9_hold_32 : decode cX9_hold 32 = .ok (.aastore, 1) := by decide +kernel
theorem dX9_hold_33 : decode cX9_hold 33 = .ok (.aload_n 0, 1) := by decide +kernel
theorem dX9_hold_34 : decode cX9_hold 34 = .ok (.getfield 40, 3) := by decide +kernel
theorem dX9_hold_37 : decode cX9_hold 37 = .ok (.iload_n 1, 1) := by decide +kernel
theorem dX9_hold_38 : decode cX9_hold 38 = .ok (.aaload, 1) := by decide +kernel
theorem dX9_hold_39 : decode cX9_hold 39 = .ok (.aload_n 0, 1) := by decide +kernel
theorem dX9_hold_40 : decode cX9_hold 40 = .ok (.getfield 36, 3) := by decide +kernel
theorem dX9_hold_43 : decode cX9_hold 43 = .ok (.invokevirtual 283, 3) := by decide +kernel
theorem dX9_hold_46 : decode cX9_hold 46 = .ok (.aload_n 0, 1) := by decide +kernel
theorem dX9_hold_47 : decode cX9_hold 47 = .ok (.getfield 44, 3) := by decide +kernel
theorem dX9_hold_50 : decode cX9_hold 50 = .ok (.iload_n 1, 1) := by decide +kernel
theorem dX9_hold_51 : decode cX9_hold 51 = .ok (.iconst 1, 1) := by decide +kernel
theorem dX9_hold_52 : decode cX9_hold 52 = .ok (.bastore, 1) := by decide +kernel
theorem dX9_hold_53 : decode cX9_hold 53 = .ok (.iconst 1, 1) := by decide +kernel
theorem dX9_hold_54 : decode cX9_hold 54 = .ok (.ireturn, 1) := by decide +kernel
theorem dX9_restore_0 : decode cX9_restore 0 = .ok (.iload_n 1, 1) := by decide +kernel
theorem dX9_restore_1 : decode cX9_restore 1 = .ok (.ifCond .lt 26, 3) := by decide +kernel
theorem dX9_restore_4 : decode cX9_restore 4 = .ok (.iload_n 1, 1) := by decide +kernel
theorem dX9_restore_5 : decode cX9_restore 5 = .ok (.iconst 3, 1) := by decide +kernel
theorem dX9_restore_6 : decode cX9_restore 6 = .ok (.if_icmp .ge 21, 3) := by decide +kernel
theorem dX9_restore_9 : decode cX9_restore 9 = .ok (.aload_n 0, 1) := by decide +kernel
theorem dX9_restore_10 : decode cX9_restore 10 = .ok (.getfield 44, 3) := by decide +kernel
theorem dX9_restore_13 : decode cX9_restore 13 = .ok (.iload_n 1, 1) := by decide +kernel
theorem dX9_restore_14 : decode cX9_restore 14 = .ok (.baload, 1) := by decide +kernel
theorem dX9_restore_15 : decode cX9_restore 15 = .ok (.ifCond .eq 12, 3) := by decide +kernel
theorem dX9_restore_18 : decode cX9_restore 18 = .ok (.aload_n 0, 1) := by decide +kernel
theorem dX9_restore_19 : decode cX9_restore 19 = .ok (.getfield 40, 3) := by decide +kernel
theorem dX9_restore_22 : decode cX9_restore 22 = .ok (.iload_n 1, 1) := by decide +kernel
theorem dX9_restore_23 : decode cX9_restore 23 = .ok (.aaload, 1) := by decide +kernel
theorem dX9_restore_24 : decode cX9_restore 24 = .ok (.ifnonnull 5, 3) := by decide +kernel
theorem dX9_restore_27 : decode cX9_restore 27 = .ok (.iconst 0, 1) := by decide +kernel
theorem dX9_restore_28 : decode cX9_restore 28 = .ok (.ireturn, 1) := by decide +kernel
theorem dX9_restore_29 : decode cX9_restore 29 = .ok (.aload_n 0, 1) := by decide +kernel
theorem dX9_restore_30 : decode cX9_restore 30 = .ok (.getfield 36, 3) := by decide +kernel
theorem dX9_restore_33 : decode cX9_restore 33 = .ok (.aload_n 0, 1) := by decide +kernel
theorem dX9_restore_34 : decode cX9_restore 34 = .ok (.getfield 40, 3) := by decide +kernel
theorem dX9_restore_37 : decode cX9_restore 37 = .ok (.iload_n 1, 1) := by decide +kernel
theorem dX9_restore_38 : decode cX9_restore 38 = .ok (.aaload, 1) := by decide +kernel
theorem dX9_restore_39 : decode cX9_restore 39 = .ok (.invokevirtual 283, 3) := by decide +kernel
theorem dX9_restore_42 : decode cX9_restore 42 = .ok (.aload_n 0, 1) := by decide +kernel
theorem dX9_restore_43 : decode cX9_restore 43 = .ok (.invokevirtual 248, 3) := by decide +kernel
theorem dX9_restore_46 : decode cX9_restore 46 = .ok (.aload_n 0, 1) := by decide +kernel
theorem dX9_restore_47 : decode cX9_restore 47 = .ok (.getfield 51, 3) := by decide +kernel
theorem dX9_restore_50 : decode cX9_restore 50 = .ok (.iconst 0, 1) := by decide +kernel
theorem dX9_restore_51 : decode cX9_restore 51 = .ok (.putfield 124, 3) := by decide +kernel
theorem dX9_restore_54 : decode cX9_restore 54 = .ok (.iconst 1, 1) := by decide +kernel
theorem dX9_restore_55 : decode cX9_restore 55 = .ok (.ireturn, 1) := by decide +kernel
theorem dX9_timesIn_0 : decode cX9_timesIn 0 = .ok (.aload_n 0, 1) := by decide +kernel
theorem dX9_timesIn_1 : decode cX9_timesIn 1 = .ok (.getfield 26, 3) := by decide +kernel
theorem dX9_timesIn_4 : decode cX9_timesIn 4 = .ok (.getfield 230, 3) := by decide +kernel
theorem dX9_timesIn_7 : decode cX9_timesIn 7 = .ok (.ifCond .le 34, 3) := by decide +kernel
theorem dX9_timesIn_10 : decode cX9_timesIn 10 = .ok (.iload_n 2, 1) := by decide +kernel
theorem dX9_timesIn_11 : decode cX9_timesIn 11 = .ok (.aload_n 0, 1) := by decide +kernel
theorem dX9_timesIn_12 : decode cX9_timesIn 12 = .ok (.getfield 26, 3) := by decide +kernel
theorem dX9_timesIn_15 : decode cX9_timesIn 15 = .ok (.getfield 230, 3) := by decide +kernel
theorem dX9_timesIn_18 : decode cX9_timesIn 18 = .ok (.idiv, 1) := by decide +kernel
theorem dX9_timesIn_19 : decode cX9_timesIn 19 = .ok (.aload_n 0, 1) := by decide +kernel
theorem dX9_timesIn_20 : decode cX9_timesIn 20 = .ok (.getfield 36, 3) := by decide +kernel
theorem dX9_timesIn_23 : decode cX9_timesIn 23 = .ok (.getfield 150, 3) := by decide +kernel
theorem dX9_timesIn_26 : decode cX9_timesIn 26 = .ok (.aload_n 0, 1) := by decide +kernel
theorem dX9_timesIn_27 : decode cX9_timesIn 27 = .ok (.getfield 26, 3) := by decide +kernel
theorem dX9_timesIn_30 : decode cX9_timesIn 30 = .ok (.getfield 230, 3) := by decide +kernel
theorem dX9_timesIn_33 : decode cX9_timesIn 33 = .ok (.idiv, 1) := by decide +kernel
theorem dX9_timesIn_34 : decode cX9_timesIn 34 = .ok (.if_icmp .le 7, 3) := by decide +kernel
theorem dX9_timesIn_37 : decode cX9_timesIn 37 = .ok (.iconst 1, 1) := by decide +kernel
theorem dX9_timesIn_38 : decode cX9_timesIn 38 = .ok (.goto 4, 3) := by decide +kernel
theorem dX9_timesIn_41 : decode cX9_timesIn 41 = .ok (.iconst 0, 1) := by decide +kernel
theorem dX9_timesIn_42 : decode cX9_timesIn 42 = .ok (.istore_n 3, 1) := by decide +kernel
theorem dX9_timesIn_43 : decode cX9_timesIn 43 = .ok (.iload_n 3, 1) := by decide +kernel
theorem dX9_timesIn_44 : decode cX9_timesIn 44 = .ok (.ifCond .eq 7, 3) := by decide +kernel
theorem dX9_timesIn_47 : decode cX9_timesIn 47 = .ok (.iconst 0, 1) := by decide +kernel
theorem dX9_timesIn_48 : decode cX9_timesIn 48 = .ok (.goto 11, 3) := by decide +kernel
theorem dX9_timesIn_51 : decode cX9_timesIn 51 = .ok (.aload_n 0, 1) := by decide +kernel
theorem dX9_timesIn_52 : decode cX9_timesIn 52 = .ok (.getfield 36, 3) := by decide +kernel
theorem dX9_timesIn_55 : decode cX9_timesIn 55 = .ok (.iload_n 1, 1) := by decide +kernel
theorem dX9_timesIn_56 : decode cX9_timesIn 56 = .ok (.invokevirtual 144, 3) := by decide +kernel
theorem dX9_timesIn_59 : decode cX9_timesIn 59 = .ok (.ireturn, 1) := by decide +kernel
theorem dX9_haveNext_0 : decode cX9_haveNext 0 = .ok (.aload_n 0, 1) := by decide +kernel
theorem dX9_haveNext_1 : decode cX9_haveNext 1 = .ok (.getfield 26, 3) := by decide +kernel
theorem dX9_haveNext_4 : decode cX9_haveNext 4 = .ok (.iload_n 2, 1) := by decide +kernel
theorem dX9_haveNext_5 : decode cX9_haveNext 5 = .ok (.aload_n 0, 1) := by decide +kernel
theorem dX9_haveNext_6 : decode cX9_haveNext 6 = .ok (.iload_n 1, 1) := by decide +kernel
theorem dX9_haveNext_7 : decode cX9_haveNext 7 = .ok (.iload_n 3, 1) := by decide +kernel
theorem dX9_haveNext_8 : decode cX9_haveNext 8 = .ok (.invokevirtual 287, 3) := by decide +kernel
theorem dX9_haveNext_11 : decode cX9_haveNext 11 = .ok (.iload_n 3, 1) := by decide +kernel
theorem dX9_haveNext_12 : decode cX9_haveNext 12 = .ok (.aload_n 0, 1) := by decide +kernel
theorem dX9_haveNext_13 : decode cX9_haveNext 13 = .ok (.getfield 36, 3) := by decide +kernel
theorem dX9_haveNext_16 : decode cX9_haveNext 16 = .ok (.bipush 8, 2) := by decide +kernel
theorem dX9_haveNext_18 : decode cX9_haveNext 18 = .ok (.invokevirtual 140, 3) := by decide +kernel
theorem dX9_haveNext_21 : decode cX9_haveNext 21 = .ok (.iload_n 1, 1) := by decide +kernel
theorem dX9_haveNext_22 : decode cX9_haveNext 22 = .ok (.invokevirtual 184, 3) := by decide +kernel
theorem dX9_haveNext_25 : decode cX9_haveNext 25 = .ok (.aload_n 0, 1) := by decide +kernel
theorem dX9_haveNext_26 : decode cX9_haveNext 26 = .ok (.getfield 26, 3) := by decide +kernel
theorem dX9_haveNext_29 : decode cX9_haveNext 29 = .ok (.aload_n 0, 1) := by decide +kernel
theorem dX9_haveNext_30 : decode cX9_haveNext 30 = .ok (.getfield 26, 3) := by decide +kernel
theorem dX9_haveNext_33 : decode cX9_haveNext 33 = .ok (.getfield 290, 3) := by decide +kernel
theorem dX9_haveNext_36 : decode cX9_haveNext 36 = .ok (.iconst 0, 1) := by decide +kernel
theorem dX9_haveNext_37 : decode cX9_haveNext 37 = .ok (.iaload, 1) := by decide +kernel
theorem dX9_haveNext_38 : decode cX9_haveNext 38 = .ok (.invokevirtual 191, 3) := by decide +kernel
