/-! decode rows 7 -/
theorem dX10_appeal_52 : decode cX10_appeal 52 = .ok (.iload_n 3, 1) := by decide +kernel
theorem dX10_appeal_53 : decode cX10_appeal 53 = .ok (.invokevirtual 319, 3) := by decide +kernel
theorem dX10_appeal_56 : decode cX10_appeal 56 = .ok (.ifCond .ne 6, 3) := by decide +kernel
theorem dX10_appeal_59 : decode cX10_appeal 59 = .ok (.bipush (-2), 2) := by decide +kernel
theorem dX10_appeal_61 : decode cX10_appeal 61 = .ok (.ireturn, 1) := by decide +kernel
theorem dX10_appeal_62 : decode cX10_appeal 62 = .ok (.aload_n 0, 1) := by decide +kernel
theorem dX10_appeal_63 : decode cX10_appeal 63 = .ok (.iload_n 3, 1) := by decide +kernel
theorem dX10_appeal_64 : decode cX10_appeal 64 = .ok (.bipush 8, 2) := by decide +kernel
theorem dX10_appeal_66 : decode cX10_appeal 66 = .ok (.iconst 1, 1) := by decide +kernel
theorem dX10_appeal_67 : decode cX10_appeal 67 = .ok (.iload_n 3, 1) := by decide +kernel
theorem dX10_appeal_68 : decode cX10_appeal 68 = .ok (.invokevirtual 369, 3) := by decide +kernel
theorem dX10_appeal_71 : decode cX10_appeal 71 = .ok (.aload_n 0, 1) := by decide +kernel
theorem dX10_appeal_72 : decode cX10_appeal 72 = .ok (.getfield 110, 3) := by decide +kernel
theorem dX10_appeal_75 : decode cX10_appeal 75 = .ok (.iload_n 2, 1) := by decide +kernel
theorem dX10_appeal_76 : decode cX10_appeal 76 = .ok (.iconst 3, 1) := by decide +kernel
theorem dX10_appeal_77 : decode cX10_appeal 77 = .ok (.iadd, 1) := by decide +kernel
theorem dX10_appeal_78 : decode cX10_appeal 78 = .ok (.iaload, 1) := by decide +kernel
theorem dX10_appeal_79 : decode cX10_appeal 79 = .ok (.iconst 2, 1) := by decide +kernel
theorem dX10_appeal_80 : decode cX10_appeal 80 = .ok (.idiv, 1) := by decide +kernel
theorem dX10_appeal_81 : decode cX10_appeal 81 = .ok (.istore 4, 2) := by decide +kernel
theorem dX10_appeal_83 : decode cX10_appeal 83 = .ok (.iload 4, 2) := by decide +kernel
theorem dX10_appeal_85 : decode cX10_appeal 85 = .ok (.aload_n 0, 1) := by decide +kernel
theorem dX10_appeal_86 : decode cX10_appeal 86 = .ok (.bipush 8, 2) := by decide +kernel
theorem dX10_appeal_88 : decode cX10_appeal 88 = .ok (.invokevirtual 319, 3) := by decide +kernel
theorem dX10_appeal_91 : decode cX10_appeal 91 = .ok (.if_icmp .le 11, 3) := by decide +kernel
theorem dX10_appeal_94 : decode cX10_appeal 94 = .ok (.aload_n 0, 1) := by decide +kernel
theorem dX10_appeal_95 : decode cX10_appeal 95 = .ok (.bipush 8, 2) := by decide +kernel
theorem dX10_appeal_97 : decode cX10_appeal 97 = .ok (.invokevirtual 319, 3) := by decide +kernel
theorem dX10_appeal_100 : decode cX10_appeal 100 = .ok (.istore 4, 2) := by decide +kernel
theorem dX10_appeal_102 : decode cX10_appeal 102 = .ok (.aload_n 0, 1) := by decide +kernel
theorem dX10_appeal_103 : decode cX10_appeal 103 = .ok (.bipush 8, 2) := by decide +kernel
theorem dX10_appeal_105 : decode cX10_appeal 105 = .ok (.iload_n 3, 1) := by decide +kernel
theorem dX10_appeal_106 : decode cX10_appeal 106 = .ok (.iload 4, 2) := by decide +kernel
theorem dX10_appeal_108 : decode cX10_appeal 108 = .ok (.iload_n 3, 1) := by decide +kernel
theorem dX10_appeal_109 : decode cX10_appeal 109 = .ok (.invokevirtual 369, 3) := by decide +kernel
theorem dX10_appeal_112 : decode cX10_appeal 112 = .ok (.aload_n 0, 1) := by decide +kernel
theorem dX10_appeal_113 : decode cX10_appeal 113 = .ok (.getfield 110, 3) := by decide +kernel
theorem dX10_appeal_116 : decode cX10_appeal 116 = .ok (.iload_n 2, 1) := by decide +kernel
theorem dX10_appeal_117 : decode cX10_appeal 117 = .ok (.iconst 4, 1) := by decide +kernel
theorem dX10_appeal_118 : decode cX10_appeal 118 = .ok (.iadd, 1) := by decide +kernel
theorem dX10_appeal_119 : decode cX10_appeal 119 = .ok (.iconst 1, 1) := by decide +kernel
theorem dX10_appeal_120 : decode cX10_appeal 120 = .ok (.iastore, 1) := by decide +kernel
theorem dX10_appeal_121 : decode cX10_appeal 121 = .ok (.aload_n 0, 1) := by decide +kernel
theorem dX10_appeal_122 : decode cX10_appeal 122 = .ok (.invokevirtual 373, 3) := by decide +kernel
theorem dX10_appeal_125 : decode cX10_appeal 125 = .ok (.iload 4, 2) := by decide +kernel
theorem dX10_appeal_127 : decode cX10_appeal 127 = .ok (.ireturn, 1) := by decide +kernel
theorem dX10_goesOver_0 : decode cX10_goesOver 0 = .ok (.aload_n 0, 1) := by decide +kernel
theorem dX10_goesOver_1 : decode cX10_goesOver 1 = .ok (.iload_n 1, 1) := by decide +kernel
theorem dX10_goesOver_2 : decode cX10_goesOver 2 = .ok (.iload_n 2, 1) := by decide +kernel
theorem dX10_goesOver_3 : decode cX10_goesOver 3 = .ok (.invokevirtual 355, 3) := by decide +kernel
theorem dX10_goesOver_6 : decode cX10_goesOver 6 = .ok (.ifCond .eq 8, 3) := by decide +kernel
theorem dX10_goesOver_9 : decode cX10_goesOver 9 = .ok (.iload_n 3, 1) := by decide +kernel
theorem dX10_goesOver_10 : decode cX10_goesOver 10 = .ok (.iconst 1, 1) := by decide +kernel
theorem dX10_goesOver_11 : decode cX10_goesOver 11 = .ok (.if_icmp .ge 5, 3) := by decide +kernel
theorem dX10_goesOver_14 : decode cX10_goesOver 14 = .ok (.iconst 0, 1) := by decide +kernel
theorem dX10_goesOver_15 : decode cX10_goesOver 15 = .ok (.ireturn, 1) := by decide +kernel
theorem dX10_goesOver_16 : decode cX10_goesOver 16 = .ok (.aload_n 0, 1) := by decide +kernel
theorem dX10_goesOver_17 : decode cX10_goesOver 17 = .ok (.invokevirtual 366, 3) := by decide +kernel
theorem dX10_goesOver_20 : decode cX10_goesOver 20 = .ok (.iload_n 3, 1) := by decide +kernel
theorem dX10_goesOver_21 : decode cX10_goesOver 21 = .ok (.aload_n 0, 1) := by decide +kernel
theorem dX10_goesOver_22 : decode cX10_goesOver 22 = .ok (.iload_n 1, 1) := by decide +kernel
theorem dX10_goesOver_23 : decode cX10_goesOver 23 = .ok (.invokevirtual 319, 3) := by decide +kernel
theorem dX10_goesOver_26 : decode cX10_goesOver 26 = .ok (.if_icmp .gt 16, 3) := by decide +kernel
theorem dX10_goesOver_29 : decode cX10_goesOver 29 = .ok (.iload_n 3, 1) := by decide +kernel
theorem dX10_goesOver_30 : decode cX10_goesOver 30 = .ok (.sipush 9999, 3) := by decide +kernel
theorem dX10_goesOver_33 : decode cX10_goesOver 33 = .ok (.aload_n 0, 1) := by decide +kernel
theorem dX10_goesOver_34 : decode cX10_goesOver 34 = .ok (.iload_n 2, 1) := by decide +kernel
theorem dX10_goesOver_35 : decode cX10_goesOver 35 = .ok (.invokevirtual 319, 3) := by decide +kernel
theorem dX10_goesOver_38 : decode cX10_goesOver 38 = .ok (.isub, 1) := by decide +kernel
theorem dX10_goesOver_39 : decode cX10_goesOver 39 = .ok (.if_icmp .le 5, 3) := by decide +kernel
theorem dX10_goesOver_42 : decode cX10_goesOver 42 = .ok (.iconst 0, 1) := by decide +kernel
theorem dX10_goesOver_43 : decode cX10_goesOver 43 = .ok (.ireturn, 1) := by decide +kernel
theorem dX10_goesOver_44 : decode cX10_goesOver 44 = .ok (.aload_n 0, 1) := by decide +kernel
theorem dX10_goesOver_45 : decode cX10_goesOver 45 = .ok (.iload_n 1, 1) := by decide +kernel
theorem dX10_goesOver_46 : decode cX10_goesOver 46 = .ok (.iload_n 2, 1) := by decide +kernel
theorem dX10_goesOver_47 : decode cX10_goesOver 47 = .ok (.iload_n 3, 1) := by decide +kernel
theorem dX10_goesOver_48 : decode cX10_goesOver 48 = .ok (.iload_n 1, 1) := by decide +kernel
theorem dX10_goesOver_49 : decode cX10_goesOver 49 = .ok (.invokevirtual 369, 3) := by decide +kernel
theorem dX10_goesOver_52 : decode cX10_goesOver 52 = .ok (.iconst 1, 1) := by decide +kernel
theorem dX10_goesOver_53 : decode cX10_goesOver 53 = .ok (.ireturn, 1) := by decide +kernel
theorem dX10_stuff_0 : decode cX10_stuff 0 = .ok (.aload_n 0, 1) := by decide +kernel
theorem dX10_stuff_1 : decode cX10_stuff 1 = .ok (.iload_n 1, 1) := by decide +kernel
theorem dX10_stuff_2 : decode cX10_stuff 2 = .ok (.iload_n 2, 1) := by decide +kernel
theorem dX10_stuff_3 : decode cX10_stuff 3 = .ok (.iload_n 3, 1) := by decide +kernel
theorem dX10_stuff_4 : decode cX10_stuff 4 = .ok (.invokevirtual 376, 3) := by decide +kernel
theorem dX10_stuff_7 : decode cX10_stuff 7 = .ok (.ifCond .ne 5, 3) := by decide +kernel
theorem dX10_stuff_10 : decode cX10_stuff 10 = .ok (.iconst 0, 1) := by decide +kernel
theorem dX10_stuff_11 : decode cX10_stuff 11 = .ok (.ireturn, 1) := by decide +kernel
theorem dX10_stuff_12 : decode cX10_stuff 12 = .ok (.aload_n 0, 1) := by decide +kernel
theorem dX10_stuff_13 : decode cX10_stuff 13 = .ok (.invokevirtual 373, 3) := by decide +kernel
theorem dX10_stuff_16 : decode cX10_stuff 16 = .ok (.iconst 1, 1) := by decide +kernel
theorem dX10_stuff_17 : decode cX10_stuff 17 = .ok (.ireturn, 1) := by decide +kernel
theorem dX10_lend_0 : decode cX10_lend 0 = .ok (.aload_n 0, 1) := by decide +kernel
theorem dX10_lend_1 : decode cX10_lend 1 = .ok (.iload_n 1, 1) := by decide +kernel
theorem dX10_lend_2 : decode cX10_lend 2 = .ok (.iload_n 2, 1) := by decide +kernel
theorem dX10_lend_3 : decode cX10_lend 3 = .ok (.iload_n 3, 1) := by decide +kernel
theorem dX10_lend_4 : decode cX10_lend 4 = .ok (.invokevirtual 376, 3) := by decide +kernel
theorem dX10_lend_7 : decode cX10_lend 7 = .ok (.ifCond .ne 5, 3) := by decide +kernel
theorem dX10_lend_10 : decode cX10_lend 10 = .ok (.iconst 0, 1) := by decide +kernel
theorem dX10_lend_11 : decode cX10_lend 11 = .ok (.ireturn, 1) := by decide +kernel
theorem dX10_lend_12 : decode cX10_lend 12 = .ok (.aload_n 0, 1) := by decide +kernel
theorem dX10_lend_13 : decode cX10_lend 13 = .ok (.getfield 110, 3) := by decide +kernel
theorem dX10_lend_16 : decode cX10_lend 16 = .ok (.bipush 72, 2) := by decide +kernel
theorem dX10_lend_18 : decode cX10_lend 18 = .ok (.bipush 8, 2) := by decide +kernel
theorem dX10_lend_20 : decode cX10_lend 20 = .ok (.iload_n 2, 1) := by decide +kernel
theorem dX10_lend_21 : decode cX10_lend 21 = .ok (.imul, 1) := by decide +kernel
theorem dX10_lend_22 : decode cX10_lend 22 = .ok (.iadd, 1) := by decide +kernel
theorem dX10_lend_23 : decode cX10_lend 23 = .ok (.iload_n 1, 1) := by decide +kernel
theorem dX10_lend_24 : decode cX10_lend 24 = .ok (.iadd, 1) := by decide +kernel
theorem dX10_lend_25 : decode cX10_lend 25 = .ok (.dup2, 1) := by decide +kernel
theorem dX10_lend_26 : decode cX10_lend 26 = .ok (.iaload, 1) := by decide +kernel
theorem dX10_lend_27 : decode cX10_lend 27 = .ok (.iload_n 3, 1) := by decide +kernel
theorem dX10_lend_28 : decode cX10_lend 28 = .ok (.iadd, 1) := by decide +kernel
theorem dX10_lend_29 : decode cX10_lend 29 = .ok (.iastore, 1) := by decide +kernel
theorem dX10_lend_30 : decode cX10_lend 30 = .ok (.aload_n 0, 1) := by decide +kernel
theorem dX10_lend_31 : decode cX10_lend 31 = .ok (.invokevirtual 373, 3) := by decide +kernel
theorem dX10_lend_34 : decode cX10_lend 34 = .ok (.iconst 1, 1) := by decide +kernel
theorem dX10_lend_35 : decode cX10_lend 35 = .ok (.ireturn, 1) := by decide +kernel
theorem dX10_repay_0 : decode cX10_repay 0 = .ok (.aload_n 0, 1) := by decide +kernel
theorem dX10_repay_1 : decode cX10_repay 1 = .ok (.iload_n 1, 1) := by decide +kernel
theorem dX10_repay_2 : decode cX10_repay 2 = .ok (.iload_n 2, 1) := by decide +kernel
theorem dX10_repay_3 : decode cX10_repay 3 = .ok (.invokevirtual 355, 3) := by decide +kernel
theorem dX10_repay_6 : decode cX10_repay 6 = .ok (.ifCond .ne 5, 3) := by decide +kernel
theorem dX10_repay_9 : decode cX10_repay 9 = .ok (.iconst (-1), 1) := by decide +kernel
theorem dX10_repay_10 : decode cX10_repay 10 = .ok (.ireturn, 1) := by decide +kernel
theorem dX10_repay_11 : decode cX10_repay 11 = .ok (.aload_n 0, 1) := by decide +kernel
theorem dX10_repay_12 : decode cX10_repay 12 = .ok (.invokevirtual 343, 3) := by decide +kernel
theorem dX10_repay_15 : decode cX10_repay 15 = .ok (.iload_n 3, 1) := by decide +kernel
theorem dX10_repay_16 : decode cX10_repay 16 = .ok (.aload_n 0, 1) := by decide +kernel
theorem dX10_repay_17 : decode cX10_repay 17 = .ok (.iload_n 1, 1) := by decide +kernel
theorem dX10_repay_18 : decode cX10_repay 18 = .ok (.invokevirtual 319, 3) := by decide +kernel
theorem dX10_repay_21 : decode cX10_repay 21 = .ok (.if_icmp .ge 7, 3) := by decide +kernel
theorem dX10_repay_24 : decode cX10_repay 24 = .ok (.iload_n 3, 1) := by decide +kernel
theorem dX10_repay_25 : decode cX10_repay 25 = .ok (.goto 8, 3) := by decide +kernel
theorem dX10_repay_28 : decode cX10_repay 28 = .ok (.aload_n 0, 1) := by decide +kernel
theorem dX10_repay_29 : decode cX10_repay 29 = .ok (.iload_n 1, 1) := by decide +kernel
theorem dX10_repay_30 : decode cX10_repay 30 = .ok (.invokevirtual 319, 3) := by decide +kernel
theorem dX10_repay_33 : decode cX10_repay 33 = .ok (.istore 4, 2) := by decide +kernel
theorem dX10_repay_35 : decode cX10_repay 35 = .ok (.aload_n 0, 1) := by decide +kernel
theorem dX10_repay_36 : decode cX10_repay 36 = .ok (.getfield 110, 3) := by decide +kernel
theorem dX10_repay_39 : decode cX10_repay 39 = .ok (.bipush 72, 2) := by decide +kernel
theorem dX10_repay_41 : decode cX10_repay 41 = .ok (.bipush 8, 2) := by decide +kernel
theorem dX10_repay_43 : decode cX10_repay 43 = .ok (.iload_n 1, 1) := by decide +kernel
theorem dX10_repay_44 : decode cX10_repay 44 = .ok (.imul, 1) := by decide +kernel
theorem dX10_repay_45 : decode cX10_repay 45 = .ok (.iadd, 1) := by decide +kernel
theorem dX10_repay_46 : decode cX10_repay 46 = .ok (.iload_n 2, 1) := by decide +kernel
theorem dX10_repay_47 : decode cX10_repay 47 = .ok (.iadd, 1) := by decide +kernel
theorem dX10_repay_48 : decode cX10_repay 48 = .ok (.iaload, 1) := by decide +kernel
theorem dX10_repay_49 : decode cX10_repay 49 = .ok (.iload 4, 2) := by decide +kernel
theorem dX10_repay_51 : decode cX10_repay 51 = .ok (.if_icmp .ge 19, 3) := by decide +kernel
theorem dX10_repay_54 : decode cX10_repay 54 = .ok (.aload_n 0, 1) := by decide +kernel
theorem dX10_repay_55 : decode cX10_repay 55 = .ok (.getfield 110, 3) := by decide +kernel
theorem dX10_repay_58 : decode cX10_repay 58 = .ok (.bipush 72, 2) := by decide +kernel
theorem dX10_repay_60 : decode cX10_repay 60 = .ok (.bipush 8, 2) := by decide +kernel
theorem dX10_repay_62 : decode cX10_repay 62 = .ok (.iload_n 1, 1) := by decide +kernel
theorem dX10_repay_63 : decode cX10_repay 63 = .ok (.imul, 1) := by decide +kernel
theorem dX10_repay_64 : decode cX10_repay 64 = .ok (.iadd, 1) := by decide +kernel
theorem dX10_repay_65 : decode cX10_repay 65 = .ok (.iload_n 2, 1) := by decide +kernel
theorem dX10_repay_66 : decode cX10_repay 66 = .ok (.iadd, 1) := by decide +kernel
theorem dX10_repay_67 : decode cX10_repay 67 = .ok (.iaload, 1) := by decide +kernel
theorem dX10_repay_68 : decode cX10_repay 68 = .ok (.istore 4, 2) := by decide +kernel
theorem dX10_repay_70 : decode cX10_repay 70 = .ok (.aload_n 0, 1) := by decide +kernel
theorem dX10_repay_71 : decode cX10_repay 71 = .ok (.iload_n 1, 1) := by decide +kernel
theorem dX10_repay_72 : decode cX10_repay 72 = .ok (.iload_n 2, 1) := by decide +kernel
theorem dX10_repay_73 : decode cX10_repay 73 = .ok (.iload 4, 2) := by decide +kernel
theorem dX10_repay_75 : decode cX10_repay 75 = .ok (.invokevirtual 376, 3) := by decide +kernel
theorem dX10_repay_78 : decode cX10_repay 78 = .ok (.ifCond .ne 5, 3) := by decide +kernel
theorem dX10_repay_81 : decode cX10_repay 81 = .ok (.iconst (-1), 1) := by decide +kernel
theorem dX10_repay_82 : decode cX10_repay 82 = .ok (.ireturn, 1) := by decide +kernel
theorem dX10_repay_83 : decode cX10_repay 83 = .ok (.aload_n 0, 1) := by decide +kernel
theorem dX10_repay_84 : decode cX10_repay 84 = .ok (.getfield 110, 3) := by decide +kernel
theorem dX10_repay_87 : decode cX10_repay 87 = .ok (.bipush 72, 2) := by decide +kernel
theorem dX10_repay_89 : decode cX10_repay 89 = .ok (.bipush 8, 2) := by decide +kernel
theorem dX10_repay_91 : decode cX10_repay 91 = .ok (.iload_n 1, 1) := by decide +kernel
theorem dX10_repay_92 : decode cX10_repay 92 = .ok (.imul, 1) := by decide +kernel
theorem dX10_repay_93 : decode cX10_repay 93 = .ok (.iadd, 1) := by decide +kernel
theorem dX10_repay_94 : decode cX10_repay 94 = .ok (.iload_n 2, 1) := by decide +kernel
theorem dX10_repay_95 : decode cX10_repay 95 = .ok (.iadd, 1) := by decide +kernel
theorem dX10_repay_96 : decode cX10_repay 96 = .ok (.dup2, 1) := by decide +kernel
theorem dX10_repay_97 : decode cX10_repay 97 = .ok (.iaload, 1) := by decide +kernel
theorem dX10_repay_98 : decode cX10_repay 98 = .ok (.iload 4, 2) := by decide +kernel
theorem dX10_repay_100 : decode cX10_repay 100 = .ok (.isub, 1) := by decide +kernel
theorem dX10_repay_101 : decode cX10_repay 101 = .ok (.iastore, 1) := by decide +kernel
theorem dX10_repay_102 : decode cX10_repay 102 = .ok (.aload_n 0, 1) := by decide +kernel
theorem dX10_repay_103 : decode cX10_repay 103 = .ok (.invokevirtual 373, 3) := by decide +kernel
theorem dX10_repay_106 : decode cX10_repay 106 = .ok (.iload 4, 2) := by decide +kernel
theorem dX10_repay_108 : decode cX10_repay 108 = .ok (.ireturn, 1) := by decide +kernel
theorem dX10_weeks_0 : decode cX10_weeks 0 = .ok (.iload_n 1, 1) := by decide +kernel
theorem dX10_weeks_1 : decode cX10_weeks 1 = .ok (.iconst 0, 1) := by decide +kernel
theorem dX10_weeks_2 : decode cX10_weeks 2 = .ok (.bipush 100, 2) := by decide +kernel
theorem dX10_weeks_4 : decode cX10_weeks 4 = .ok (.invokestatic 312, 3) := by decide +kernel
theorem dX10_weeks_7 : decode cX10_weeks 7 = .ok (.ifCond .ne 5, 3) := by decide +kernel
theorem dX10_weeks_10 : decode cX10_weeks 10 = .ok (.iconst (-1), 1) := by decide +kernel
theorem dX10_weeks_11 : decode cX10_weeks 11 = .ok (.ireturn, 1) := by decide +kernel
theorem dX10_weeks_12 : decode cX10_weeks 12 = .ok (.iload_n 1, 1) := by decide +kernel
theorem dX10_weeks_13 : decode cX10_weeks 13 = .ok (.ifCond .ne 12, 3) := by decide +kernel
theorem dX10_weeks_16 : decode cX10_weeks 16 = .ok (.aload_n 0, 1) := by decide +kernel
theorem dX10_weeks_17 : decode cX10_weeks 17 = .ok (.getfield 107, 3) := by decide +kernel
theorem dX10_weeks_20 : decode cX10_weeks 20 = .ok (.sipush 200, 3) := by decide +kernel
theorem dX10_weeks_23 : decode cX10_weeks 23 = .ok (.iaload, 1) := by decide +kernel
theorem dX10_weeks_24 : decode cX10_weeks 24 = .ok (.ireturn, 1) := by decide +kernel
theorem dX10_weeks_25 : decode cX10_weeks 25 = .ok (.aload_n 0, 1) := by decide +kernel
theorem dX10_weeks_26 : decode cX10_weeks 26 = .ok (.invokevirtual 366, 3) := by decide +kernel
theorem dX10_weeks_29 : decode cX10_weeks 29 = .ok (.iconst 0, 1) := by decide +kernel
theorem dX10_weeks_30 : decode cX10_weeks 30 = .ok (.istore_n 2, 1) := by decide +kernel
theorem dX10_weeks_31 : decode cX10_weeks 31 = .ok (.iload_n 2, 1) := by decide +kernel
theorem dX10_weeks_32 : decode cX10_weeks 32 = .ok (.iload_n 1, 1) := by decide +kernel
theorem dX10_weeks_33 : decode cX10_weeks 33 = .ok (.if_icmp .ge 13, 3) := by decide +kernel
theorem dX10_weeks_36 : decode cX10_weeks 36 = .ok (.aload_n 0, 1) := by decide +kernel
theorem dX10_weeks_37 : decode cX10_weeks 37 = .ok (.invokevirtual 379, 3) := by decide +kernel
theorem dX10_weeks_40 : decode cX10_weeks 40 = .ok (.iinc 2 1, 3) := by decide +kernel
theorem dX10_weeks_43 : decode cX10_weeks 43 = .ok (.goto (-12), 3) := by decide +kernel
theorem dX10_weeks_46 : decode cX10_weeks 46 = .ok (.aload_n 0, 1) := by decide +kernel
theorem dX10_weeks_47 : decode cX10_weeks 47 = .ok (.invokevirtual 373, 3) := by decide +kernel
theorem dX10_weeks_50 : decode cX10_weeks 50 = .ok (.aload_n 0, 1) := by decide +kernel
theorem dX10_weeks_51 : decode cX10_weeks 51 = .ok (.getfield 107, 3) := by decide +kernel
theorem dX10_weeks_54 : decode cX10_weeks 54 = .ok (.sipush 200, 3) := by decide +kernel
theorem dX10_weeks_57 : decode cX10_weeks 57 = .ok (.iaload, 1) := by decide +kernel
theorem dX10_weeks_58 : decode cX10_weeks 58 = .ok (.ireturn, 1) := by decide +kernel
theorem dX10_undo_0 : decode cX10_undo 0 = .ok (.aload_n 0, 1) := by decide +kernel
theorem dX10_undo_1 : decode cX10_undo 1 = .ok (.getfield 246, 3) := by decide +kernel
theorem dX10_undo_4 : decode cX10_undo 4 = .ok (.ifCond .ne 5, 3) := by decide +kernel
theorem dX10_undo_7 : decode cX10_undo 7 = .ok (.iconst 0, 1) := by decide +kernel
theorem dX10_undo_8 : decode cX10_undo 8 = .ok (.ireturn, 1) := by decide +kernel
theorem dX10_undo_9 : decode cX10_undo 9 = .ok (.aload_n 0, 1) := by decide +kernel
theorem dX10_undo_10 : decode cX10_undo 10 = .ok (.dup, 1) := by decide +kernel
theorem dX10_undo_11 : decode cX10_undo 11 = .ok (.getfield 246, 3) := by decide +kernel
theorem dX10_undo_14 : decode cX10_undo 14 = .ok (.iconst 1, 1) := by decide +kernel
theorem dX10_undo_15 : decode cX10_undo 15 = .ok (.isub, 1) := by decide +kernel
theorem dX10_undo_16 : decode cX10_undo 16 = .ok (.putfield 246, 3) := by decide +kernel
theorem dX10_undo_19 : decode cX10_undo 19 = .ok (.iconst 0, 1) := by decide +kernel
theorem dX10_undo_20 : decode cX10_undo 20 = .ok (.istore_n 1, 1) := by decide +kernel
theorem dX10_undo_21 : decode cX10_undo 21 = .ok (.iload_n 1, 1) := by decide +kernel
theorem dX10_undo_22 : decode cX10_undo 22 = .ok (.sipush 1720, 3) := by decide +kernel
theorem dX10_undo_25 : decode cX10_undo 25 = .ok (.if_icmp .ge 30, 3) := by decide +kernel
theorem dX10_undo_28 : decode cX10_undo 28 = .ok (.aload_n 0, 1) := by decide +kernel
theorem dX10_undo_29 : decode cX10_undo 29 = .ok (.getfield 107, 3) := by decide +kernel
theorem dX10_undo_32 : decode cX10_undo 32 = .ok (.iload_n 1, 1) := by decide +kernel
theorem dX10_undo_33 : decode cX10_undo 33 = .ok (.aload_n 0, 1) := by decide +kernel
theorem dX10_undo_34 : decode cX10_undo 34 = .ok (.getfield 120, 3) := by decide +kernel
theorem dX10_undo_37 : decode cX10_undo 37 = .ok (.sipush 1720, 3) := by decide +kernel
theorem dX10_undo_40 : decode cX10_undo 40 = .ok (.aload_n 0, 1) := by decide +kernel
theorem dX10_undo_41 : decode cX10_undo 41 = .ok (.getfield 246, 3) := by decide +kernel
theorem dX10_undo_44 : decode cX10_undo 44 = .ok (.imul, 1) := by decide +kernel
theorem dX10_undo_45 : decode cX10_undo 45 = .ok (.iload_n 1, 1) := by decide +kernel
theorem dX10_undo_46 : decode cX10_undo 46 = .ok (.iadd, 1) := by decide +kernel
theorem dX10_undo_47 : decode cX10_undo 47 = .ok (.iaload, 1) := by decide +kernel
theorem dX10_undo_48 : decode cX10_undo 48 = .ok (.iastore, 1) := by decide +kernel
theorem dX10_undo_49 : decode cX10_undo 49 = .ok (.iinc 1 1, 3) := by decide +kernel
theorem dX10_undo_52 : decode cX10_undo 52 = .ok (.goto (-31), 3) := by decide +kernel
theorem dX10_undo_55 : decode cX10_undo 55 = .ok (.iconst 1, 1) := by decide +kernel
theorem dX10_undo_56 : decode cX10_undo 56 = .ok (.ireturn, 1) := by decide +kernel
theorem dX10_bits_0 : decode cX10_bits 0 = .ok (.iconst 0, 1) := by decide +kernel
theorem dX10_bits_1 : decode cX10_bits 1 = .ok (.istore_n 1, 1) := by decide +kernel
theorem dX10_bits_2 : decode cX10_bits 2 = .ok (.iconst 0, 1) := by decide +kernel
theorem dX10_bits_3 : decode cX10_bits 3 = .ok (.istore_n 2, 1) := by decide +kernel
theorem dX10_bits_4 : decode cX10_bits 4 = .ok (.iload_n 2, 1) := by decide +kernel
theorem dX10_bits_5 : decode cX10_bits 5 = .ok (.bipush 8, 2) := by decide +kernel
theorem dX10_bits_7 : decode cX10_bits 7 = .ok (.if_icmp .ge 17, 3) := by decide +kernel
theorem dX10_bits_10 : decode cX10_bits 10 = .ok (.iload_n 1, 1) := by decide +kernel
theorem dX10_bits_11 : decode cX10_bits 11 = .ok (.iload_n 0, 1) := by decide +kernel
theorem dX10_bits_12 : decode cX10_bits 12 = .ok (.iload_n 2, 1) := by decide +kernel
theorem dX10_bits_13 : decode cX10_bits 13 = .ok (.ishr, 1) := by decide +kernel
theorem dX10_bits_14 : decode cX10_bits 14 = .ok (.iconst 1, 1) := by decide +kernel
theorem dX10_bits_15 : decode cX10_bits 15 = .ok (.iand, 1) := by decide +kernel
theorem dX10_bits_16 : decode cX10_bits 16 = .ok (.iadd, 1) := by decide +kernel
theorem dX10_bits_17 : decode cX10_bits 17 = .ok (.istore_n 1, 1) := by decide +kernel
theorem dX10_bits_18 : decode cX10_bits 18 = .ok (.iinc 2 1, 3) := by decide +kernel
theorem dX10_bits_21 : decode cX10_bits 21 = .ok (.goto (-17), 3) := by decide +kernel
theorem dX10_bits_24 : decode cX10_bits 24 = .ok (.iload_n 1, 1) := by decide +kernel
theorem dX10_bits_25 : decode cX10_bits 25 = .ok (.ireturn, 1) := by decide +kernel
theorem dX10_payments_0 : decode cX10_payments 0 = .ok (.iconst 0, 1) := by decide +kernel
theorem dX10_payments_1 : decode cX10_payments 1 = .ok (.istore_n 1, 1) := by decide +kernel
theorem dX10_payments_2 : decode cX10_payments 2 = .ok (.iconst 0, 1) := by decide +kernel
theorem dX10_payments_3 : decode cX10_payments 3 = .ok (.istore_n 2, 1) := by decide +kernel
theorem dX10_payments_4 : decode cX10_payments 4 = .ok (.iload_n 2, 1) := by decide +kernel
theorem dX10_payments_5 : decode cX10_payments 5 = .ok (.aload_n 0, 1) := by decide +kernel
theorem dX10_payments_6 : decode cX10_payments 6 = .ok (.getfield 49, 3) := by decide +kernel
theorem dX10_payments_9 : decode cX10_payments 9 = .ok (.aload_n 0, 1) := by decide +kernel
theorem dX10_payments_10 : decode cX10_payments 10 = .ok (.getfield 228, 3) := by decide +kernel
theorem dX10_payments_13 : decode cX10_payments 13 = .ok (.iaload, 1) := by decide +kernel
theorem dX10_payments_14 : decode cX10_payments 14 = .ok (.if_icmp .ge 23, 3) := by decide +kernel
theorem dX10_payments_17 : decode cX10_payments 17 = .ok (.aload_n 0, 1) := by decide +kernel
theorem dX10_payments_18 : decode cX10_payments 18 = .ok (.iload_n 2, 1) := by decide +kernel
theorem dX10_payments_19 : decode cX10_payments 19 = .ok (.invokevirtual 346, 3) := by decide +kernel
theorem dX10_payments_22 : decode cX10_payments 22 = .ok (.ifCond .eq 9, 3) := by decide +kernel
theorem dX10_payments_25 : decode cX10_payments 25 = .ok (.iload_n 1, 1) := by decide +kernel
theorem dX10_payments_26 : decode cX10_payments 26 = .ok (.iconst 1, 1) := by decide +kernel
theorem dX10_payments_27 : decode cX10_payments 27 = .ok (.iload_n 2, 1) := by decide +kernel
theorem dX10_payments_28 : decode cX10_payments 28 = .ok (.ishl, 1) := by decide +kernel
theorem dX10_payments_29 : decode cX10_payments 29 = .ok (.ior, 1) := by decide +kernel
theorem dX10_payments_30 : decode cX10_payments 30 = .ok (.istore_n 1, 1) := by decide +kernel
theorem dX10_payments_31 : decode cX10_payments 31 = .ok (.iinc 2 1, 3) := by decide +kernel
theorem dX10_payments_34 : decode cX10_payments 34 = .ok (.goto (-30), 3) := by decide +kernel
theorem dX10_payments_37 : decode cX10_payments 37 = .ok (.iconst 0, 1) := by decide +kernel
theorem dX10_payments_38 : decode cX10_payments 38 = .ok (.istore_n 2, 1) := by decide +kernel
theorem dX10_payments_39 : decode cX10_payments 39 = .ok (.iload_n 2, 1) := by decide +kernel
theorem dX10_payments_40 : decode cX10_payments 40 = .ok (.sipush 256, 3) := by decide +kernel
theorem dX10_payments_43 : decode cX10_payments 43 = .ok (.if_icmp .ge 159, 3) := by decide +kernel
theorem dX10_payments_46 : decode cX10_payments 46 = .ok (.aload_n 0, 1) := by decide +kernel
theorem dX10_payments_47 : decode cX10_payments 47 = .ok (.getfield 123, 3) := by decide +kernel
theorem dX10_payments_50 : decode cX10_payments 50 = .ok (.iload_n 2, 1) := by decide +kernel
theorem dX10_payments_51 : decode cX10_payments 51 = .ok (.iconst 0, 1) := by decide +kernel
theorem dX10_payments_52 : decode cX10_payments 52 = .ok (.iastore, 1) := by decide +kernel
theorem dX10_payments_53 : decode cX10_payments 53 = .ok (.iconst 0, 1) := by decide +kernel
theorem dX10_payments_54 : decode cX10_payments 54 = .ok (.istore_n 3, 1) := by decide +kernel
theorem dX10_payments_55 : decode cX10_payments 55 = .ok (.iload_n 3, 1) := by decide +kernel
theorem dX10_payments_56 : decode cX10_payments 56 = .ok (.aload_n 0, 1) := by decide +kernel
theorem dX10_payments_57 : decode cX10_payments 57 = .ok (.getfield 49, 3) := by decide +kernel
theorem dX10_payments_60 : decode cX10_payments 60 = .ok (.aload_n 0, 1) := by decide +kernel
theorem dX10_payments_61 : decode cX10_payments 61 = .ok (.getfield 228, 3) := by decide +kernel
theorem dX10_payments_64 : decode cX10_payments 64 = .ok (.iaload, 1) := by decide +kernel
theorem dX10_payments_65 : decode cX10_payments 65 = .ok (.if_icmp .ge 32, 3) := by decide +kernel
theorem dX10_payments_68 : decode cX10_payments 68 = .ok (.iload_n 2, 1) := by decide +kernel
theorem dX10_payments_69 : decode cX10_payments 69 = .ok (.iload_n 3, 1) := by decide +kernel
theorem dX10_payments_70 : decode cX10_payments 70 = .ok (.ishr, 1) := by decide +kernel
theorem dX10_payments_71 : decode cX10_payments 71 = .ok (.iconst 1, 1) := by decide +kernel
theorem dX10_payments_72 : decode cX10_payments 72 = .ok (.iand, 1) := by decide +kernel
theorem dX10_payments_73 : decode cX10_payments 73 = .ok (.iconst 1, 1) := by decide +kernel
theorem dX10_payments_74 : decode cX10_payments 74 = .ok (.if_icmp .ne 17, 3) := by decide +kernel
theorem dX10_payments_77 : decode cX10_payments 77 = .ok (.aload_n 0, 1) := by decide +kernel
theorem dX10_payments_78 : decode cX10_payments 78 = .ok (.getfield 123, 3) := by decide +kernel
theorem dX10_payments_81 : decode cX10_payments 81 = .ok (.iload_n 2, 1) := by decide +kernel
theorem dX10_payments_82 : decode cX10_payments 82 = .ok (.dup2, 1) := by decide +kernel
theorem dX10_payments_83 : decode cX10_payments 83 = .ok (.iaload, 1) := by decide +kernel
theorem dX10_payments_84 : decode cX10_payments 84 = .ok (.aload_n 0, 1) := by decide +kernel
theorem dX10_payments_85 : decode cX10_payments 85 = .ok (.iload_n 3, 1) := by decide +kernel
theorem dX10_payments_86 : decode cX10_payments 86 = .ok (.invokevirtual 346, 3) := by decide +kernel
theorem dX10_payments_89 : decode cX10_payments 89 = .ok (.iadd, 1) := by decide +kernel
theorem dX10_payments_90 : decode cX10_payments 90 = .ok (.iastore, 1) := by decide +kernel
theorem dX10_payments_91 : decode cX10_payments 91 = .ok (.iinc 3 1, 3) := by decide +kernel
theorem dX10_payments_94 : decode cX10_payments 94 = .ok (.goto (-39), 3) := by decide +kernel
theorem dX10_payments_97 : decode cX10_payments 97 = .ok (.aload_n 0, 1) := by decide +kernel
theorem dX10_payments_98 : decode cX10_payments 98 = .ok (.getfield 126, 3) := by decide +kernel
theorem dX10_payments_101 : decode cX10_payments 101 = .ok (.iload_n 2, 1) := by decide +kernel
theorem dX10_payments_102 : decode cX10_payments 102 = .ok (.iconst 0, 1) := by decide +kernel
theorem dX10_payments_103 : decode cX10_payments 103 = .ok (.iastore, 1) := by decide +kernel
theorem dX10_payments_104 : decode cX10_payments 104 = .ok (.iconst 0, 1) := by decide +kernel
theorem dX10_payments_105 : decode cX10_payments 105 = .ok (.istore_n 3, 1) := by decide +kernel
theorem dX10_payments_106 : decode cX10_payments 106 = .ok (.iload_n 3, 1) := by decide +kernel
theorem dX10_payments_107 : decode cX10_payments 107 = .ok (.aload_n 0, 1) := by decide +kernel
theorem dX10_payments_108 : decode cX10_payments 108 = .ok (.getfield 49, 3) := by decide +kernel
theorem dX10_payments_111 : decode cX10_payments 111 = .ok (.aload_n 0, 1) := by decide +kernel
theorem dX10_payments_112 : decode cX10_payments 112 = .ok (.getfield 228, 3) := by decide +kernel
theorem dX10_payments_115 : decode cX10_payments 115 = .ok (.iaload, 1) := by decide +kernel
theorem dX10_payments_116 : decode cX10_payments 116 = .ok (.if_icmp .ge 57, 3) := by decide +kernel
theorem dX10_payments_119 : decode cX10_payments 119 = .ok (.iload_n 2, 1) := by decide +kernel
theorem dX10_payments_120 : decode cX10_payments 120 = .ok (.iload_n 3, 1) := by decide +kernel
theorem dX10_payments_121 : decode cX10_payments 121 = .ok (.ishr, 1) := by decide +kernel
theorem dX10_payments_122 : decode cX10_payments 122 = .ok (.iconst 1, 1) := by decide +kernel
theorem dX10_payments_123 : decode cX10_payments 123 = .ok (.iand, 1) := by decide +kernel
theorem dX10_payments_124 : decode cX10_payments 124 = .ok (.iconst 1, 1) := by decide +kernel
theorem dX10_payments_125 : decode cX10_payments 125 = .ok (.if_icmp .ne 42, 3) := by decide +kernel
theorem dX10_payments_128 : decode cX10_payments 128 = .ok (.aload_n 0, 1) := by decide +kernel
theorem dX10_payments_129 : decode cX10_payments 129 = .ok (.getfield 126, 3) := by decide +kernel
theorem dX10_payments_132 : decode cX10_payments 132 = .ok (.iload_n 2, 1) := by decide +kernel
theorem dX10_payments_133 : decode cX10_payments 133 = .ok (.iconst 1, 1) := by decide +kernel
theorem dX10_payments_134 : decode cX10_payments 134 = .ok (.iload_n 3, 1) := by decide +kernel
theorem dX10_payments_135 : decode cX10_payments 135 = .ok (.ishl, 1) := by decide +kernel
theorem dX10_payments_136 : decode cX10_payments 136 = .ok (.iconst (-1), 1) := by decide +kernel
theorem dX10_payments_137 : decode cX10_payments 137 = .ok (.ixor, 1) := by decide +kernel
theorem dX10_payments_138 : decode cX10_payments 138 = .ok (.iand, 1) := by decide +kernel
theorem dX10_payments_139 : decode cX10_payments 139 = .ok (.iaload, 1) := by decide +kernel
theorem dX10_payments_140 : decode cX10_payments 140 = .ok (.aload_n 0, 1) := by decide +kernel
theorem dX10_payments_141 : decode cX10_payments 141 = .ok (.getfield 126, 3) := by decide +kernel
theorem dX10_payments_144 : decode cX10_payments 144 = .ok (.iload_n 2, 1) := by decide +kernel
theorem dX10_payments_145 : decode cX10_payments 145 = .ok (.iaload, 1) := by decide +kernel
theorem dX10_payments_146 : decode cX10_payments 146 = .ok (.if_icmp .le 21, 3) := by decide +kernel
theorem dX10_payments_149 : decode cX10_payments 149 = .ok (.aload_n 0, 1) := by decide +kernel
theorem dX10_payments_150 : decode cX10_payments 150 = .ok (.getfield 126, 3) := by decide +kernel
theorem dX10_payments_153 : decode cX10_payments 153 = .ok (.iload_n 2, 1) := by decide +kernel
theorem dX10_payments_154 : decode cX10_payments 154 = .ok (.aload_n 0, 1) := by decide +kernel
theorem dX10_payments_155 : decode cX10_payments 155 = .ok (.getfield 126, 3) := by decide +kernel
theorem dX10_payments_158 : decode cX10_payments 158 = .ok (.iload_n 2, 1) := by decide +kernel
theorem dX10_payments_159 : decode cX10_payments 159 = .ok (.iconst 1, 1) := by decide +kernel
theorem dX10_payments_160 : decode cX10_payments 160 = .ok (.iload_n 3, 1) := by decide +kernel
theorem dX10_payments_161 : decode cX10_payments 161 = .ok (.ishl, 1) := by decide +kernel
theorem dX10_payments_162 : decode cX10_payments 162 = .ok (.iconst (-1), 1) := by decide +kernel
theorem dX10_payments_163 : decode cX10_payments 163 = .ok (.ixor, 1) := by decide +kernel
theorem dX10_payments_164 : decode cX10_payments 164 = .ok (.iand, 1) := by decide +kernel
theorem dX10_payments_165 : decode cX10_payments 165 = .ok (.iaload, 1) := by decide +kernel
theorem dX10_payments_166 : decode cX10_payments 166 = .ok (.iastore, 1) := by decide +kernel
theorem dX10_payments_167 : decode cX10_payments 167 = .ok (.iinc 3 1, 3) := by decide +kernel
theorem dX10_payments_170 : decode cX10_payments 170 = .ok (.goto (-64), 3) := by decide +kernel
theorem dX10_payments_173 : decode cX10_payments 173 = .ok (.iload_n 2, 1) := by decide +kernel
theorem dX10_payments_174 : decode cX10_payments 174 = .ok (.ifCond .le 22, 3) := by decide +kernel
theorem dX10_payments_177 : decode cX10_payments 177 = .ok (.aload_n 0, 1) := by decide +kernel
theorem dX10_payments_178 : decode cX10_payments 178 = .ok (.getfield 123, 3) := by decide +kernel
theorem dX10_payments_181 : decode cX10_payments 181 = .ok (.iload_n 2, 1) := by decide +kernel
theorem dX10_payments_182 : decode cX10_payments 182 = .ok (.iaload, 1) := by decide +kernel
theorem dX10_payments_183 : decode cX10_payments 183 = .ok (.ifCond .ne 13, 3) := by decide +kernel
theorem dX10_payments_186 : decode cX10_payments 186 = .ok (.aload_n 0, 1) := by decide +kernel
theorem dX10_payments_187 : decode cX10_payments 187 = .ok (.getfield 126, 3) := by decide +kernel
theorem dX10_payments_190 : decode cX10_payments 190 = .ok (.iload_n 2, 1) := by decide +kernel
theorem dX10_payments_191 : decode cX10_payments 191 = .ok (.dup2, 1) := by decide +kernel
theorem dX10_payments_192 : decode cX10_payments 192 = .ok (.iaload, 1) := by decide +kernel
theorem dX10_payments_193 : decode cX10_payments 193 = .ok (.iconst 1, 1) := by decide +kernel
theorem dX10_payments_194 : decode cX10_payments 194 = .ok (.iadd, 1) := by decide +kernel
theorem dX10_payments_195 : decode cX10_payments 195 = .ok (.iastore, 1) := by decide +kernel
theorem dX10_payments_196 : decode cX10_payments 196 = .ok (.iinc 2 1, 3) := by decide +kernel
theorem dX10_payments_199 : decode cX10_payments 199 = .ok (.goto (-160), 3) := by decide +kernel
theorem dX10_payments_202 : decode cX10_payments 202 = .ok (.iload_n 1, 1) := by decide +kernel
theorem dX10_payments_203 : decode cX10_payments 203 = .ok (.invokestatic 382, 3) := by decide +kernel
theorem dX10_payments_206 : decode cX10_payments 206 = .ok (.aload_n 0, 1) := by decide +kernel
theorem dX10_payments_207 : decode cX10_payments 207 = .ok (.getfield 126, 3) := by decide +kernel
theorem dX10_payments_210 : decode cX10_payments 210 = .ok (.iload_n 1, 1) := by decide +kernel
theorem dX10_payments_211 : decode cX10_payments 211 = .ok (.iaload, 1) := by decide +kernel
theorem dX10_payments_212 : decode cX10_payments 212 = .ok (.isub, 1) := by decide +kernel
theorem dX10_payments_213 : decode cX10_payments 213 = .ok (.ireturn, 1) := by decide +kernel
theorem dX10_warmBy_0 : decode cX10_warmBy 0 = .ok (.aload_n 0, 1) := by decide +kernel
theorem dX10_warmBy_1 : decode cX10_warmBy 1 = .ok (.iload_n 1, 1) := by decide +kernel
theorem dX10_warmBy_2 : decode cX10_warmBy 2 = .ok (.invokevirtual 340, 3) := by decide +kernel
theorem dX10_warmBy_5 : decode cX10_warmBy 5 = .ok (.ifCond .ne 5, 3) := by decide +kernel
theorem dX10_warmBy_8 : decode cX10_warmBy 8 = .ok (.iconst (-1), 1) := by decide +kernel
theorem dX10_warmBy_9 : decode cX10_warmBy 9 = .ok (.ireturn, 1) := by decide +kernel
theorem dX10_warmBy_10 : decode cX10_warmBy 10 = .ok (.aload_n 0, 1) := by decide +kernel
theorem dX10_warmBy_11 : decode cX10_warmBy 11 = .ok (.invokevirtual 343, 3) := by decide +kernel
theorem dX10_warmBy_14 : decode cX10_warmBy 14 = .ok (.iconst 0, 1) := by decide +kernel
theorem dX10_warmBy_15 : decode cX10_warmBy 15 = .ok (.istore_n 2, 1) := by decide +kernel
theorem dX10_warmBy_16 : decode cX10_warmBy 16 = .ok (.iload_n 2, 1) := by decide +kernel
theorem dX10_warmBy_17 : decode cX10_warmBy 17 = .ok (.sipush 200, 3) := by decide +kernel
theorem dX10_warmBy_20 : decode cX10_warmBy 20 = .ok (.if_icmp .gt 23, 3) := by decide +kernel
theorem dX10_warmBy_23 : decode cX10_warmBy 23 = .ok (.aload_n 0, 1) := by decide +kernel
theorem dX10_warmBy_24 : decode cX10_warmBy 24 = .ok (.iload_n 1, 1) := by decide +kernel
theorem dX10_warmBy_25 : decode cX10_warmBy 25 = .ok (.invokevirtual 349, 3) := by decide +kernel
theorem dX10_warmBy_28 : decode cX10_warmBy 28 = .ok (.ifCond .eq 5, 3) := by decide +kernel
theorem dX10_warmBy_31 : decode cX10_warmBy 31 = .ok (.iload_n 2, 1) := by decide +kernel
theorem dX10_warmBy_32 : decode cX10_warmBy 32 = .ok (.ireturn, 1) := by decide +kernel
theorem dX10_warmBy_33 : decode cX10_warmBy 33 = .ok (.aload_n 0, 1) := by decide +kernel
theorem dX10_warmBy_34 : decode cX10_warmBy 34 = .ok (.invokevirtual 379, 3) := by decide +kernel
theorem dX10_warmBy_37 : decode cX10_warmBy 37 = .ok (.iinc 2 1, 3) := by decide +kernel
theorem dX10_warmBy_40 : decode cX10_warmBy 40 = .ok (.goto (-24), 3) := by decide +kernel
theorem dX10_warmBy_43 : decode cX10_warmBy 43 = .ok (.bipush (-2), 2) := by decide +kernel
theorem dX10_warmBy_45 : decode cX10_warmBy 45 = .ok (.ireturn, 1) := by decide +kernel
theorem dX10_warm_0 : decode cX10_warm 0 = .ok (.iload_n 1, 1) := by decide +kernel
theorem dX10_warm_1 : decode cX10_warm 1 = .ok (.iconst 0, 1) := by decide +kernel
theorem dX10_warm_2 : decode cX10_warm 2 = .ok (.sipush 200, 3) := by decide +kernel
theorem dX10_warm_5 : decode cX10_warm 5 = .ok (.invokestatic 312, 3) := by decide +kernel
theorem dX10_warm_8 : decode cX10_warm 8 = .ok (.ifCond .ne 5, 3) := by decide +kernel
theorem dX10_warm_11 : decode cX10_warm 11 = .ok (.iconst (-1), 1) := by decide +kernel
theorem dX10_warm_12 : decode cX10_warm 12 = .ok (.ireturn, 1) := by decide +kernel
theorem dX10_warm_13 : decode cX10_warm 13 = .ok (.aload_n 0, 1) := by decide +kernel
theorem dX10_warm_14 : decode cX10_warm 14 = .ok (.invokevirtual 343, 3) := by decide +kernel
theorem dX10_warm_17 : decode cX10_warm 17 = .ok (.iconst 0, 1) := by decide +kernel
theorem dX10_warm_18 : decode cX10_warm 18 = .ok (.istore_n 2, 1) := by decide +kernel
theorem dX10_warm_19 : decode cX10_warm 19 = .ok (.iload_n 2, 1) := by decide +kernel
theorem dX10_warm_20 : decode cX10_warm 20 = .ok (.iload_n 1, 1) := by decide +kernel
theorem dX10_warm_21 : decode cX10_warm 21 = .ok (.if_icmp .ge 13, 3) := by decide +kernel
theorem dX10_warm_24 : decode cX10_warm 24 = .ok (.aload_n 0, 1) := by decide +kernel
theorem dX10_warm_25 : decode cX10_warm 25 = .ok (.invokevirtual 379, 3) := by decide +kernel
theorem dX10_warm_28 : decode cX10_warm 28 = .ok (.iinc 2 1, 3) := by decide +kernel
theorem dX10_warm_31 : decode cX10_warm 31 = .ok (.goto (-12), 3) := by decide +kernel
theorem dX10_warm_34 : decode cX10_warm 34 = .ok (.iconst 0, 1) := by decide +kernel
theorem dX10_warm_35 : decode cX10_warm 35 = .ok (.istore_n 2, 1) := by decide +kernel
theorem dX10_warm_36 : decode cX10_warm 36 = .ok (.iconst 0, 1) := by decide +kernel
theorem dX10_warm_37 : decode cX10_warm 37 = .ok (.istore_n 3, 1) := by decide +kernel
theorem dX10_warm_38 : decode cX10_warm 38 = .ok (.iload_n 3, 1) := by decide +kernel
theorem dX10_warm_39 : decode cX10_warm 39 = .ok (.aload_n 0, 1) := by decide +kernel
theorem dX10_warm_40 : decode cX10_warm 40 = .ok (.getfield 49, 3) := by decide +kernel
theorem dX10_warm_43 : decode cX10_warm 43 = .ok (.aload_n 0, 1) := by decide +kernel
theorem dX10_warm_44 : decode cX10_warm 44 = .ok (.getfield 228, 3) := by decide +kernel
theorem dX10_warm_47 : decode cX10_warm 47 = .ok (.iaload, 1) := by decide +kernel
theorem dX10_warm_48 : decode cX10_warm 48 = .ok (.if_icmp .ge 23, 3) := by decide +kernel
theorem dX10_warm_51 : decode cX10_warm 51 = .ok (.aload_n 0, 1) := by decide +kernel
theorem dX10_warm_52 : decode cX10_warm 52 = .ok (.iload_n 3, 1) := by decide +kernel
theorem dX10_warm_53 : decode cX10_warm 53 = .ok (.invokevirtual 349, 3) := by decide +kernel
theorem dX10_warm_56 : decode cX10_warm 56 = .ok (.ifCond .eq 9, 3) := by decide +kernel
theorem dX10_warm_59 : decode cX10_warm 59 = .ok (.iload_n 2, 1) := by decide +kernel
theorem dX10_warm_60 : decode cX10_warm 60 = .ok (.iconst 1, 1) := by decide +kernel
theorem dX10_warm_61 : decode cX10_warm 61 = .ok (.iload_n 3, 1) := by decide +kernel
theorem dX10_warm_62 : decode cX10_warm 62 = .ok (.ishl, 1) := by decide +kernel
theorem dX10_warm_63 : decode cX10_warm 63 = .ok (.ior, 1) := by decide +kernel
theorem dX10_warm_64 : decode cX10_warm 64 = .ok (.istore_n 2, 1) := by decide +kernel
theorem dX10_warm_65 : decode cX10_warm 65 = .ok (.iinc 3 1, 3) := by decide +kernel
theorem dX10_warm_68 : decode cX10_warm 68 = .ok (.goto (-30), 3) := by decide +kernel
theorem dX10_warm_71 : decode cX10_warm 71 = .ok (.iload_n 2, 1) := by decide +kernel
theorem dX10_warm_72 : decode cX10_warm 72 = .ok (.ireturn, 1) := by decide +kernel
theorem dX10_fillsComes_0 : decode cX10_fillsComes 0 = .ok (.aload_n 0, 1) := by decide +kernel
theorem dX10_fillsComes_1 : decode cX10_fillsComes 1 = .ok (.iload_n 1, 1) := by decide +kernel
theorem dX10_fillsComes_2 : decode cX10_fillsComes 2 = .ok (.invokevirtual 319, 3) := by decide +kernel
theorem dX10_fillsComes_5 : decode cX10_fillsComes 5 = .ok (.istore_n 2, 1) := by decide +kernel
theorem dX10_fillsComes_6 : decode cX10_fillsComes 6 = .ok (.iconst 0, 1) := by decide +kernel
theorem dX10_fillsComes_7 : decode cX10_fillsComes 7 = .ok (.istore_n 3, 1) := by decide +kernel
theorem dX10_fillsComes_8 : decode cX10_fillsComes 8 = .ok (.iload_n 3, 1) := by decide +kernel
theorem dX10_fillsComes_9 : decode cX10_fillsComes 9 = .ok (.aload_n 0, 1) := by decide +kernel
theorem dX10_fillsComes_10 : decode cX10_fillsComes 10 = .ok (.getfield 55, 3) := by decide +kernel
theorem dX10_fillsComes_13 : decode cX10_fillsComes 13 = .ok (.aload_n 0, 1) := by decide +kernel
theorem dX10_fillsComes_14 : decode cX10_fillsComes 14 = .ok (.getfield 228, 3) := by decide +kernel
theorem dX10_fillsComes_17 : decode cX10_fillsComes 17 = .ok (.iaload, 1) := by decide +kernel
theorem dX10_fillsComes_18 : decode cX10_fillsComes 18 = .ok (.if_icmp .ge 21, 3) := by decide +kernel
theorem dX10_fillsComes_21 : decode cX10_fillsComes 21 = .ok (.aload_n 0, 1) := by decide +kernel
theorem dX10_fillsComes_22 : decode cX10_fillsComes 22 = .ok (.getfield 138, 3) := by decide +kernel
theorem dX10_fillsComes_25 : decode cX10_fillsComes 25 = .ok (.iload_n 3, 1) := by decide +kernel
theorem dX10_fillsComes_26 : decode cX10_fillsComes 26 = .ok (.aload_n 0, 1) := by decide +kernel
theorem dX10_fillsComes_27 : decode cX10_fillsComes 27 = .ok (.iload_n 1, 1) := by decide +kernel
theorem dX10_fillsComes_28 : decode cX10_fillsComes 28 = .ok (.iload_n 3, 1) := by decide +kernel
theorem dX10_fillsComes_29 : decode cX10_fillsComes 29 = .ok (.invokevirtual 362, 3) := by decide +kernel
theorem dX10_fillsComes_32 : decode cX10_fillsComes 32 = .ok (.iastore, 1) := by decide +kernel
theorem dX10_fillsComes_33 : decode cX10_fillsComes 33 = .ok (.iinc 3 1, 3) := by decide +kernel
theorem dX10_fillsComes_36 : decode cX10_fillsComes 36 = .ok (.goto (-28), 3) := by decide +kernel
theorem dX10_fillsComes_39 : decode cX10_fillsComes 39 = .ok (.iconst 0, 1) := by decide +kernel
theorem dX10_fillsComes_40 : decode cX10_fillsComes 40 = .ok (.istore_n 3, 1) := by decide +kernel
theorem dX10_fillsComes_41 : decode cX10_fillsComes 41 = .ok (.iload_n 3, 1) := by decide +kernel
theorem dX10_fillsComes_42 : decode cX10_fillsComes 42 = .ok (.iconst 1, 1) := by decide +kernel
theorem dX10_fillsComes_43 : decode cX10_fillsComes 43 = .ok (.aload_n 0, 1) := by decide +kernel
theorem dX10_fillsComes_44 : decode cX10_fillsComes 44 = .ok (.getfield 55, 3) := by decide +kernel
theorem dX10_fillsComes_47 : decode cX10_fillsComes 47 = .ok (.aload_n 0, 1) := by decide +kernel
theorem dX10_fillsComes_48 : decode cX10_fillsComes 48 = .ok (.getfield 228, 3) := by decide +kernel
theorem dX10_fillsComes_51 : decode cX10_fillsComes 51 = .ok (.iaload, 1) := by decide +kernel
theorem dX10_fillsComes_52 : decode cX10_fillsComes 52 = .ok (.ishl, 1) := by decide +kernel
theorem dX10_fillsComes_53 : decode cX10_fillsComes 53 = .ok (.if_icmp .ge 81, 3) := by decide +kernel
theorem dX10_fillsComes_56 : decode cX10_fillsComes 56 = .ok (.iconst 0, 1) := by decide +kernel
theorem dX10_fillsComes_57 : decode cX10_fillsComes 57 = .ok (.istore 4, 2) := by decide +kernel
theorem dX10_fillsComes_59 : decode cX10_fillsComes 59 = .ok (.iconst 0, 1) := by decide +kernel
theorem dX10_fillsComes_60 : decode cX10_fillsComes 60 = .ok (.istore 5, 2) := by decide +kernel
theorem dX10_fillsComes_62 : decode cX10_fillsComes 62 = .ok (.iload 5, 2) := by decide +kernel
theorem dX10_fillsComes_64 : decode cX10_fillsComes 64 = .ok (.aload_n 0, 1) := by decide +kernel
theorem dX10_fillsComes_65 : decode cX10_fillsComes 65 = .ok (.getfield 55, 3) := by decide +kernel
theorem dX10_fillsComes_68 : decode cX10_fillsComes 68 = .ok (.aload_n 0, 1) := by decide +kernel
theorem dX10_fillsComes_69 : decode cX10_fillsComes 69 = .ok (.getfield 228, 3) := by decide +kernel
theorem dX10_fillsComes_72 : decode cX10_fillsComes 72 = .ok (.iaload, 1) := by decide +kernel
theorem dX10_fillsComes_73 : decode cX10_fillsComes 73 = .ok (.if_icmp .ge 31, 3) := by decide +kernel
theorem dX10_fillsComes_76 : decode cX10_fillsComes 76 = .ok (.iload_n 3, 1) := by decide +kernel
theorem dX10_fillsComes_77 : decode cX10_fillsComes 77 = .ok (.iload 5, 2) := by decide +kernel
theorem dX10_fillsComes_79 : decode cX10_fillsComes 79 = .ok (.ishr, 1) := by decide +kernel
theorem dX10_fillsComes_80 : decode cX10_fillsComes 80 = .ok (.iconst 1, 1) := by decide +kernel
theorem dX10_fillsComes_81 : decode cX10_fillsComes 81 = .ok (.iand, 1) := by decide +kernel
theorem dX10_fillsComes_82 : decode cX10_fillsComes 82 = .ok (.iconst 1, 1) := by decide +kernel
theorem dX10_fillsComes_83 : decode cX10_fillsComes 83 = .ok (.if_icmp .ne 15, 3) := by decide +kernel
theorem dX10_fillsComes_86 : decode cX10_fillsComes 86 = .ok (.iload 4, 2) := by decide +kernel
theorem dX10_fillsComes_88 : decode cX10_fillsComes 88 = .ok (.aload_n 0, 1) := by decide +kernel
theorem dX10_fillsComes_89 : decode cX10_fillsComes 89 = .ok (.getfield 138, 3) := by decide +kernel
theorem dX10_fillsComes_92 : decode cX10_fillsComes 92 = .ok (.iload 5, 2) := by decide +kernel
theorem dX10_fillsComes_94 : decode cX10_fillsComes 94 = .ok (.iaload, 1) := by decide +kernel
theorem dX10_fillsComes_95 : decode cX10_fillsComes 95 = .ok (.iadd, 1) := by decide +kernel
theorem dX10_fillsComes_96 : decode cX10_fillsComes 96 = .ok (.istore 4, 2) := by decide +kernel
theorem dX10_fillsComes_98 : decode cX10_fillsComes 98 = .ok (.iinc 5 1, 3) := by decide +kernel
theorem dX10_fillsComes_101 : decode cX10_fillsComes 101 = .ok (.goto (-39), 3) := by decide +kernel
theorem dX10_fillsComes_104 : decode cX10_fillsComes 104 = .ok (.aload_n 0, 1) := by decide +kernel
theorem dX10_fillsComes_105 : decode cX10_fillsComes 105 = .ok (.getfield 132, 3) := by decide +kernel
theorem dX10_fillsComes_108 : decode cX10_fillsComes 108 = .ok (.sipush 256, 3) := by decide +kernel
theorem dX10_fillsComes_111 : decode cX10_fillsComes 111 = .ok (.iload_n 1, 1) := by decide +kernel
theorem dX10_fillsComes_112 : decode cX10_fillsComes 112 = .ok (.imul, 1) := by decide +kernel
theorem dX10_fillsComes_113 : decode cX10_fillsComes 113 = .ok (.iload_n 3, 1) := by decide +kernel
theorem dX10_fillsComes_114 : decode cX10_fillsComes 114 = .ok (.iadd, 1) := by decide +kernel
theorem dX10_fillsComes_115 : decode cX10_fillsComes 115 = .ok (.iload 4, 2) := by decide +kernel
theorem dX10_fillsComes_117 : decode cX10_fillsComes 117 = .ok (.iload_n 2, 1) := by decide +kernel
theorem dX10_fillsComes_118 : decode cX10_fillsComes 118 = .ok (.if_icmp .ge 8, 3) := by decide +kernel
theorem dX10_fillsComes_121 : decode cX10_fillsComes 121 = .ok (.iload 4, 2) := by decide +kernel
theorem dX10_fillsComes_123 : decode cX10_fillsComes 123 = .ok (.goto 4, 3) := by decide +kernel
theorem dX10_fillsComes_126 : decode cX10_fillsComes 126 = .ok (.iload_n 2, 1) := by decide +kernel
theorem dX10_fillsComes_127 : decode cX10_fillsComes 127 = .ok (.iastore, 1) := by decide +kernel
theorem dX10_fillsComes_128 : decode cX10_fillsComes 128 = .ok (.iinc 3 1, 3) := by decide +kernel
theorem dX10_fillsComes_131 : decode cX10_fillsComes 131 = .ok (.goto (-90), 3) := by decide +kernel
theorem dX10_fillsComes_134 : decode cX10_fillsComes 134 = .ok (.return_, 1) := by decide +kernel
theorem dX10_stillWanted_0 : decode cX10_stillWanted 0 = .ok (.iload_n 1, 1) := by decide +kernel
theorem dX10_stillWanted_1 : decode cX10_stillWanted 1 = .ok (.aload_n 0, 1) := by decide +kernel
theorem dX10_stillWanted_2 : decode cX10_stillWanted 2 = .ok (.getfield 132, 3) := by decide +kernel
theorem dX10_stillWanted_5 : decode cX10_stillWanted 5 = .ok (.sipush 256, 3) := by decide +kernel
theorem dX10_stillWanted_8 : decode cX10_stillWanted 8 = .ok (.iload_n 2, 1) := by decide +kernel
theorem dX10_stillWanted_9 : decode cX10_stillWanted 9 = .ok (.imul, 1) := by decide +kernel
theorem dX10_stillWanted_10 : decode cX10_stillWanted 10 = .ok (.iload_n 3, 1) := by decide +kernel
theorem dX10_stillWanted_11 : decode cX10_stillWanted 11 = .ok (.iadd, 1) := by decide +kernel
theorem dX10_stillWanted_12 : decode cX10_stillWanted 12 = .ok (.iaload, 1) := by decide +kernel
theorem dX10_stillWanted_13 : decode cX10_stillWanted 13 = .ok (.isub, 1) := by decide +kernel
theorem dX10_stillWanted_14 : decode cX10_stillWanted 14 = .ok (.istore 4, 2) := by decide +kernel
theorem dX10_stillWanted_16 : decode cX10_stillWanted 16 = .ok (.iload 4, 2) := by decide +kernel
theorem dX10_stillWanted_18 : decode cX10_stillWanted 18 = .ok (.ifCond .ge 7, 3) := by decide +kernel
theorem dX10_stillWanted_21 : decode cX10_stillWanted 21 = .ok (.iconst 0, 1) := by decide +kernel
theorem dX10_stillWanted_22 : decode cX10_stillWanted 22 = .ok (.goto 5, 3) := by decide +kernel
theorem dX10_stillWanted_25 : decode cX10_stillWanted 25 = .ok (.iload 4, 2) := by decide +kernel
theorem dX10_stillWanted_27 : decode cX10_stillWanted 27 = .ok (.ireturn, 1) := by decide +kernel
theorem dX10_fillsQuilt_0 : decode cX10_fillsQuilt 0 = .ok (.aload_n 0, 1) := by decide +kernel
theorem dX10_fillsQuilt_1 : decode cX10_fillsQuilt 1 = .ok (.invokevirtual 343, 3) := by decide +kernel
theorem dX10_fillsQuilt_4 : decode cX10_fillsQuilt 4 = .ok (.iconst 0, 1) := by decide +kernel
theorem dX10_fillsQuilt_5 : decode cX10_fillsQuilt 5 = .ok (.istore_n 2, 1) := by decide +kernel
theorem dX10_fillsQuilt_6 : decode cX10_fillsQuilt 6 = .ok (.iload_n 2, 1) := by decide +kernel
theorem dX10_fillsQuilt_7 : decode cX10_fillsQuilt 7 = .ok (.iconst 1, 1) := by decide +kernel
theorem dX10_fillsQuilt_8 : decode cX10_fillsQuilt 8 = .ok (.aload_n 0, 1) := by decide +kernel
theorem dX10_fillsQuilt_9 : decode cX10_fillsQuilt 9 = .ok (.getfield 55, 3) := by decide +kernel
theorem dX10_fillsQuilt_12 : decode cX10_fillsQuilt 12 = .ok (.aload_n 0, 1) := by decide +kernel
theorem dX10_fillsQuilt_13 : decode cX10_fillsQuilt 13 = .ok (.getfield 228, 3) := by decide +kernel
theorem dX10_fillsQuilt_16 : decode cX10_fillsQuilt 16 = .ok (.iaload, 1) := by decide +kernel
theorem dX10_fillsQuilt_17 : decode cX10_fillsQuilt 17 = .ok (.ishl, 1) := by decide +kernel
theorem dX10_fillsQuilt_18 : decode cX10_fillsQuilt 18 = .ok (.if_icmp .ge 69, 3) := by decide +kernel
theorem dX10_fillsQuilt_21 : decode cX10_fillsQuilt 21 = .ok (.aload_n 0, 1) := by decide +kernel
theorem dX10_fillsQuilt_22 : decode cX10_fillsQuilt 22 = .ok (.getfield 135, 3) := by decide +kernel
theorem dX10_fillsQuilt_25 : decode cX10_fillsQuilt 25 = .ok (.iload_n 2, 1) := by decide +kernel
theorem dX10_fillsQuilt_26 : decode cX10_fillsQuilt 26 = .ok (.iconst 0, 1) := by decide +kernel
theorem dX10_fillsQuilt_27 : decode cX10_fillsQuilt 27 = .ok (.iastore, 1) := by decide +kernel
theorem dX10_fillsQuilt_28 : decode cX10_fillsQuilt 28 = .ok (.iconst 0, 1) := by decide +kernel
theorem dX10_fillsQuilt_29 : decode cX10_fillsQuilt 29 = .ok (.istore_n 3, 1) := by decide +kernel
theorem dX10_fillsQuilt_30 : decode cX10_fillsQuilt 30 = .ok (.iload_n 3, 1) := by decide +kernel
theorem dX10_fillsQuilt_31 : decode cX10_fillsQuilt 31 = .ok (.aload_n 0, 1) := by decide +kernel
theorem dX10_fillsQuilt_32 : decode cX10_fillsQuilt 32 = .ok (.getfield 55, 3) := by decide +kernel
theorem dX10_fillsQuilt_35 : decode cX10_fillsQuilt 35 = .ok (.aload_n 0, 1) := by decide +kernel
theorem dX10_fillsQuilt_36 : decode cX10_fillsQuilt 36 = .ok (.getfield 228, 3) := by decide +kernel
theorem dX10_fillsQuilt_39 : decode cX10_fillsQuilt 39 = .ok (.iaload, 1) := by decide +kernel
theorem dX10_fillsQuilt_40 : decode cX10_fillsQuilt 40 = .ok (.if_icmp .ge 41, 3) := by decide +kernel
theorem dX10_fillsQuilt_43 : decode cX10_fillsQuilt 43 = .ok (.iload_n 2, 1) := by decide +kernel
theorem dX10_fillsQuilt_44 : decode cX10_fillsQuilt 44 = .ok (.iload_n 3, 1) := by decide +kernel
theorem dX10_fillsQuilt_45 : decode cX10_fillsQuilt 45 = .ok (.ishr, 1) := by decide +kernel
theorem dX10_fillsQuilt_46 : decode cX10_fillsQuilt 46 = .ok (.iconst 1, 1) := by decide +kernel
theorem dX10_fillsQuilt_47 : decode cX10_fillsQuilt 47 = .ok (.iand, 1) := by decide +kernel
theorem dX10_fillsQuilt_48 : decode cX10_fillsQuilt 48 = .ok (.iconst 1, 1) := by decide +kernel
theorem dX10_fillsQuilt_49 : decode cX10_fillsQuilt 49 = .ok (.if_icmp .ne 26, 3) := by decide +kernel
theorem dX10_fillsQuilt_52 : decode cX10_fillsQuilt 52 = .ok (.aload_n 0, 1) := by decide +kernel
theorem dX10_fillsQuilt_53 : decode cX10_fillsQuilt 53 = .ok (.getfield 135, 3) := by decide +kernel
theorem dX10_fillsQuilt_56 : decode cX10_fillsQuilt 56 = .ok (.iload_n 2, 1) := by decide +kernel
theorem dX10_fillsQuilt_57 : decode cX10_fillsQuilt 57 = .ok (.dup2, 1) := by decide +kernel
theorem dX10_fillsQuilt_58 : decode cX10_fillsQuilt 58 = .ok (.iaload, 1) := by decide +kernel
theorem dX10_fillsQuilt_59 : decode cX10_fillsQuilt 59 = .ok (.aload_n 0, 1) := by decide +kernel
theorem dX10_fillsQuilt_60 : decode cX10_fillsQuilt 60 = .ok (.getfield 58, 3) := by decide +kernel
theorem dX10_fillsQuilt_63 : decode cX10_fillsQuilt 63 = .ok (.bipush 8, 2) := by decide +kernel
theorem dX10_fillsQuilt_65 : decode cX10_fillsQuilt 65 = .ok (.aload_n 0, 1) := by decide +kernel
theorem dX10_fillsQuilt_66 : decode cX10_fillsQuilt 66 = .ok (.getfield 228, 3) := by decide +kernel
theorem dX10_fillsQuilt_69 : decode cX10_fillsQuilt 69 = .ok (.imul, 1) := by decide +kernel
theorem dX10_fillsQuilt_70 : decode cX10_fillsQuilt 70 = .ok (.iload_n 3, 1) := by decide +kernel
theorem dX10_fillsQuilt_71 : decode cX10_fillsQuilt 71 = .ok (.iadd, 1) := by decide +kernel
theorem dX10_fillsQuilt_72 : decode cX10_fillsQuilt 72 = .ok (.iaload, 1) := by decide +kernel
theorem dX10_fillsQuilt_73 : decode cX10_fillsQuilt 73 = .ok (.iadd, 1) := by decide +kernel
theorem dX10_fillsQuilt_74 : decode cX10_fillsQuilt 74 = .ok (.iastore, 1) := by decide +kernel
theorem dX10_fillsQuilt_75 : decode cX10_fillsQuilt 75 = .ok (.iinc 3 1, 3) := by decide +kernel
theorem dX10_fillsQuilt_78 : decode cX10_fillsQuilt 78 = .ok (.goto (-48), 3) := by decide +kernel
theorem dX10_fillsQuilt_81 : decode cX10_fillsQuilt 81 = .ok (.iinc 2 1, 3) := by decide +kernel
theorem dX10_fillsQuilt_84 : decode cX10_fillsQuilt 84 = .ok (.goto (-78), 3) := by decide +kernel
theorem dX10_fillsQuilt_87 : decode cX10_fillsQuilt 87 = .ok (.aload_n 0, 1) := by decide +kernel
theorem dX10_fillsQuilt_88 : decode cX10_fillsQuilt 88 = .ok (.getfield 49, 3) := by decide +kernel
theorem dX10_fillsQuilt_91 : decode cX10_fillsQuilt 91 = .ok (.aload_n 0, 1) := by decide +kernel
theorem dX10_fillsQuilt_92 : decode cX10_fillsQuilt 92 = .ok (.getfield 228, 3) := by decide +kernel
theorem dX10_fillsQuilt_95 : decode cX10_fillsQuilt 95 = .ok (.iaload, 1) := by decide +kernel
theorem dX10_fillsQuilt_96 : decode cX10_fillsQuilt 96 = .ok (.istore_n 2, 1) := by decide +kernel
theorem dX10_fillsQuilt_97 : decode cX10_fillsQuilt 97 = .ok (.iconst 0, 1) := by decide +kernel
theorem dX10_fillsQuilt_98 : decode cX10_fillsQuilt 98 = .ok (.istore_n 3, 1) := by decide +kernel
theorem dX10_fillsQuilt_99 : decode cX10_fillsQuilt 99 = .ok (.iload_n 3, 1) := by decide +kernel
theorem dX10_fillsQuilt_100 : decode cX10_fillsQuilt 100 = .ok (.iload_n 1, 1) := by decide +kernel
theorem dX10_fillsQuilt_101 : decode cX10_fillsQuilt 101 = .ok (.if_icmp .gt 32, 3) := by decide +kernel
theorem dX10_fillsQuilt_104 : decode cX10_fillsQuilt 104 = .ok (.aload_n 0, 1) := by decide +kernel
theorem dX10_fillsQuilt_105 : decode cX10_fillsQuilt 105 = .ok (.getfield 129, 3) := by decide +kernel
theorem dX10_fillsQuilt_108 : decode cX10_fillsQuilt 108 = .ok (.sipush 401, 3) := by decide +kernel
theorem dX10_fillsQuilt_111 : decode cX10_fillsQuilt 111 = .ok (.iload_n 2, 1) := by decide +kernel
theorem dX10_fillsQuilt_112 : decode cX10_fillsQuilt 112 = .ok (.imul, 1) := by decide +kernel
theorem dX10_fillsQuilt_113 : decode cX10_fillsQuilt 113 = .ok (.iload_n 3, 1) := by decide +kernel
theorem dX10_fillsQuilt_114 : decode cX10_fillsQuilt 114 = .ok (.iadd, 1) := by decide +kernel
theorem dX10_fillsQuilt_115 : decode cX10_fillsQuilt 115 = .ok (.iload_n 3, 1) := by decide +kernel
theorem dX10_fillsQuilt_116 : decode cX10_fillsQuilt 116 = .ok (.ifCond .ne 7, 3) := by decide +kernel
theorem dX10_fillsQuilt_119 : decode cX10_fillsQuilt 119 = .ok (.iconst 0, 1) := by decide +kernel
theorem dX10_fillsQuilt_120 : decode cX10_fillsQuilt 120 = .ok (.goto 6, 3) := by decide +kernel
theorem dX10_fillsQuilt_123 : decode cX10_fillsQuilt 123 = .ok (.ldc_w 385, 3) := by decide +kernel
theorem dX10_fillsQuilt_126 : decode cX10_fillsQuilt 126 = .ok (.iastore, 1) := by decide +kernel
theorem dX10_fillsQuilt_127 : decode cX10_fillsQuilt 127 = .ok (.iinc 3 1, 3) := by decide +kernel
theorem dX10_fillsQuilt_130 : decode cX10_fillsQuilt 130 = .ok (.goto (-31), 3) := by decide +kernel
theorem dX10_fillsQuilt_133 : decode cX10_fillsQuilt 133 = .ok (.iload_n 2, 1) := by decide +kernel
theorem dX10_fillsQuilt_134 : decode cX10_fillsQuilt 134 = .ok (.iconst 1, 1) := by decide +kernel
theorem dX10_fillsQuilt_135 : decode cX10_fillsQuilt 135 = .ok (.isub, 1) := by decide +kernel
theorem dX10_fillsQuilt_136 : decode cX10_fillsQuilt 136 = .ok (.istore_n 3, 1) := by decide +kernel
theorem dX10_fillsQuilt_137 : decode cX10_fillsQuilt 137 = .ok (.iload_n 3, 1) := by decide +kernel
theorem dX10_fillsQuilt_138 : decode cX10_fillsQuilt 138 = .ok (.ifCond .lt 117, 3) := by decide +kernel
theorem dX10_fillsQuilt_141 : decode cX10_fillsQuilt 141 = .ok (.aload_n 0, 1) := by decide +kernel
theorem dX10_fillsQuilt_142 : decode cX10_fillsQuilt 142 = .ok (.iload_n 3, 1) := by decide +kernel
theorem dX10_fillsQuilt_143 : decode cX10_fillsQuilt 143 = .ok (.invokevirtual 386, 3) := by decide +kernel
theorem dX10_fillsQuilt_146 : decode cX10_fillsQuilt 146 = .ok (.iconst 0, 1) := by decide +kernel
theorem dX10_fillsQuilt_147 : decode cX10_fillsQuilt 147 = .ok (.istore 4, 2) := by decide +kernel
theorem dX10_fillsQuilt_149 : decode cX10_fillsQuilt 149 = .ok (.iload 4, 2) := by decide +kernel
theorem dX10_fillsQuilt_151 : decode cX10_fillsQuilt 151 = .ok (.iload_n 1, 1) := by decide +kernel
theorem dX10_fillsQuilt_152 : decode cX10_fillsQuilt 152 = .ok (.if_icmp .gt 97, 3) := by decide +kernel
theorem dX10_fillsQuilt_155 : decode cX10_fillsQuilt 155 = .ok (.ldc_w 385, 3) := by decide +kernel
theorem dX10_fillsQuilt_158 : decode cX10_fillsQuilt 158 = .ok (.istore 5, 2) := by decide +kernel
theorem dX10_fillsQuilt_160 : decode cX10_fillsQuilt 160 = .ok (.iconst 0, 1) := by decide +kernel
theorem dX10_fillsQuilt_161 : decode cX10_fillsQuilt 161 = .ok (.istore 6, 2) := by decide +kernel
theorem dX10_fillsQuilt_163 : decode cX10_fillsQuilt 163 = .ok (.iload 6, 2) := by decide +kernel
theorem dX10_fillsQuilt_165 : decode cX10_fillsQuilt 165 = .ok (.iconst 1, 1) := by decide +kernel
theorem dX10_fillsQuilt_166 : decode cX10_fillsQuilt 166 = .ok (.aload_n 0, 1) := by decide +kernel
theorem dX10_fillsQuilt_167 : decode cX10_fillsQuilt 167 = .ok (.getfield 55, 3) := by decide +kernel
theorem dX10_fillsQuilt_170 : decode cX10_fillsQuilt 170 = .ok (.aload_n 0, 1) := by decide +kernel
theorem dX10_fillsQuilt_171 : decode cX10_fillsQuilt 171 = .ok (.getfield 228, 3) := by decide +kernel
theorem dX10_fillsQuilt_174 : decode cX10_fillsQuilt 174 = .ok (.iaload, 1) := by decide +kernel
theorem dX10_fillsQuilt_175 : decode cX10_fillsQuilt 175 = .ok (.ishl, 1) := by decide +kernel
theorem dX10_fillsQuilt_176 : decode cX10_fillsQuilt 176 = .ok (.if_icmp .ge 52, 3) := by decide +kernel
theorem dX10_fillsQuilt_179 : decode cX10_fillsQuilt 179 = .ok (.aload_n 0, 1) := by decide +kernel
theorem dX10_fillsQuilt_180 : decode cX10_fillsQuilt 180 = .ok (.getfield 135, 3) := by decide +kernel
theorem dX10_fillsQuilt_183 : decode cX10_fillsQuilt 183 = .ok (.iload 6, 2) := by decide +kernel
theorem dX10_fillsQuilt_185 : decode cX10_fillsQuilt 185 = .ok (.iaload, 1) := by decide +kernel
theorem dX10_fillsQuilt_186 : decode cX10_fillsQuilt 186 = .ok (.aload_n 0, 1) := by decide +kernel
theorem dX10_fillsQuilt_187 : decode cX10_fillsQuilt 187 = .ok (.getfield 129, 3) := by decide +kernel
theorem dX10_fillsQuilt_190 : decode cX10_fillsQuilt 190 = .ok (.sipush 401, 3) := by decide +kernel
theorem dX10_fillsQuilt_193 : decode cX10_fillsQuilt 193 = .ok (.iload_n 3, 1) := by decide +kernel
theorem dX10_fillsQuilt_194 : decode cX10_fillsQuilt 194 = .ok (.iconst 1, 1) := by decide +kernel
theorem dX10_fillsQuilt_195 : decode cX10_fillsQuilt 195 = .ok (.iadd, 1) := by decide +kernel
theorem dX10_fillsQuilt_196 : decode cX10_fillsQuilt 196 = .ok (.imul, 1) := by decide +kernel
theorem dX10_fillsQuilt_197 : decode cX10_fillsQuilt 197 = .ok (.aload_n 0, 1) := by decide +kernel
theorem dX10_fillsQuilt_198 : decode cX10_fillsQuilt 198 = .ok (.iload 4, 2) := by decide +kernel
theorem dX10_fillsQuilt_200 : decode cX10_fillsQuilt 200 = .ok (.iload_n 3, 1) := by decide +kernel
theorem dX10_fillsQuilt_201 : decode cX10_fillsQuilt 201 = .ok (.iload 6, 2) := by decide +kernel
theorem dX10_fillsQuilt_203 : decode cX10_fillsQuilt 203 = .ok (.invokevirtual 389, 3) := by decide +kernel
theorem dX10_fillsQuilt_206 : decode cX10_fillsQuilt 206 = .ok (.iadd, 1) := by decide +kernel
theorem dX10_fillsQuilt_207 : decode cX10_fillsQuilt 207 = .ok (.iaload, 1) := by decide +kernel
theorem dX10_fillsQuilt_208 : decode cX10_fillsQuilt 208 = .ok (.iadd, 1) := by decide +kernel
theorem dX10_fillsQuilt_209 : decode cX10_fillsQuilt 209 = .ok (.istore 7, 2) := by decide +kernel
theorem dX10_fillsQuilt_211 : decode cX10_fillsQuilt 211 = .ok (.iload 7, 2) := by decide +kernel
theorem dX10_fillsQuilt_213 : decode cX10_fillsQuilt 213 = .ok (.iload 5, 2) := by decide +kernel
theorem dX10_fillsQuilt_215 : decode cX10_fillsQuilt 215 = .ok (.if_icmp .ge 7, 3) := by decide +kernel
theorem dX10_fillsQuilt_218 : decode cX10_fillsQuilt 218 = .ok (.iload 7, 2) := by decide +kernel
theorem dX10_fillsQuilt_220 : decode cX10_fillsQuilt 220 = .ok (.istore 5, 2) := by decide +kernel
theorem dX10_fillsQuilt_222 : decode cX10_fillsQuilt 222 = .ok (.iinc 6 1, 3) := by decide +kernel
theorem dX10_fillsQuilt_225 : decode cX10_fillsQuilt 225 = .ok (.goto (-62), 3) := by decide +kernel
theorem dX10_fillsQuilt_228 : decode cX10_fillsQuilt 228 = .ok (.aload_n 0, 1) := by decide +kernel
theorem dX10_fillsQuilt_229 : decode cX10_fillsQuilt 229 = .ok (.getfield 129, 3) := by decide +kernel
theorem dX10_fillsQuilt_232 : decode cX10_fillsQuilt 232 = .ok (.sipush 401, 3) := by decide +kernel
theorem dX10_fillsQuilt_235 : decode cX10_fillsQuilt 235 = .ok (.iload_n 3, 1) := by decide +kernel
theorem dX10_fillsQuilt_236 : decode cX10_fillsQuilt 236 = .ok (.imul, 1) := by decide +kernel
theorem dX10_fillsQuilt_237 : decode cX10_fillsQuilt 237 = .ok (.iload 4, 2) := by decide +kernel
theorem dX10_fillsQuilt_239 : decode cX10_fillsQuilt 239 = .ok (.iadd, 1) := by decide +kernel
theorem dX10_fillsQuilt_240 : decode cX10_fillsQuilt 240 = .ok (.iload 5, 2) := by decide +kernel
theorem dX10_fillsQuilt_242 : decode cX10_fillsQuilt 242 = .ok (.iastore, 1) := by decide +kernel
theorem dX10_fillsQuilt_243 : decode cX10_fillsQuilt 243 = .ok (.iinc 4 1, 3) := by decide +kernel
theorem dX10_fillsQuilt_246 : decode cX10_fillsQuilt 246 = .ok (.goto (-97), 3) := by decide +kernel
theorem dX10_fillsQuilt_249 : decode cX10_fillsQuilt 249 = .ok (.iinc 3 (-1), 3) := by decide +kernel
theorem dX10_fillsQuilt_252 : decode cX10_fillsQuilt 252 = .ok (.goto (-115), 3) := by decide +kernel
theorem dX10_fillsQuilt_255 : decode cX10_fillsQuilt 255 = .ok (.aload_n 0, 1) := by decide +kernel
theorem dX10_fillsQuilt_256 : decode cX10_fillsQuilt 256 = .ok (.getfield 129, 3) := by decide +kernel
theorem dX10_fillsQuilt_259 : decode cX10_fillsQuilt 259 = .ok (.iload_n 1, 1) := by decide +kernel
theorem dX10_fillsQuilt_260 : decode cX10_fillsQuilt 260 = .ok (.iaload, 1) := by decide +kernel
theorem dX10_fillsQuilt_261 : decode cX10_fillsQuilt 261 = .ok (.ldc_w 385, 3) := by decide +kernel
theorem dX10_fillsQuilt_264 : decode cX10_fillsQuilt 264 = .ok (.if_icmp .lt 5, 3) := by decide +kernel
theorem dX10_fillsQuilt_267 : decode cX10_fillsQuilt 267 = .ok (.iconst 0, 1) := by decide +kernel
theorem dX10_fillsQuilt_268 : decode cX10_fillsQuilt 268 = .ok (.ireturn, 1) := by decide +kernel
theorem dX10_fillsQuilt_269 : decode cX10_fillsQuilt 269 = .ok (.iload_n 1, 1) := by decide +kernel
theorem dX10_fillsQuilt_270 : decode cX10_fillsQuilt 270 = .ok (.istore_n 3, 1) := by decide +kernel
theorem dX10_fillsQuilt_271 : decode cX10_fillsQuilt 271 = .ok (.iconst 0, 1) := by decide +kernel
theorem dX10_fillsQuilt_272 : decode cX10_fillsQuilt 272 = .ok (.istore 4, 2) := by decide +kernel
theorem dX10_fillsQuilt_274 : decode cX10_fillsQuilt 274 = .ok (.iload 4, 2) := by decide +kernel
theorem dX10_fillsQuilt_276 : decode cX10_fillsQuilt 276 = .ok (.iload_n 2, 1) := by decide +kernel
theorem dX10_fillsQuilt_277 : decode cX10_fillsQuilt 277 = .ok (.if_icmp .ge 84, 3) := by decide +kernel
theorem dX10_fillsQuilt_280 : decode cX10_fillsQuilt 280 = .ok (.iconst 0, 1) := by decide +kernel
theorem dX10_fillsQuilt_281 : decode cX10_fillsQuilt 281 = .ok (.istore 5, 2) := by decide +kernel
theorem dX10_fillsQuilt_283 : decode cX10_fillsQuilt 283 = .ok (.aload_n 0, 1) := by decide +kernel
theorem dX10_fillsQuilt_284 : decode cX10_fillsQuilt 284 = .ok (.getfield 135, 3) := by decide +kernel
theorem dX10_fillsQuilt_287 : decode cX10_fillsQuilt 287 = .ok (.iload 5, 2) := by decide +kernel
theorem dX10_fillsQuilt_289 : decode cX10_fillsQuilt 289 = .ok (.iaload, 1) := by decide +kernel
theorem dX10_fillsQuilt_290 : decode cX10_fillsQuilt 290 = .ok (.aload_n 0, 1) := by decide +kernel
theorem dX10_fillsQuilt_291 : decode cX10_fillsQuilt 291 = .ok (.getfield 129, 3) := by decide +kernel
theorem dX10_fillsQuilt_294 : decode cX10_fillsQuilt 294 = .ok (.sipush 401, 3) := by decide +kernel
theorem dX10_fillsQuilt_297 : decode cX10_fillsQuilt 297 = .ok (.iload 4, 2) := by decide +kernel
theorem dX10_fillsQuilt_299 : decode cX10_fillsQuilt 299 = .ok (.iconst 1, 1) := by decide +kernel
theorem dX10_fillsQuilt_300 : decode cX10_fillsQuilt 300 = .ok (.iadd, 1) := by decide +kernel
theorem dX10_fillsQuilt_301 : decode cX10_fillsQuilt 301 = .ok (.imul, 1) := by decide +kernel
theorem dX10_fillsQuilt_302 : decode cX10_fillsQuilt 302 = .ok (.aload_n 0, 1) := by decide +kernel
theorem dX10_fillsQuilt_303 : decode cX10_fillsQuilt 303 = .ok (.iload_n 3, 1) := by decide +kernel
theorem dX10_fillsQuilt_304 : decode cX10_fillsQuilt 304 = .ok (.iload 4, 2) := by decide +kernel
theorem dX10_fillsQuilt_306 : decode cX10_fillsQuilt 306 = .ok (.iload 5, 2) := by decide +kernel
theorem dX10_fillsQuilt_308 : decode cX10_fillsQuilt 308 = .ok (.invokevirtual 389, 3) := by decide +kernel
theorem dX10_fillsQuilt_311 : decode cX10_fillsQuilt 311 = .ok (.iadd, 1) := by decide +kernel
theorem dX10_fillsQuilt_312 : decode cX10_fillsQuilt 312 = .ok (.iaload, 1) := by decide +kernel
theorem dX10_fillsQuilt_313 : decode cX10_fillsQuilt 313 = .ok (.iadd, 1) := by decide +kernel
theorem dX10_fillsQuilt_314 : decode cX10_fillsQuilt 314 = .ok (.aload_n 0, 1) := by decide +kernel
theorem dX10_fillsQuilt_315 : decode cX10_fillsQuilt 315 = .ok (.getfield 129, 3) := by decide +kernel
theorem dX10_fillsQuilt_318 : decode cX10_fillsQuilt 318 = .ok (.sipush 401, 3) := by decide +kernel
theorem dX10_fillsQuilt_321 : decode cX10_fillsQuilt 321 = .ok (.iload 4, 2) := by decide +kernel
theorem dX10_fillsQuilt_323 : decode cX10_fillsQuilt 323 = .ok (.imul, 1) := by decide +kernel
theorem dX10_fillsQuilt_324 : decode cX10_fillsQuilt 324 = .ok (.iload_n 3, 1) := by decide +kernel
theorem dX10_fillsQuilt_325 : decode cX10_fillsQuilt 325 = .ok (.iadd, 1) := by decide +kernel
theorem dX10_fillsQuilt_326 : decode cX10_fillsQuilt 326 = .ok (.iaload, 1) := by decide +kernel
theorem dX10_fillsQuilt_327 : decode cX10_fillsQuilt 327 = .ok (.if_icmp .eq 9, 3) := by decide +kernel
theorem dX10_fillsQuilt_330 : decode cX10_fillsQuilt 330 = .ok (.iinc 5 1, 3) := by decide +kernel
theorem dX10_fillsQuilt_333 : decode cX10_fillsQuilt 333 = .ok (.goto (-50), 3) := by decide +kernel
theorem dX10_fillsQuilt_336 : decode cX10_fillsQuilt 336 = .ok (.aload_n 0, 1) := by decide +kernel
theorem dX10_fillsQuilt_337 : decode cX10_fillsQuilt 337 = .ok (.getfield 141, 3) := by decide +kernel
theorem dX10_fillsQuilt_340 : decode cX10_fillsQuilt 340 = .ok (.iload 4, 2) := by decide +kernel
theorem dX10_fillsQuilt_342 : decode cX10_fillsQuilt 342 = .ok (.iload 5, 2) := by decide +kernel
theorem dX10_fillsQuilt_344 : decode cX10_fillsQuilt 344 = .ok (.iastore, 1) := by decide +kernel
theorem dX10_fillsQuilt_345 : decode cX10_fillsQuilt 345 = .ok (.aload_n 0, 1) := by decide +kernel
theorem dX10_fillsQuilt_346 : decode cX10_fillsQuilt 346 = .ok (.iload_n 3, 1) := by decide +kernel
theorem dX10_fillsQuilt_347 : decode cX10_fillsQuilt 347 = .ok (.iload 4, 2) := by decide +kernel
theorem dX10_fillsQuilt_349 : decode cX10_fillsQuilt 349 = .ok (.iload 5, 2) := by decide +kernel
theorem dX10_fillsQuilt_351 : decode cX10_fillsQuilt 351 = .ok (.invokevirtual 389, 3) := by decide +kernel
theorem dX10_fillsQuilt_354 : decode cX10_fillsQuilt 354 = .ok (.istore_n 3, 1) := by decide +kernel
theorem dX10_fillsQuilt_355 : decode cX10_fillsQuilt 355 = .ok (.iinc 4 1, 3) := by decide +kernel
theorem dX10_fillsQuilt_358 : decode cX10_fillsQuilt 358 = .ok (.goto (-84), 3) := by decide +kernel
theorem dX10_fillsQuilt_361 : decode cX10_fillsQuilt 361 = .ok (.iconst 1, 1) := by decide +kernel
theorem dX10_fillsQuilt_362 : decode cX10_fillsQuilt 362 = .ok (.ireturn, 1) := by decide +kernel
theorem dX10_quilt_0 : decode cX10_quilt 0 = .ok (.iload_n 1, 1) := by decide +kernel
theorem dX10_quilt_1 : decode cX10_quilt 1 = .ok (.iconst 1, 1) := by decide +kernel
theorem dX10_quilt_2 : decode cX10_quilt 2 = .ok (.sipush 400, 3) := by decide +kernel
theorem dX10_quilt_5 : decode cX10_quilt 5 = .ok (.invokestatic 312, 3) := by decide +kernel
theorem dX10_quilt_8 : decode cX10_quilt 8 = .ok (.ifCond .eq 12, 3) := by decide +kernel
theorem dX10_quilt_11 : decode cX10_quilt 11 = .ok (.iload_n 2, 1) := by decide +kernel
theorem dX10_quilt_12 : decode cX10_quilt 12 = .ok (.iconst 0, 1) := by decide +kernel
theorem dX10_quilt_13 : decode cX10_quilt 13 = .ok (.iconst 1, 1) := by decide +kernel
theorem dX10_quilt_14 : decode cX10_quilt 14 = .ok (.invokestatic 312, 3) := by decide +kernel
theorem dX10_quilt_17 : decode cX10_quilt 17 = .ok (.ifCond .ne 5, 3) := by decide +kernel
theorem dX10_quilt_20 : decode cX10_quilt 20 = .ok (.iconst (-1), 1) := by decide +kernel
theorem dX10_quilt_21 : decode cX10_quilt 21 = .ok (.ireturn, 1) := by decide +kernel
theorem dX10_quilt_22 : decode cX10_quilt 22 = .ok (.aload_n 0, 1) := by decide +kernel
theorem dX10_quilt_23 : decode cX10_quilt 23 = .ok (.iload_n 1, 1) := by decide +kernel
theorem dX10_quilt_24 : decode cX10_quilt 24 = .ok (.invokevirtual 392, 3) := by decide +kernel
theorem dX10_quilt_27 : decode cX10_quilt 27 = .ok (.ifCond .ne 6, 3) := by decide +kernel
theorem dX10_quilt_30 : decode cX10_quilt 30 = .ok (.bipush (-2), 2) := by decide +kernel
theorem dX10_quilt_32 : decode cX10_quilt 32 = .ok (.ireturn, 1) := by decide +kernel
theorem dX10_quilt_33 : decode cX10_quilt 33 = .ok (.iload_n 2, 1) := by decide +kernel
theorem dX10_quilt_34 : decode cX10_quilt 34 = .ok (.ifCond .ne 10, 3) := by decide +kernel
theorem dX10_quilt_37 : decode cX10_quilt 37 = .ok (.aload_n 0, 1) := by decide +kernel
theorem dX10_quilt_38 : decode cX10_quilt 38 = .ok (.getfield 129, 3) := by decide +kernel
theorem dX10_quilt_41 : decode cX10_quilt 41 = .ok (.iload_n 1, 1) := by decide +kernel
theorem dX10_quilt_42 : decode cX10_quilt 42 = .ok (.iaload, 1) := by decide +kernel
theorem dX10_quilt_43 : decode cX10_quilt 43 = .ok (.ireturn, 1) := by decide +kernel
theorem dX10_quilt_44 : decode cX10_quilt 44 = .ok (.iconst 0, 1) := by decide +kernel
theorem dX10_quilt_45 : decode cX10_quilt 45 = .ok (.istore_n 3, 1) := by decide +kernel
theorem dX10_quilt_46 : decode cX10_quilt 46 = .ok (.iconst 0, 1) := by decide +kernel
theorem dX10_quilt_47 : decode cX10_quilt 47 = .ok (.istore 4, 2) := by decide +kernel
theorem dX10_quilt_49 : decode cX10_quilt 49 = .ok (.iload 4, 2) := by decide +kernel
theorem dX10_quilt_51 : decode cX10_quilt 51 = .ok (.aload_n 0, 1) := by decide +kernel
theorem dX10_quilt_52 : decode cX10_quilt 52 = .ok (.getfield 49, 3) := by decide +kernel
theorem dX10_quilt_55 : decode cX10_quilt 55 = .ok (.aload_n 0, 1) := by decide +kernel
theorem dX10_quilt_56 : decode cX10_quilt 56 = .ok (.getfield 228, 3) := by decide +kernel
theorem dX10_quilt_59 : decode cX10_quilt 59 = .ok (.iaload, 1) := by decide +kernel
theorem dX10_quilt_60 : decode cX10_quilt 60 = .ok (.if_icmp .ge 31, 3) := by decide +kernel
theorem dX10_quilt_63 : decode cX10_quilt 63 = .ok (.iload_n 3, 1) := by decide +kernel
theorem dX10_quilt_64 : decode cX10_quilt 64 = .ok (.aload_n 0, 1) := by decide +kernel
theorem dX10_quilt_65 : decode cX10_quilt 65 = .ok (.getfield 132, 3) := by decide +kernel
theorem dX10_quilt_68 : decode cX10_quilt 68 = .ok (.sipush 256, 3) := by decide +kernel
theorem dX10_quilt_71 : decode cX10_quilt 71 = .ok (.iload 4, 2) := by decide +kernel
theorem dX10_quilt_73 : decode cX10_quilt 73 = .ok (.imul, 1) := by decide +kernel
theorem dX10_quilt_74 : decode cX10_quilt 74 = .ok (.aload_n 0, 1) := by decide +kernel
theorem dX10_quilt_75 : decode cX10_quilt 75 = .ok (.getfield 141, 3) := by decide +kernel
theorem dX10_quilt_78 : decode cX10_quilt 78 = .ok (.iload 4, 2) := by decide +kernel
theorem dX10_quilt_80 : decode cX10_quilt 80 = .ok (.iaload, 1) := by decide +kernel
theorem dX10_quilt_81 : decode cX10_quilt 81 = .ok (.iadd, 1) := by decide +kernel
theorem dX10_quilt_82 : decode cX10_quilt 82 = .ok (.iaload, 1) := by decide +kernel
theorem dX10_quilt_83 : decode cX10_quilt 83 = .ok (.iadd, 1) := by decide +kernel
theorem dX10_quilt_84 : decode cX10_quilt 84 = .ok (.istore_n 3, 1) := by decide +kernel
theorem dX10_quilt_85 : decode cX10_quilt 85 = .ok (.iinc 4 1, 3) := by decide +kernel
theorem dX10_quilt_88 : decode cX10_quilt 88 = .ok (.goto (-39), 3) := by decide +kernel
theorem dX10_quilt_91 : decode cX10_quilt 91 = .ok (.iload_n 3, 1) := by decide +kernel
theorem dX10_quilt_92 : decode cX10_quilt 92 = .ok (.ireturn, 1) := by decide +kernel
theorem dX10_quiltOf_0 : decode cX10_quiltOf 0 = .ok (.iload_n 1, 1) := by decide +kernel
theorem dX10_quiltOf_1 : decode cX10_quiltOf 1 = .ok (.iconst 1, 1) := by decide +kernel
theorem dX10_quiltOf_2 : decode cX10_quiltOf 2 = .ok (.sipush 400, 3) := by decide +kernel
theorem dX10_quiltOf_5 : decode cX10_quiltOf 5 = .ok (.invokestatic 312, 3) := by decide +kernel
theorem dX10_quiltOf_8 : decode cX10_quiltOf 8 = .ok (.ifCond .eq 11, 3) := by decide +kernel
theorem dX10_quiltOf_11 : decode cX10_quiltOf 11 = .ok (.aload_n 0, 1) := by decide +kernel
theorem dX10_quiltOf_12 : decode cX10_quiltOf 12 = .ok (.iload_n 2, 1) := by decide +kernel
theorem dX10_quiltOf_13 : decode cX10_quiltOf 13 = .ok (.invokevirtual 340, 3) := by decide +kernel
theorem dX10_quiltOf_16 : decode cX10_quiltOf 16 = .ok (.ifCond .ne 5, 3) := by decide +kernel
theorem dX10_quiltOf_19 : decode cX10_quiltOf 19 = .ok (.iconst (-1), 1) := by decide +kernel
theorem dX10_quiltOf_20 : decode cX10_quiltOf 20 = .ok (.ireturn, 1) := by decide +kernel
theorem dX10_quiltOf_21 : decode cX10_quiltOf 21 = .ok (.aload_n 0, 1) := by decide +kernel
theorem dX10_quiltOf_22 : decode cX10_quiltOf 22 = .ok (.iload_n 1, 1) := by decide +kernel
theorem dX10_quiltOf_23 : decode cX10_quiltOf 23 = .ok (.invokevirtual 392, 3) := by decide +kernel
theorem dX10_quiltOf_26 : decode cX10_quiltOf 26 = .ok (.ifCond .eq 12, 3) := by decide +kernel
theorem dX10_quiltOf_29 : decode cX10_quiltOf 29 = .ok (.aload_n 0, 1) := by decide +kernel
theorem dX10_quiltOf_30 : decode cX10_quiltOf 30 = .ok (.getfield 141, 3) := by decide +kernel
theorem dX10_quiltOf_33 : decode cX10_quiltOf 33 = .ok (.iload_n 2, 1) := by decide +kernel
theorem dX10_quiltOf_34 : decode cX10_quiltOf 34 = .ok (.iaload, 1) := by decide +kernel
theorem dX10_quiltOf_35 : decode cX10_quiltOf 35 = .ok (.goto 5, 3) := by decide +kernel
theorem dX10_quiltOf_38 : decode cX10_quiltOf 38 = .ok (.bipush (-2), 2) := by decide +kernel
theorem dX10_quiltOf_40 : decode cX10_quiltOf 40 = .ok (.ireturn, 1) := by decide +kernel
theorem dX10_elected_0 : decode cX10_elected 0 = .ok (.iload_n 1, 1) := by decide +kernel
theorem dX10_elected_1 : decode cX10_elected 1 = .ok (.iconst 0, 1) := by decide +kernel
theorem dX10_elected_2 : decode cX10_elected 2 = .ok (.iconst 1, 1) := by decide +kernel
theorem dX10_elected_3 : decode cX10_elected 3 = .ok (.invokestatic 312, 3) := by decide +kernel
theorem dX10_elected_6 : decode cX10_elected 6 = .ok (.ifCond .ne 5, 3) := by decide +kernel
theorem dX10_elected_9 : decode cX10_elected 9 = .ok (.iconst (-1), 1) := by decide +kernel
theorem dX10_elected_10 : decode cX10_elected 10 = .ok (.ireturn, 1) := by decide +kernel
theorem dX10_elected_11 : decode cX10_elected 11 = .ok (.aload_n 0, 1) := by decide +kernel
theorem dX10_elected_12 : decode cX10_elected 12 = .ok (.getfield 49, 3) := by decide +kernel
theorem dX10_elected_15 : decode cX10_elected 15 = .ok (.aload_n 0, 1) := by decide +kernel
theorem dX10_elected_16 : decode cX10_elected 16 = .ok (.getfield 228, 3) := by decide +kernel
theorem dX10_elected_19 : decode cX10_elected 19 = .ok (.iaload, 1) := by decide +kernel
theorem dX10_elected_20 : decode cX10_elected 20 = .ok (.ifCond .ne 6, 3) := by decide +kernel
theorem dX10_elected_23 : decode cX10_elected 23 = .ok (.bipush (-2), 2) := by decide +kernel
theorem dX10_elected_25 : decode cX10_elected 25 = .ok (.ireturn, 1) := by decide +kernel
theorem dX10_elected_26 : decode cX10_elected 26 = .ok (.aload_n 0, 1) := by decide +kernel
theorem dX10_elected_27 : decode cX10_elected 27 = .ok (.invokevirtual 343, 3) := by decide +kernel
theorem dX10_elected_30 : decode cX10_elected 30 = .ok (.aload_n 0, 1) := by decide +kernel
theorem dX10_elected_31 : decode cX10_elected 31 = .ok (.invokevirtual 352, 3) := by decide +kernel
theorem dX10_elected_34 : decode cX10_elected 34 = .ok (.aload_n 0, 1) := by decide +kernel
theorem dX10_elected_35 : decode cX10_elected 35 = .ok (.invokevirtual 395, 3) := by decide +kernel
theorem dX10_elected_38 : decode cX10_elected 38 = .ok (.istore_n 2, 1) := by decide +kernel
theorem dX10_elected_39 : decode cX10_elected 39 = .ok (.iload_n 1, 1) := by decide +kernel
theorem dX10_elected_40 : decode cX10_elected 40 = .ok (.ifCond .ne 7, 3) := by decide +kernel
theorem dX10_elected_43 : decode cX10_elected 43 = .ok (.iload_n 2, 1) := by decide +kernel
theorem dX10_elected_44 : decode cX10_elected 44 = .ok (.goto 9, 3) := by decide +kernel
theorem dX10_elected_47 : decode cX10_elected 47 = .ok (.aload_n 0, 1) := by decide +kernel
theorem dX10_elected_48 : decode cX10_elected 48 = .ok (.getfield 116, 3) := by decide +kernel
theorem dX10_elected_51 : decode cX10_elected 51 = .ok (.iload_n 2, 1) := by decide +kernel
theorem dX10_elected_52 : decode cX10_elected 52 = .ok (.iaload, 1) := by decide +kernel
theorem dX10_elected_53 : decode cX10_elected 53 = .ok (.ireturn, 1) := by decide +kernel
theorem dX10_bald_0 : decode cX10_bald 0 = .ok (.aload_n 0, 1) := by decide +kernel
theorem dX10_bald_1 : decode cX10_bald 1 = .ok (.iload_n 1, 1) := by decide +kernel
theorem dX10_bald_2 : decode cX10_bald 2 = .ok (.invokevirtual 340, 3) := by decide +kernel
theorem dX10_bald_5 : decode cX10_bald 5 = .ok (.ifCond .ne 5, 3) := by decide +kernel
theorem dX10_bald_8 : decode cX10_bald 8 = .ok (.iconst (-1), 1) := by decide +kernel
theorem dX10_bald_9 : decode cX10_bald 9 = .ok (.ireturn, 1) := by decide +kernel
theorem dX10_bald_10 : decode cX10_bald 10 = .ok (.aload_n 0, 1) := by decide +kernel
theorem dX10_bald_11 : decode cX10_bald 11 = .ok (.invokevirtual 343, 3) := by decide +kernel
theorem dX10_bald_14 : decode cX10_bald 14 = .ok (.aload_n 0, 1) := by decide +kernel
theorem dX10_bald_15 : decode cX10_bald 15 = .ok (.invokevirtual 352, 3) := by decide +kernel
theorem dX10_bald_18 : decode cX10_bald 18 = .ok (.aload_n 0, 1) := by decide +kernel
theorem dX10_bald_19 : decode cX10_bald 19 = .ok (.getfield 113, 3) := by decide +kernel
theorem dX10_bald_22 : decode cX10_bald 22 = .ok (.iload_n 1, 1) := by decide +kernel
theorem dX10_bald_23 : decode cX10_bald 23 = .ok (.iaload, 1) := by decide +kernel
theorem dX10_bald_24 : decode cX10_bald 24 = .ok (.istore_n 2, 1) := by decide +kernel
theorem dX10_bald_25 : decode cX10_bald 25 = .ok (.iconst 0, 1) := by decide +kernel
theorem dX10_bald_26 : decode cX10_bald 26 = .ok (.istore_n 3, 1) := by decide +kernel
theorem dX10_bald_27 : decode cX10_bald 27 = .ok (.iload_n 3, 1) := by decide +kernel
theorem dX10_bald_28 : decode cX10_bald 28 = .ok (.iload_n 2, 1) := by decide +kernel
theorem dX10_bald_29 : decode cX10_bald 29 = .ok (.if_icmp .gt 28, 3) := by decide +kernel
theorem dX10_bald_32 : decode cX10_bald 32 = .ok (.aload_n 0, 1) := by decide +kernel
theorem dX10_bald_33 : decode cX10_bald 33 = .ok (.getfield 113, 3) := by decide +kernel
theorem dX10_bald_36 : decode cX10_bald 36 = .ok (.iload_n 1, 1) := by decide +kernel
theorem dX10_bald_37 : decode cX10_bald 37 = .ok (.iload_n 2, 1) := by decide +kernel
theorem dX10_bald_38 : decode cX10_bald 38 = .ok (.iload_n 3, 1) := by decide +kernel
theorem dX10_bald_39 : decode cX10_bald 39 = .ok (.isub, 1) := by decide +kernel
theorem dX10_bald_40 : decode cX10_bald 40 = .ok (.iastore, 1) := by decide +kernel
theorem dX10_bald_41 : decode cX10_bald 41 = .ok (.aload_n 0, 1) := by decide +kernel
theorem dX10_bald_42 : decode cX10_bald 42 = .ok (.invokevirtual 395, 3) := by decide +kernel
theorem dX10_bald_45 : decode cX10_bald 45 = .ok (.iload_n 1, 1) := by decide +kernel
theorem dX10_bald_46 : decode cX10_bald 46 = .ok (.if_icmp .ne 5, 3) := by decide +kernel
theorem dX10_bald_49 : decode cX10_bald 49 = .ok (.iload_n 3, 1) := by decide +kernel
theorem dX10_bald_50 : decode cX10_bald 50 = .ok (.ireturn, 1) := by decide +kernel
theorem dX10_bald_51 : decode cX10_bald 51 = .ok (.iinc 3 1, 3) := by decide +kernel
theorem dX10_bald_54 : decode cX10_bald 54 = .ok (.goto (-27), 3) := by decide +kernel
theorem dX10_bald_57 : decode cX10_bald 57 = .ok (.bipush (-2), 2) := by decide +kernel
theorem dX10_bald_59 : decode cX10_bald 59 = .ok (.ireturn, 1) := by decide +kernel
theorem dX10_fillsRows_0 : decode cX10_fillsRows 0 = .ok (.aload_n 0, 1) := by decide +kernel
theorem dX10_fillsRows_1 : decode cX10_fillsRows 1 = .ok (.invokevirtual 343, 3) := by decide +kernel
theorem dX10_fillsRows_4 : decode cX10_fillsRows 4 = .ok (.iconst 0, 1) := by decide +kernel
theorem dX10_fillsRows_5 : decode cX10_fillsRows 5 = .ok (.istore_n 3, 1) := by decide +kernel
theorem dX10_fillsRows_6 : decode cX10_fillsRows 6 = .ok (.iload_n 3, 1) := by decide +kernel
theorem dX10_fillsRows_7 : decode cX10_fillsRows 7 = .ok (.aload_n 0, 1) := by decide +kernel
theorem dX10_fillsRows_8 : decode cX10_fillsRows 8 = .ok (.getfield 55, 3) := by decide +kernel
theorem dX10_fillsRows_11 : decode cX10_fillsRows 11 = .ok (.aload_n 0, 1) := by decide +kernel
theorem dX10_fillsRows_12 : decode cX10_fillsRows 12 = .ok (.getfield 228, 3) := by decide +kernel
theorem dX10_fillsRows_15 : decode cX10_fillsRows 15 = .ok (.iaload, 1) := by decide +kernel
theorem dX10_fillsRows_16 : decode cX10_fillsRows 16 = .ok (.if_icmp .ge 21, 3) := by decide +kernel
theorem dX10_fillsRows_19 : decode cX10_fillsRows 19 = .ok (.aload_n 0, 1) := by decide +kernel
theorem dX10_fillsRows_20 : decode cX10_fillsRows 20 = .ok (.getfield 138, 3) := by decide +kernel
theorem dX10_fillsRows_23 : decode cX10_fillsRows 23 = .ok (.iload_n 3, 1) := by decide +kernel
theorem dX10_fillsRows_24 : decode cX10_fillsRows 24 = .ok (.aload_n 0, 1) := by decide +kernel
theorem dX10_fillsRows_25 : decode cX10_fillsRows 25 = .ok (.iload_n 1, 1) := by decide +kernel
theorem dX10_fillsRows_26 : decode cX10_fillsRows 26 = .ok (.iload_n 3, 1) := by decide +kernel
theorem dX10_fillsRows_27 : decode cX10_fillsRows 27 = .ok (.invokevirtual 362, 3) := by decide +kernel
theorem dX10_fillsRows_30 : decode cX10_fillsRows 30 = .ok (.iastore, 1) := by decide +kernel
theorem dX10_fillsRows_31 : decode cX10_fillsRows 31 = .ok (.iinc 3 1, 3) := by decide +kernel
theorem dX10_fillsRows_34 : decode cX10_fillsRows 34 = .ok (.goto (-28), 3) := by decide +kernel
theorem dX10_fillsRows_37 : decode cX10_fillsRows 37 = .ok (.aload_n 0, 1) := by decide +kernel
theorem dX10_fillsRows_38 : decode cX10_fillsRows 38 = .ok (.iconst 0, 1) := by decide +kernel
theorem dX10_fillsRows_39 : decode cX10_fillsRows 39 = .ok (.putfield 398, 3) := by decide +kernel
theorem dX10_fillsRows_42 : decode cX10_fillsRows 42 = .ok (.aload_n 0, 1) := by decide +kernel
theorem dX10_fillsRows_43 : decode cX10_fillsRows 43 = .ok (.iconst 0, 1) := by decide +kernel
theorem dX10_fillsRows_44 : decode cX10_fillsRows 44 = .ok (.putfield 401, 3) := by decide +kernel
theorem dX10_fillsRows_47 : decode cX10_fillsRows 47 = .ok (.iconst 0, 1) := by decide +kernel
theorem dX10_fillsRows_48 : decode cX10_fillsRows 48 = .ok (.istore_n 3, 1) := by decide +kernel
theorem dX10_fillsRows_49 : decode cX10_fillsRows 49 = .ok (.iload_n 3, 1) := by decide +kernel
theorem dX10_fillsRows_50 : decode cX10_fillsRows 50 = .ok (.iconst 1, 1) := by decide +kernel
theorem dX10_fillsRows_51 : decode cX10_fillsRows 51 = .ok (.iconst 2, 1) := by decide +kernel
theorem dX10_fillsRows_52 : decode cX10_fillsRows 52 = .ok (.aload_n 0, 1) := by decide +kernel
theorem dX10_fillsRows_53 : decode cX10_fillsRows 53 = .ok (.getfield 55, 3) := by decide +kernel
theorem dX10_fillsRows_56 : decode cX10_fillsRows 56 = .ok (.aload_n 0, 1) := by decide +kernel
theorem dX10_fillsRows_57 : decode cX10_fillsRows 57 = .ok (.getfield 228, 3) := by decide +kernel
theorem dX10_fillsRows_60 : decode cX10_fillsRows 60 = .ok (.iaload, 1) := by decide +kernel
theorem dX10_fillsRows_61 : decode cX10_fillsRows 61 = .ok (.imul, 1) := by decide +kernel
theorem dX10_fillsRows_62 : decode cX10_fillsRows 62 = .ok (.ishl, 1) := by decide +kernel
theorem dX10_fillsRows_63 : decode cX10_fillsRows 63 = .ok (.if_icmp .ge 119, 3) := by decide +kernel
theorem dX10_fillsRows_66 : decode cX10_fillsRows 66 = .ok (.iconst 0, 1) := by decide +kernel
theorem dX10_fillsRows_67 : decode cX10_fillsRows 67 = .ok (.istore 4, 2) := by decide +kernel
theorem dX10_fillsRows_69 : decode cX10_fillsRows 69 = .ok (.iconst 0, 1) := by decide +kernel
theorem dX10_fillsRows_70 : decode cX10_fillsRows 70 = .ok (.istore 5, 2) := by decide +kernel
theorem dX10_fillsRows_72 : decode cX10_fillsRows 72 = .ok (.iconst 0, 1) := by decide +kernel
theorem dX10_fillsRows_73 : decode cX10_fillsRows 73 = .ok (.istore 6, 2) := by decide +kernel
theorem dX10_fillsRows_75 : decode cX10_fillsRows 75 = .ok (.iload 6, 2) := by decide +kernel
theorem dX10_fillsRows_77 : decode cX10_fillsRows 77 = .ok (.aload_n 0, 1) := by decide +kernel
theorem dX10_fillsRows_78 : decode cX10_fillsRows 78 = .ok (.getfield 55, 3) := by decide +kernel
theorem dX10_fillsRows_81 : decode cX10_fillsRows 81 = .ok (.aload_n 0, 1) := by decide +kernel
theorem dX10_fillsRows_82 : decode cX10_fillsRows 82 = .ok (.getfield 228, 3) := by decide +kernel
theorem dX10_fillsRows_85 : decode cX10_fillsRows 85 = .ok (.iaload, 1) := by decide +kernel
theorem dX10_fillsRows_86 : decode cX10_fillsRows 86 = .ok (.if_icmp .ge 48, 3) := by decide +kernel
theorem dX10_fillsRows_89 : decode cX10_fillsRows 89 = .ok (.iload_n 3, 1) := by decide +kernel
theorem dX10_fillsRows_90 : decode cX10_fillsRows 90 = .ok (.iconst 2, 1) := by decide +kernel
theorem dX10_fillsRows_91 : decode cX10_fillsRows 91 = .ok (.iload 6, 2) := by decide +kernel
theorem dX10_fillsRows_93 : decode cX10_fillsRows 93 = .ok (.imul, 1) := by decide +kernel
theorem dX10_fillsRows_94 : decode cX10_fillsRows 94 = .ok (.ishr, 1) := by decide +kernel
theorem dX10_fillsRows_95 : decode cX10_fillsRows 95 = .ok (.iconst 3, 1) := by decide +kernel
theorem dX10_fillsRows_96 : decode cX10_fillsRows 96 = .ok (.iand, 1) := by decide +kernel
theorem dX10_fillsRows_97 : decode cX10_fillsRows 97 = .ok (.istore 7, 2) := by decide +kernel
theorem dX10_fillsRows_99 : decode cX10_fillsRows 99 = .ok (.iload 4, 2) := by decide +kernel
theorem dX10_fillsRows_101 : decode cX10_fillsRows 101 = .ok (.iload 7, 2) := by decide +kernel
theorem dX10_fillsRows_103 : decode cX10_fillsRows 103 = .ok (.aload_n 0, 1) := by decide +kernel
theorem dX10_fillsRows_104 : decode cX10_fillsRows 104 = .ok (.getfield 138, 3) := by decide +kernel
theorem dX10_fillsRows_107 : decode cX10_fillsRows 107 = .ok (.iload 6, 2) := by decide +kernel
theorem dX10_fillsRows_109 : decode cX10_fillsRows 109 = .ok (.iaload, 1) := by decide +kernel
theorem dX10_fillsRows_110 : decode cX10_fillsRows 110 = .ok (.imul, 1) := by decide +kernel
theorem dX10_fillsRows_111 : decode cX10_fillsRows 111 = .ok (.iadd, 1) := by decide +kernel
theorem dX10_fillsRows_112 : decode cX10_fillsRows 112 = .ok (.istore 4, 2) := by decide +kernel
theorem dX10_fillsRows_114 : decode cX10_fillsRows 114 = .ok (.iload 7, 2) := by decide +kernel
theorem dX10_fillsRows_116 : decode cX10_fillsRows 116 = .ok (.ifCond .le 12, 3) := by decide +kernel
theorem dX10_fillsRows_119 : decode cX10_fillsRows 119 = .ok (.iload 5, 2) := by decide +kernel
theorem dX10_fillsRows_121 : decode cX10_fillsRows 121 = .ok (.iconst 1, 1) := by decide +kernel
theorem dX10_fillsRows_122 : decode cX10_fillsRows 122 = .ok (.iload 6, 2) := by decide +kernel
theorem dX10_fillsRows_124 : decode cX10_fillsRows 124 = .ok (.ishl, 1) := by decide +kernel
theorem dX10_fillsRows_125 : decode cX10_fillsRows 125 = .ok (.ior, 1) := by decide +kernel
theorem dX10_fillsRows_126 : decode cX10_fillsRows 126 = .ok (.istore 5, 2) := by decide +kernel
theorem dX10_fillsRows_128 : decode cX10_fillsRows 128 = .ok (.iinc 6 1, 3) := by decide +kernel
theorem dX10_fillsRows_131 : decode cX10_fillsRows 131 = .ok (.goto (-56), 3) := by decide +kernel
theorem dX10_fillsRows_134 : decode cX10_fillsRows 134 = .ok (.iload 4, 2) := by decide +kernel
theorem dX10_fillsRows_136 : decode cX10_fillsRows 136 = .ok (.iload_n 2, 1) := by decide +kernel
theorem dX10_fillsRows_137 : decode cX10_fillsRows 137 = .ok (.if_icmp .eq 6, 3) := by decide +kernel
theorem dX10_fillsRows_140 : decode cX10_fillsRows 140 = .ok (.goto 36, 3) := by decide +kernel
theorem dX10_fillsRows_143 : decode cX10_fillsRows 143 = .ok (.aload_n 0, 1) := by decide +kernel
theorem dX10_fillsRows_144 : decode cX10_fillsRows 144 = .ok (.aload_n 0, 1) := by decide +kernel
theorem dX10_fillsRows_145 : decode cX10_fillsRows 145 = .ok (.getfield 398, 3) := by decide +kernel
theorem dX10_fillsRows_148 : decode cX10_fillsRows 148 = .ok (.ifCond .ne 8, 3) := by decide +kernel
theorem dX10_fillsRows_151 : decode cX10_fillsRows 151 = .ok (.iload 5, 2) := by decide +kernel
theorem dX10_fillsRows_153 : decode cX10_fillsRows 153 = .ok (.goto 10, 3) := by decide +kernel
theorem dX10_fillsRows_156 : decode cX10_fillsRows 156 = .ok (.aload_n 0, 1) := by decide +kernel
theorem dX10_fillsRows_157 : decode cX10_fillsRows 157 = .ok (.getfield 401, 3) := by decide +kernel
theorem dX10_fillsRows_160 : decode cX10_fillsRows 160 = .ok (.iload 5, 2) := by decide +kernel
theorem dX10_fillsRows_162 : decode cX10_fillsRows 162 = .ok (.iand, 1) := by decide +kernel
theorem dX10_fillsRows_163 : decode cX10_fillsRows 163 = .ok (.putfield 401, 3) := by decide +kernel
theorem dX10_fillsRows_166 : decode cX10_fillsRows 166 = .ok (.aload_n 0, 1) := by decide +kernel
theorem dX10_fillsRows_167 : decode cX10_fillsRows 167 = .ok (.dup, 1) := by decide +kernel
theorem dX10_fillsRows_168 : decode cX10_fillsRows 168 = .ok (.getfield 398, 3) := by decide +kernel
theorem dX10_fillsRows_171 : decode cX10_fillsRows 171 = .ok (.iconst 1, 1) := by decide +kernel
theorem dX10_fillsRows_172 : decode cX10_fillsRows 172 = .ok (.iadd, 1) := by decide +kernel
theorem dX10_fillsRows_173 : decode cX10_fillsRows 173 = .ok (.putfield 398, 3) := by decide +kernel
theorem dX10_fillsRows_176 : decode cX10_fillsRows 176 = .ok (.iinc 3 1, 3) := by decide +kernel
theorem dX10_fillsRows_179 : decode cX10_fillsRows 179 = .ok (.goto (-130), 3) := by decide +kernel
theorem dX10_fillsRows_182 : decode cX10_fillsRows 182 = .ok (.return_, 1) := by decide +kernel
theorem dX10_did_0 : decode cX10_did 0 = .ok (.aload_n 0, 1) := by decide +kernel
theorem dX10_did_1 : decode cX10_did 1 = .ok (.iload_n 1, 1) := by decide +kernel
theorem dX10_did_2 : decode cX10_did 2 = .ok (.invokevirtual 340, 3) := by decide +kernel
theorem dX10_did_5 : decode cX10_did 5 = .ok (.ifCond .eq 14, 3) := by decide +kernel
theorem dX10_did_8 : decode cX10_did 8 = .ok (.iload_n 2, 1) := by decide +kernel
theorem dX10_did_9 : decode cX10_did 9 = .ok (.iconst 0, 1) := by decide +kernel
theorem dX10_did_10 : decode cX10_did 10 = .ok (.sipush 9999, 3) := by decide +kernel
theorem dX10_did_13 : decode cX10_did 13 = .ok (.invokestatic 312, 3) := by decide +kernel
theorem dX10_did_16 : decode cX10_did 16 = .ok (.ifCond .ne 5, 3) := by decide +kernel
theorem dX10_did_19 : decode cX10_did 19 = .ok (.iconst (-1), 1) := by decide +kernel
theorem dX10_did_20 : decode cX10_did 20 = .ok (.ireturn, 1) := by decide +kernel
theorem dX10_did_21 : decode cX10_did 21 = .ok (.aload_n 0, 1) := by decide +kernel
theorem dX10_did_22 : decode cX10_did 22 = .ok (.iload_n 1, 1) := by decide +kernel
theorem dX10_did_23 : decode cX10_did 23 = .ok (.iload_n 2, 1) := by decide +kernel
theorem dX10_did_24 : decode cX10_did 24 = .ok (.invokevirtual 404, 3) := by decide +kernel
theorem dX10_did_27 : decode cX10_did 27 = .ok (.aload_n 0, 1) := by decide +kernel
theorem dX10_did_28 : decode cX10_did 28 = .ok (.getfield 398, 3) := by decide +kernel
theorem dX10_did_31 : decode cX10_did 31 = .ok (.ireturn, 1) := by decide +kernel
theorem dX10_surely_0 : decode cX10_surely 0 = .ok (.aload_n 0, 1) := by decide +kernel
theorem dX10_surely_1 : decode cX10_surely 1 = .ok (.iload_n 1, 1) := by decide +kernel
theorem dX10_surely_2 : decode cX10_surely 2 = .ok (.invokevirtual 340, 3) := by decide +kernel
theorem dX10_surely_5 : decode cX10_surely 5 = .ok (.ifCond .eq 14, 3) := by decide +kernel
theorem dX10_surely_8 : decode cX10_surely 8 = .ok (.iload_n 2, 1) := by decide +kernel
theorem dX10_surely_9 : decode cX10_surely 9 = .ok (.iconst 0, 1) := by decide +kernel
theorem dX10_surely_10 : decode cX10_surely 10 = .ok (.sipush 9999, 3) := by decide +kernel
theorem dX10_surely_13 : decode cX10_surely 13 = .ok (.invokestatic 312, 3) := by decide +kernel
theorem dX10_surely_16 : decode cX10_surely 16 = .ok (.ifCond .ne 5, 3) := by decide +kernel
theorem dX10_surely_19 : decode cX10_surely 19 = .ok (.iconst (-1), 1) := by decide +kernel
theorem dX10_surely_20 : decode cX10_surely 20 = .ok (.ireturn, 1) := by decide +kernel
theorem dX10_surely_21 : decode cX10_surely 21 = .ok (.aload_n 0, 1) := by decide +kernel
theorem dX10_surely_22 : decode cX10_surely 22 = .ok (.iload_n 1, 1) := by decide +kernel
theorem dX10_surely_23 : decode cX10_surely 23 = .ok (.iload_n 2, 1) := by decide +kernel
theorem dX10_surely_24 : decode cX10_surely 24 = .ok (.invokevirtual 404, 3) := by decide +kernel
theorem dX10_surely_27 : decode cX10_surely 27 = .ok (.aload_n 0, 1) := by decide +kernel
theorem dX10_surely_28 : decode cX10_surely 28 = .ok (.getfield 401, 3) := by decide +kernel
theorem dX10_surely_31 : decode cX10_surely 31 = .ok (.ireturn, 1) := by decide +kernel
theorem dX10_tell__0 : decode cX10_tell_ 0 = .ok (.aload_n 0, 1) := by decide +kernel
theorem dX10_tell__1 : decode cX10_tell_ 1 = .ok (.getfield 249, 3) := by decide +kernel
theorem dX10_tell__4 : decode cX10_tell_ 4 = .ok (.bipush 20, 2) := by decide +kernel
theorem dX10_tell__6 : decode cX10_tell_ 6 = .ok (.if_icmp .eq 35, 3) := by decide +kernel
theorem dX10_tell__9 : decode cX10_tell_ 9 = .ok (.iload_n 1, 1) := by decide +kernel
theorem dX10_tell__10 : decode cX10_tell_ 10 = .ok (.iconst 1, 1) := by decide +kernel
theorem dX10_tell__11 : decode cX10_tell_ 11 = .ok (.iconst 1, 1) := by decide +kernel
theorem dX10_tell__12 : decode cX10_tell_ 12 = .ok (.aload_n 0, 1) := by decide +kernel
theorem dX10_tell__13 : decode cX10_tell_ 13 = .ok (.getfield 49, 3) := by decide +kernel
theorem dX10_tell__16 : decode cX10_tell_ 16 = .ok (.aload_n 0, 1) := by decide +kernel
theorem dX10_tell__17 : decode cX10_tell_ 17 = .ok (.getfield 228, 3) := by decide +kernel
theorem dX10_tell__20 : decode cX10_tell_ 20 = .ok (.iaload, 1) := by decide +kernel
theorem dX10_tell__21 : decode cX10_tell_ 21 = .ok (.ishl, 1) := by decide +kernel
theorem dX10_tell__22 : decode cX10_tell_ 22 = .ok (.iconst 1, 1) := by decide +kernel
theorem dX10_tell__23 : decode cX10_tell_ 23 = .ok (.isub, 1) := by decide +kernel
theorem dX10_tell__24 : decode cX10_tell_ 24 = .ok (.invokestatic 312, 3) := by decide +kernel
theorem dX10_tell__27 : decode cX10_tell_ 27 = .ok (.ifCond .eq 14, 3) := by decide +kernel
theorem dX10_tell__30 : decode cX10_tell_ 30 = .ok (.iload_n 2, 1) := by decide +kernel
theorem dX10_tell__31 : decode cX10_tell_ 31 = .ok (.iconst 0, 1) := by decide +kernel
theorem dX10_tell__32 : decode cX10_tell_ 32 = .ok (.sipush 9999, 3) := by decide +kernel
theorem dX10_tell__35 : decode cX10_tell_ 35 = .ok (.invokestatic 312, 3) := by decide +kernel
theorem dX10_tell__38 : decode cX10_tell_ 38 = .ok (.ifCond .ne 5, 3) := by decide +kernel
theorem dX10_tell__41 : decode cX10_tell_ 41 = .ok (.iconst (-1), 1) := by decide +kernel
theorem dX10_tell__42 : decode cX10_tell_ 42 = .ok (.ireturn, 1) := by decide +kernel
theorem dX10_tell__43 : decode cX10_tell_ 43 = .ok (.aload_n 0, 1) := by decide +kernel
theorem dX10_tell__44 : decode cX10_tell_ 44 = .ok (.getfield 144, 3) := by decide +kernel
theorem dX10_tell__47 : decode cX10_tell_ 47 = .ok (.aload_n 0, 1) := by decide +kernel
theorem dX10_tell__48 : decode cX10_tell_ 48 = .ok (.getfield 249, 3) := by decide +kernel
theorem dX10_tell__51 : decode cX10_tell_ 51 = .ok (.iload_n 1, 1) := by decide +kernel
theorem dX10_tell__52 : decode cX10_tell_ 52 = .ok (.iastore, 1) := by decide +kernel
theorem dX10_tell__53 : decode cX10_tell_ 53 = .ok (.aload_n 0, 1) := by decide +kernel
theorem dX10_tell__54 : decode cX10_tell_ 54 = .ok (.getfield 147, 3) := by decide +kernel
theorem dX10_tell__57 : decode cX10_tell_ 57 = .ok (.aload_n 0, 1) := by decide +kernel
theorem dX10_tell__58 : decode cX10_tell_ 58 = .ok (.getfield 249, 3) := by decide +kernel
theorem dX10_tell__61 : decode cX10_tell_ 61 = .ok (.iload_n 2, 1) := by decide +kernel
theorem dX10_tell__62 : decode cX10_tell_ 62 = .ok (.iastore, 1) := by decide +kernel
theorem dX10_tell__63 : decode cX10_tell_ 63 = .ok (.aload_n 0, 1) := by decide +kernel
theorem dX10_tell__64 : decode cX10_tell_ 64 = .ok (.dup, 1) := by decide +kernel
theorem dX10_tell__65 : decode cX10_tell_ 65 = .ok (.getfield 249, 3) := by decide +kernel
theorem dX10_tell__68 : decode cX10_tell_ 68 = .ok (.iconst 1, 1) := by decide +kernel
theorem dX10_tell__69 : decode cX10_tell_ 69 = .ok (.iadd, 1) := by decide +kernel
theorem dX10_tell__70 : decode cX10_tell_ 70 = .ok (.putfield 249, 3) := by decide +kernel
theorem dX10_tell__73 : decode cX10_tell_ 73 = .ok (.aload_n 0, 1) := by decide +kernel
theorem dX10_tell__74 : decode cX10_tell_ 74 = .ok (.getfield 249, 3) := by decide +kernel
theorem dX10_tell__77 : decode cX10_tell_ 77 = .ok (.iconst 1, 1) := by decide +kernel
theorem dX10_tell__78 : decode cX10_tell_ 78 = .ok (.isub, 1) := by decide +kernel
theorem dX10_tell__79 : decode cX10_tell_ 79 = .ok (.ireturn, 1) := by decide +kernel
theorem dX10_forget_0 : decode cX10_forget 0 = .ok (.aload_n 0, 1) := by decide +kernel
theorem dX10_forget_1 : decode cX10_forget 1 = .ok (.getfield 249, 3) := by decide +kernel
theorem dX10_forget_4 : decode cX10_forget 4 = .ok (.istore_n 1, 1) := by decide +kernel
theorem dX10_forget_5 : decode cX10_forget 5 = .ok (.aload_n 0, 1) := by decide +kernel
theorem dX10_forget_6 : decode cX10_forget 6 = .ok (.iconst 0, 1) := by decide +kernel
theorem dX10_forget_7 : decode cX10_forget 7 = .ok (.putfield 249, 3) := by decide +kernel
theorem dX10_forget_10 : decode cX10_forget 10 = .ok (.iload_n 1, 1) := by decide +kernel
theorem dX10_forget_11 : decode cX10_forget 11 = .ok (.ireturn, 1) := by decide +kernel
theorem dX10_isSo_0 : decode cX10_isSo 0 = .ok (.iconst 0, 1) := by decide +kernel
theorem dX10_isSo_1 : decode cX10_isSo 1 = .ok (.istore 4, 2) := by decide +kernel
theorem dX10_isSo_3 : decode cX10_isSo 3 = .ok (.iload 4, 2) := by decide +kernel
theorem dX10_isSo_5 : decode cX10_isSo 5 = .ok (.iload_n 3, 1) := by decide +kernel
theorem dX10_isSo_6 : decode cX10_isSo 6 = .ok (.if_icmp .ge 106, 3) := by decide +kernel
theorem dX10_isSo_9 : decode cX10_isSo 9 = .ok (.aload_n 0, 1) := by decide +kernel
theorem dX10_isSo_10 : decode cX10_isSo 10 = .ok (.getfield 144, 3) := by decide +kernel
theorem dX10_isSo_13 : decode cX10_isSo 13 = .ok (.iload 4, 2) := by decide +kernel
theorem dX10_isSo_15 : decode cX10_isSo 15 = .ok (.iaload, 1) := by decide +kernel
theorem dX10_isSo_16 : decode cX10_isSo 16 = .ok (.iload_n 1, 1) := by decide +kernel
theorem dX10_isSo_17 : decode cX10_isSo 17 = .ok (.ishr, 1) := by decide +kernel
theorem dX10_isSo_18 : decode cX10_isSo 18 = .ok (.iconst 1, 1) := by decide +kernel
theorem dX10_isSo_19 : decode cX10_isSo 19 = .ok (.iand, 1) := by decide +kernel
theorem dX10_isSo_20 : decode cX10_isSo 20 = .ok (.iconst 1, 1) := by decide +kernel
theorem dX10_isSo_21 : decode cX10_isSo 21 = .ok (.if_icmp .ne 7, 3) := by decide +kernel
theorem dX10_isSo_24 : decode cX10_isSo 24 = .ok (.iload_n 2, 1) := by decide +kernel
theorem dX10_isSo_25 : decode cX10_isSo 25 = .ok (.goto 4, 3) := by decide +kernel
theorem dX10_isSo_28 : decode cX10_isSo 28 = .ok (.iconst 0, 1) := by decide +kernel
theorem dX10_isSo_29 : decode cX10_isSo 29 = .ok (.istore 5, 2) := by decide +kernel
theorem dX10_isSo_31 : decode cX10_isSo 31 = .ok (.iconst 0, 1) := by decide +kernel
theorem dX10_isSo_32 : decode cX10_isSo 32 = .ok (.istore 6, 2) := by decide +kernel
theorem dX10_isSo_34 : decode cX10_isSo 34 = .ok (.iload 6, 2) := by decide +kernel
theorem dX10_isSo_36 : decode cX10_isSo 36 = .ok (.aload_n 0, 1) := by decide +kernel
theorem dX10_isSo_37 : decode cX10_isSo 37 = .ok (.getfield 49, 3) := by decide +kernel
theorem dX10_isSo_40 : decode cX10_isSo 40 = .ok (.aload_n 0, 1) := by decide +kernel
theorem dX10_isSo_41 : decode cX10_isSo 41 = .ok (.getfield 228, 3) := by decide +kernel
theorem dX10_isSo_44 : decode cX10_isSo 44 = .ok (.iaload, 1) := by decide +kernel
theorem dX10_isSo_45 : decode cX10_isSo 45 = .ok (.if_icmp .ge 47, 3) := by decide +kernel
theorem dX10_isSo_48 : decode cX10_isSo 48 = .ok (.aload_n 0, 1) := by decide +kernel
theorem dX10_isSo_49 : decode cX10_isSo 49 = .ok (.getfield 144, 3) := by decide +kernel
theorem dX10_isSo_52 : decode cX10_isSo 52 = .ok (.iload 4, 2) := by decide +kernel
theorem dX10_isSo_54 : decode cX10_isSo 54 = .ok (.iaload, 1) := by decide +kernel
theorem dX10_isSo_55 : decode cX10_isSo 55 = .ok (.iload 6, 2) := by decide +kernel
theorem dX10_isSo_57 : decode cX10_isSo 57 = .ok (.ishr, 1) := by decide +kernel
theorem dX10_isSo_58 : decode cX10_isSo 58 = .ok (.iconst 1, 1) := by decide +kernel
theorem dX10_isSo_59 : decode cX10_isSo 59 = .ok (.iand, 1) := by decide +kernel
theorem dX10_isSo_60 : decode cX10_isSo 60 = .ok (.iconst 1, 1) := by decide +kernel
theorem dX10_isSo_61 : decode cX10_isSo 61 = .ok (.if_icmp .ne 25, 3) := by decide +kernel
theorem dX10_isSo_64 : decode cX10_isSo 64 = .ok (.iload 5, 2) := by decide +kernel
theorem dX10_isSo_66 : decode cX10_isSo 66 = .ok (.aload_n 0, 1) := by decide +kernel
theorem dX10_isSo_67 : decode cX10_isSo 67 = .ok (.iload 6, 2) := by decide +kernel
theorem dX10_isSo_69 : decode cX10_isSo 69 = .ok (.invokevirtual 319, 3) := by decide +kernel
theorem dX10_isSo_72 : decode cX10_isSo 72 = .ok (.aload_n 0, 1) := by decide +kernel
theorem dX10_isSo_73 : decode cX10_isSo 73 = .ok (.getfield 110, 3) := by decide +kernel
theorem dX10_isSo_76 : decode cX10_isSo 76 = .ok (.bipush 9, 2) := by decide +kernel
theorem dX10_isSo_78 : decode cX10_isSo 78 = .ok (.iload 6, 2) := by decide +kernel
theorem dX10_isSo_80 : decode cX10_isSo 80 = .ok (.imul, 1) := by decide +kernel
theorem dX10_isSo_81 : decode cX10_isSo 81 = .ok (.iaload, 1) := by decide +kernel
theorem dX10_isSo_82 : decode cX10_isSo 82 = .ok (.isub, 1) := by decide +kernel
theorem dX10_isSo_83 : decode cX10_isSo 83 = .ok (.iadd, 1) := by decide +kernel
theorem dX10_isSo_84 : decode cX10_isSo 84 = .ok (.istore 5, 2) := by decide +kernel
theorem dX10_isSo_86 : decode cX10_isSo 86 = .ok (.iinc 6 1, 3) := by decide +kernel
theorem dX10_isSo_89 : decode cX10_isSo 89 = .ok (.goto (-55), 3) := by decide +kernel
theorem dX10_isSo_92 : decode cX10_isSo 92 = .ok (.iload 5, 2) := by decide +kernel
theorem dX10_isSo_94 : decode cX10_isSo 94 = .ok (.aload_n 0, 1) := by decide +kernel
theorem dX10_isSo_95 : decode cX10_isSo 95 = .ok (.getfield 147, 3) := by decide +kernel
theorem dX10_isSo_98 : decode cX10_isSo 98 = .ok (.iload 4, 2) := by decide +kernel
theorem dX10_isSo_100 : decode cX10_isSo 100 = .ok (.iaload, 1) := by decide +kernel
theorem dX10_isSo_101 : decode cX10_isSo 101 = .ok (.if_icmp .eq 5, 3) := by decide +kernel
theorem dX10_isSo_104 : decode cX10_isSo 104 = .ok (.iconst 0, 1) := by decide +kernel
theorem dX10_isSo_105 : decode cX10_isSo 105 = .ok (.ireturn, 1) := by decide +kernel
theorem dX10_isSo_106 : decode cX10_isSo 106 = .ok (.iinc 4 1, 3) := by decide +kernel
theorem dX10_isSo_109 : decode cX10_isSo 109 = .ok (.goto (-106), 3) := by decide +kernel
theorem dX10_isSo_112 : decode cX10_isSo 112 = .ok (.iconst 1, 1) := by decide +kernel
theorem dX10_isSo_113 : decode cX10_isSo 113 = .ok (.ireturn, 1) := by decide +kernel
theorem dX10_stuffer_0 : decode cX10_stuffer 0 = .ok (.iload_n 1, 1) := by decide +kernel
theorem dX10_stuffer_1 : decode cX10_stuffer 1 = .ok (.iconst 1, 1) := by decide +kernel
theorem dX10_stuffer_2 : decode cX10_stuffer 2 = .ok (.sipush 200, 3) := by decide +kernel
theorem dX10_stuffer_5 : decode cX10_stuffer 5 = .ok (.invokestatic 312, 3) := by decide +kernel
theorem dX10_stuffer_8 : decode cX10_stuffer 8 = .ok (.ifCond .eq 20, 3) := by decide +kernel
theorem dX10_stuffer_11 : decode cX10_stuffer 11 = .ok (.iload_n 2, 1) := by decide +kernel
theorem dX10_stuffer_12 : decode cX10_stuffer 12 = .ok (.iconst 0, 1) := by decide +kernel
theorem dX10_stuffer_13 : decode cX10_stuffer 13 = .ok (.aload_n 0, 1) := by decide +kernel
theorem dX10_stuffer_14 : decode cX10_stuffer 14 = .ok (.getfield 249, 3) := by decide +kernel
theorem dX10_stuffer_17 : decode cX10_stuffer 17 = .ok (.invokestatic 312, 3) := by decide +kernel
theorem dX10_stuffer_20 : decode cX10_stuffer 20 = .ok (.ifCond .eq 8, 3) := by decide +kernel
theorem dX10_stuffer_23 : decode cX10_stuffer 23 = .ok (.iload_n 3, 1) := by decide +kernel
theorem dX10_stuffer_24 : decode cX10_stuffer 24 = .ok (.iconst (-1), 1) := by decide +kernel
theorem dX10_stuffer_25 : decode cX10_stuffer 25 = .ok (.if_icmp .ge 5, 3) := by decide +kernel
theorem dX10_stuffer_28 : decode cX10_stuffer 28 = .ok (.iconst (-1), 1) := by decide +kernel
theorem dX10_stuffer_29 : decode cX10_stuffer 29 = .ok (.ireturn, 1) := by decide +kernel
theorem dX10_stuffer_30 : decode cX10_stuffer 30 = .ok (.aload_n 0, 1) := by decide +kernel
theorem dX10_stuffer_31 : decode cX10_stuffer 31 = .ok (.invokevirtual 343, 3) := by decide +kernel
theorem dX10_stuffer_34 : decode cX10_stuffer 34 = .ok (.iconst 0, 1) := by decide +kernel
theorem dX10_stuffer_35 : decode cX10_stuffer 35 = .ok (.istore 4, 2) := by decide +kernel
theorem dX10_stuffer_37 : decode cX10_stuffer 37 = .ok (.iconst 0, 1) := by decide +kernel
theorem dX10_stuffer_38 : decode cX10_stuffer 38 = .ok (.istore 5, 2) := by decide +kernel
theorem dX10_stuffer_40 : decode cX10_stuffer 40 = .ok (.iload 5, 2) := by decide +kernel
theorem dX10_stuffer_42 : decode cX10_stuffer 42 = .ok (.aload_n 0, 1) := by decide +kernel
theorem dX10_stuffer_43 : decode cX10_stuffer 43 = .ok (.getfield 49, 3) := by decide +kernel
theorem dX10_stuffer_46 : decode cX10_stuffer 46 = .ok (.aload_n 0, 1) := by decide +kernel
theorem dX10_stuffer_47 : decode cX10_stuffer 47 = .ok (.getfield 228, 3) := by decide +kernel
theorem dX10_stuffer_50 : decode cX10_stuffer 50 = .ok (.iaload, 1) := by decide +kernel
theorem dX10_stuffer_51 : decode cX10_stuffer 51 = .ok (.if_icmp .ge 110, 3) := by decide +kernel
theorem dX10_stuffer_54 : decode cX10_stuffer 54 = .ok (.iconst 0, 1) := by decide +kernel
theorem dX10_stuffer_55 : decode cX10_stuffer 55 = .ok (.istore 6, 2) := by decide +kernel
theorem dX10_stuffer_57 : decode cX10_stuffer 57 = .ok (.iload 6, 2) := by decide +kernel
theorem dX10_stuffer_59 : decode cX10_stuffer 59 = .ok (.aload_n 0, 1) := by decide +kernel
theorem dX10_stuffer_60 : decode cX10_stuffer 60 = .ok (.getfield 49, 3) := by decide +kernel
theorem dX10_stuffer_63 : decode cX10_stuffer 63 = .ok (.aload_n 0, 1) := by decide +kernel
theorem dX10_stuffer_64 : decode cX10_stuffer 64 = .ok (.getfield 228, 3) := by decide +kernel
theorem dX10_stuffer_67 : decode cX10_stuffer 67 = .ok (.iaload, 1) := by decide +kernel
theorem dX10_stuffer_68 : decode cX10_stuffer 68 = .ok (.if_icmp .ge 87, 3) := by decide +kernel
theorem dX10_stuffer_71 : decode cX10_stuffer 71 = .ok (.iconst 1, 1) := by decide +kernel
theorem dX10_stuffer_72 : decode cX10_stuffer 72 = .ok (.istore 7, 2) := by decide +kernel
theorem dX10_stuffer_74 : decode cX10_stuffer 74 = .ok (.iload 7, 2) := by decide +kernel
theorem dX10_stuffer_76 : decode cX10_stuffer 76 = .ok (.iload_n 1, 1) := by decide +kernel
theorem dX10_stuffer_77 : decode cX10_stuffer 77 = .ok (.if_icmp .gt 72, 3) := by decide +kernel
theorem dX10_stuffer_80 : decode cX10_stuffer 80 = .ok (.iload 7, 2) := by decide +kernel
theorem dX10_stuffer_82 : decode cX10_stuffer 82 = .ok (.aload_n 0, 1) := by decide +kernel
theorem dX10_stuffer_83 : decode cX10_stuffer 83 = .ok (.getfield 110, 3) := by decide +kernel
theorem dX10_stuffer_86 : decode cX10_stuffer 86 = .ok (.bipush 9, 2) := by decide +kernel
theorem dX10_stuffer_88 : decode cX10_stuffer 88 = .ok (.iload 5, 2) := by decide +kernel
theorem dX10_stuffer_90 : decode cX10_stuffer 90 = .ok (.imul, 1) := by decide +kernel
theorem dX10_stuffer_91 : decode cX10_stuffer 91 = .ok (.iaload, 1) := by decide +kernel
theorem dX10_stuffer_92 : decode cX10_stuffer 92 = .ok (.if_icmp .gt 57, 3) := by decide +kernel
theorem dX10_stuffer_95 : decode cX10_stuffer 95 = .ok (.iload 6, 2) := by decide +kernel
theorem dX10_stuffer_97 : decode cX10_stuffer 97 = .ok (.iload 5, 2) := by decide +kernel
theorem dX10_stuffer_99 : decode cX10_stuffer 99 = .ok (.if_icmp .eq 50, 3) := by decide +kernel
theorem dX10_stuffer_102 : decode cX10_stuffer 102 = .ok (.aload_n 0, 1) := by decide +kernel
theorem dX10_stuffer_103 : decode cX10_stuffer 103 = .ok (.iload 6, 2) := by decide +kernel
theorem dX10_stuffer_105 : decode cX10_stuffer 105 = .ok (.iload 7, 2) := by decide +kernel
theorem dX10_stuffer_107 : decode cX10_stuffer 107 = .ok (.iload_n 2, 1) := by decide +kernel
theorem dX10_stuffer_108 : decode cX10_stuffer 108 = .ok (.invokevirtual 407, 3) := by decide +kernel
theorem dX10_stuffer_111 : decode cX10_stuffer 111 = .ok (.ifCond .ne 6, 3) := by decide +kernel
theorem dX10_stuffer_114 : decode cX10_stuffer 114 = .ok (.goto 29, 3) := by decide +kernel
theorem dX10_stuffer_117 : decode cX10_stuffer 117 = .ok (.iload 4, 2) := by decide +kernel
theorem dX10_stuffer_119 : decode cX10_stuffer 119 = .ok (.iload_n 3, 1) := by decide +kernel
theorem dX10_stuffer_120 : decode cX10_stuffer 120 = .ok (.if_icmp .ne 20, 3) := by decide +kernel
theorem dX10_stuffer_123 : decode cX10_stuffer 123 = .ok (.sipush 10000, 3) := by decide +kernel
theorem dX10_stuffer_126 : decode cX10_stuffer 126 = .ok (.iload 5, 2) := by decide +kernel
theorem dX10_stuffer_128 : decode cX10_stuffer 128 = .ok (.imul, 1) := by decide +kernel
theorem dX10_stuffer_129 : decode cX10_stuffer 129 = .ok (.sipush 1000, 3) := by decide +kernel
theorem dX10_stuffer_132 : decode cX10_stuffer 132 = .ok (.iload 6, 2) := by decide +kernel
theorem dX10_stuffer_134 : decode cX10_stuffer 134 = .ok (.imul, 1) := by decide +kernel
theorem dX10_stuffer_135 : decode cX10_stuffer 135 = .ok (.iadd, 1) := by decide +kernel
theorem dX10_stuffer_136 : decode cX10_stuffer 136 = .ok (.iload 7, 2) := by decide +kernel
theorem dX10_stuffer_138 : decode cX10_stuffer 138 = .ok (.iadd, 1) := by decide +kernel
theorem dX10_stuffer_139 : decode cX10_stuffer 139 = .ok (.ireturn, 1) := by decide +kernel
theorem dX10_stuffer_140 : decode cX10_stuffer 140 = .ok (.iinc 4 1, 3) := by decide +kernel
theorem dX10_stuffer_143 : decode cX10_stuffer 143 = .ok (.iinc 7 1, 3) := by decide +kernel
theorem dX10_stuffer_146 : decode cX10_stuffer 146 = .ok (.goto (-72), 3) := by decide +kernel
theorem dX10_stuffer_149 : decode cX10_stuffer 149 = .ok (.iinc 6 1, 3) := by decide +kernel
theorem dX10_stuffer_152 : decode cX10_stuffer 152 = .ok (.goto (-95), 3) := by decide +kernel
theorem dX10_stuffer_155 : decode cX10_stuffer 155 = .ok (.iinc 5 1, 3) := by decide +kernel
theorem dX10_stuffer_158 : decode cX10_stuffer 158 = .ok (.goto (-118), 3) := by decide +kernel
