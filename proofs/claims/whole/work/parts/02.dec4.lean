/-! decode rows 4 -/
theorem dX9_haveNext_41 : decode cX9_haveNext 41 = .ok (.invokestatic 194, 3) := by decide +kernel
theorem dX9_haveNext_44 : decode cX9_haveNext 44 = .ok (.istore 4, 2) := by decide +kernel
theorem dX9_haveNext_46 : decode cX9_haveNext 46 = .ok (.iload_n 2, 1) := by decide +kernel
theorem dX9_haveNext_47 : decode cX9_haveNext 47 = .ok (.iconst 0, 1) := by decide +kernel
theorem dX9_haveNext_48 : decode cX9_haveNext 48 = .ok (.iload 4, 2) := by decide +kernel
theorem dX9_haveNext_50 : decode cX9_haveNext 50 = .ok (.sipush 9999, 3) := by decide +kernel
theorem dX9_haveNext_53 : decode cX9_haveNext 53 = .ok (.iload_n 2, 1) := by decide +kernel
theorem dX9_haveNext_54 : decode cX9_haveNext 54 = .ok (.isub, 1) := by decide +kernel
theorem dX9_haveNext_55 : decode cX9_haveNext 55 = .ok (.invokestatic 197, 3) := by decide +kernel
theorem dX9_haveNext_58 : decode cX9_haveNext 58 = .ok (.invokestatic 202, 3) := by decide +kernel
theorem dX9_haveNext_61 : decode cX9_haveNext 61 = .ok (.iadd, 1) := by decide +kernel
theorem dX9_haveNext_62 : decode cX9_haveNext 62 = .ok (.ireturn, 1) := by decide +kernel
theorem dX9_haveBehind_0 : decode cX9_haveBehind 0 = .ok (.aload_n 0, 1) := by decide +kernel
theorem dX9_haveBehind_1 : decode cX9_haveBehind 1 = .ok (.getfield 36, 3) := by decide +kernel
theorem dX9_haveBehind_4 : decode cX9_haveBehind 4 = .ok (.iload_n 1, 1) := by decide +kernel
theorem dX9_haveBehind_5 : decode cX9_haveBehind 5 = .ok (.invokevirtual 140, 3) := by decide +kernel
theorem dX9_haveBehind_8 : decode cX9_haveBehind 8 = .ok (.istore_n 3, 1) := by decide +kernel
theorem dX9_haveBehind_9 : decode cX9_haveBehind 9 = .ok (.iconst 0, 1) := by decide +kernel
theorem dX9_haveBehind_10 : decode cX9_haveBehind 10 = .ok (.istore 4, 2) := by decide +kernel
theorem dX9_haveBehind_12 : decode cX9_haveBehind 12 = .ok (.iload 4, 2) := by decide +kernel
theorem dX9_haveBehind_14 : decode cX9_haveBehind 14 = .ok (.iload_n 2, 1) := by decide +kernel
theorem dX9_haveBehind_15 : decode cX9_haveBehind 15 = .ok (.if_icmp .ge 26, 3) := by decide +kernel
theorem dX9_haveBehind_18 : decode cX9_haveBehind 18 = .ok (.aload_n 0, 1) := by decide +kernel
theorem dX9_haveBehind_19 : decode cX9_haveBehind 19 = .ok (.iload_n 1, 1) := by decide +kernel
theorem dX9_haveBehind_20 : decode cX9_haveBehind 20 = .ok (.iload_n 3, 1) := by decide +kernel
theorem dX9_haveBehind_21 : decode cX9_haveBehind 21 = .ok (.aload_n 0, 1) := by decide +kernel
theorem dX9_haveBehind_22 : decode cX9_haveBehind 22 = .ok (.getfield 36, 3) := by decide +kernel
theorem dX9_haveBehind_25 : decode cX9_haveBehind 25 = .ok (.getfield 150, 3) := by decide +kernel
theorem dX9_haveBehind_28 : decode cX9_haveBehind 28 = .ok (.iload 4, 2) := by decide +kernel
theorem dX9_haveBehind_30 : decode cX9_haveBehind 30 = .ok (.iadd, 1) := by decide +kernel
theorem dX9_haveBehind_31 : decode cX9_haveBehind 31 = .ok (.invokevirtual 293, 3) := by decide +kernel
theorem dX9_haveBehind_34 : decode cX9_haveBehind 34 = .ok (.istore_n 3, 1) := by decide +kernel
theorem dX9_haveBehind_35 : decode cX9_haveBehind 35 = .ok (.iinc 4 1, 3) := by decide +kernel
theorem dX9_haveBehind_38 : decode cX9_haveBehind 38 = .ok (.goto (-26), 3) := by decide +kernel
theorem dX9_haveBehind_41 : decode cX9_haveBehind 41 = .ok (.iload_n 3, 1) := by decide +kernel
theorem dX9_haveBehind_42 : decode cX9_haveBehind 42 = .ok (.ireturn, 1) := by decide +kernel
theorem dX9_isWarm_0 : decode cX9_isWarm 0 = .ok (.aload_n 0, 1) := by decide +kernel
theorem dX9_isWarm_1 : decode cX9_isWarm 1 = .ok (.getfield 26, 3) := by decide +kernel
theorem dX9_isWarm_4 : decode cX9_isWarm 4 = .ok (.iload_n 2, 1) := by decide +kernel
theorem dX9_isWarm_5 : decode cX9_isWarm 5 = .ok (.aload_n 0, 1) := by decide +kernel
theorem dX9_isWarm_6 : decode cX9_isWarm 6 = .ok (.iload_n 1, 1) := by decide +kernel
theorem dX9_isWarm_7 : decode cX9_isWarm 7 = .ok (.iload_n 3, 1) := by decide +kernel
theorem dX9_isWarm_8 : decode cX9_isWarm 8 = .ok (.invokevirtual 287, 3) := by decide +kernel
theorem dX9_isWarm_11 : decode cX9_isWarm 11 = .ok (.iload_n 3, 1) := by decide +kernel
theorem dX9_isWarm_12 : decode cX9_isWarm 12 = .ok (.aload_n 0, 1) := by decide +kernel
theorem dX9_isWarm_13 : decode cX9_isWarm 13 = .ok (.getfield 36, 3) := by decide +kernel
theorem dX9_isWarm_16 : decode cX9_isWarm 16 = .ok (.bipush 8, 2) := by decide +kernel
theorem dX9_isWarm_18 : decode cX9_isWarm 18 = .ok (.invokevirtual 140, 3) := by decide +kernel
theorem dX9_isWarm_21 : decode cX9_isWarm 21 = .ok (.iload_n 1, 1) := by decide +kernel
theorem dX9_isWarm_22 : decode cX9_isWarm 22 = .ok (.invokevirtual 184, 3) := by decide +kernel
theorem dX9_isWarm_25 : decode cX9_isWarm 25 = .ok (.aload_n 0, 1) := by decide +kernel
theorem dX9_isWarm_26 : decode cX9_isWarm 26 = .ok (.getfield 26, 3) := by decide +kernel
theorem dX9_isWarm_29 : decode cX9_isWarm 29 = .ok (.aload_n 0, 1) := by decide +kernel
theorem dX9_isWarm_30 : decode cX9_isWarm 30 = .ok (.getfield 26, 3) := by decide +kernel
theorem dX9_isWarm_33 : decode cX9_isWarm 33 = .ok (.getfield 296, 3) := by decide +kernel
theorem dX9_isWarm_36 : decode cX9_isWarm 36 = .ok (.iconst 0, 1) := by decide +kernel
theorem dX9_isWarm_37 : decode cX9_isWarm 37 = .ok (.iaload, 1) := by decide +kernel
theorem dX9_isWarm_38 : decode cX9_isWarm 38 = .ok (.invokevirtual 191, 3) := by decide +kernel
theorem dX9_isWarm_41 : decode cX9_isWarm 41 = .ok (.ifCond .le 7, 3) := by decide +kernel
theorem dX9_isWarm_44 : decode cX9_isWarm 44 = .ok (.iconst 1, 1) := by decide +kernel
theorem dX9_isWarm_45 : decode cX9_isWarm 45 = .ok (.goto 4, 3) := by decide +kernel
theorem dX9_isWarm_48 : decode cX9_isWarm 48 = .ok (.iconst 0, 1) := by decide +kernel
theorem dX9_isWarm_49 : decode cX9_isWarm 49 = .ok (.ireturn, 1) := by decide +kernel
theorem dX9_warmBy_0 : decode cX9_warmBy 0 = .ok (.aload_n 0, 1) := by decide +kernel
theorem dX9_warmBy_1 : decode cX9_warmBy 1 = .ok (.iload_n 1, 1) := by decide +kernel
theorem dX9_warmBy_2 : decode cX9_warmBy 2 = .ok (.invokevirtual 134, 3) := by decide +kernel
theorem dX9_warmBy_5 : decode cX9_warmBy 5 = .ok (.ifCond .ne 5, 3) := by decide +kernel
theorem dX9_warmBy_8 : decode cX9_warmBy 8 = .ok (.iconst (-1), 1) := by decide +kernel
theorem dX9_warmBy_9 : decode cX9_warmBy 9 = .ok (.ireturn, 1) := by decide +kernel
theorem dX9_warmBy_10 : decode cX9_warmBy 10 = .ok (.aload_n 0, 1) := by decide +kernel
theorem dX9_warmBy_11 : decode cX9_warmBy 11 = .ok (.getfield 36, 3) := by decide +kernel
theorem dX9_warmBy_14 : decode cX9_warmBy 14 = .ok (.iload_n 1, 1) := by decide +kernel
theorem dX9_warmBy_15 : decode cX9_warmBy 15 = .ok (.invokevirtual 140, 3) := by decide +kernel
theorem dX9_warmBy_18 : decode cX9_warmBy 18 = .ok (.istore_n 2, 1) := by decide +kernel
theorem dX9_warmBy_19 : decode cX9_warmBy 19 = .ok (.iconst 0, 1) := by decide +kernel
theorem dX9_warmBy_20 : decode cX9_warmBy 20 = .ok (.istore_n 3, 1) := by decide +kernel
theorem dX9_warmBy_21 : decode cX9_warmBy 21 = .ok (.iload_n 3, 1) := by decide +kernel
theorem dX9_warmBy_22 : decode cX9_warmBy 22 = .ok (.sipush 200, 3) := by decide +kernel
theorem dX9_warmBy_25 : decode cX9_warmBy 25 = .ok (.if_icmp .gt 45, 3) := by decide +kernel
theorem dX9_warmBy_28 : decode cX9_warmBy 28 = .ok (.aload_n 0, 1) := by decide +kernel
theorem dX9_warmBy_29 : decode cX9_warmBy 29 = .ok (.iload_n 1, 1) := by decide +kernel
theorem dX9_warmBy_30 : decode cX9_warmBy 30 = .ok (.iload_n 2, 1) := by decide +kernel
theorem dX9_warmBy_31 : decode cX9_warmBy 31 = .ok (.aload_n 0, 1) := by decide +kernel
theorem dX9_warmBy_32 : decode cX9_warmBy 32 = .ok (.getfield 36, 3) := by decide +kernel
theorem dX9_warmBy_35 : decode cX9_warmBy 35 = .ok (.getfield 150, 3) := by decide +kernel
theorem dX9_warmBy_38 : decode cX9_warmBy 38 = .ok (.iload_n 3, 1) := by decide +kernel
theorem dX9_warmBy_39 : decode cX9_warmBy 39 = .ok (.iadd, 1) := by decide +kernel
theorem dX9_warmBy_40 : decode cX9_warmBy 40 = .ok (.invokevirtual 153, 3) := by decide +kernel
theorem dX9_warmBy_43 : decode cX9_warmBy 43 = .ok (.ifCond .eq 5, 3) := by decide +kernel
theorem dX9_warmBy_46 : decode cX9_warmBy 46 = .ok (.iload_n 3, 1) := by decide +kernel
theorem dX9_warmBy_47 : decode cX9_warmBy 47 = .ok (.ireturn, 1) := by decide +kernel
theorem dX9_warmBy_48 : decode cX9_warmBy 48 = .ok (.aload_n 0, 1) := by decide +kernel
theorem dX9_warmBy_49 : decode cX9_warmBy 49 = .ok (.iload_n 1, 1) := by decide +kernel
theorem dX9_warmBy_50 : decode cX9_warmBy 50 = .ok (.iload_n 2, 1) := by decide +kernel
theorem dX9_warmBy_51 : decode cX9_warmBy 51 = .ok (.aload_n 0, 1) := by decide +kernel
theorem dX9_warmBy_52 : decode cX9_warmBy 52 = .ok (.getfield 36, 3) := by decide +kernel
theorem dX9_warmBy_55 : decode cX9_warmBy 55 = .ok (.getfield 150, 3) := by decide +kernel
theorem dX9_warmBy_58 : decode cX9_warmBy 58 = .ok (.iload_n 3, 1) := by decide +kernel
theorem dX9_warmBy_59 : decode cX9_warmBy 59 = .ok (.iadd, 1) := by decide +kernel
theorem dX9_warmBy_60 : decode cX9_warmBy 60 = .ok (.invokevirtual 293, 3) := by decide +kernel
theorem dX9_warmBy_63 : decode cX9_warmBy 63 = .ok (.istore_n 2, 1) := by decide +kernel
theorem dX9_warmBy_64 : decode cX9_warmBy 64 = .ok (.iinc 3 1, 3) := by decide +kernel
theorem dX9_warmBy_67 : decode cX9_warmBy 67 = .ok (.goto (-46), 3) := by decide +kernel
theorem dX9_warmBy_70 : decode cX9_warmBy 70 = .ok (.bipush (-2), 2) := by decide +kernel
theorem dX9_warmBy_72 : decode cX9_warmBy 72 = .ok (.ireturn, 1) := by decide +kernel
theorem dX9_warm_0 : decode cX9_warm 0 = .ok (.iload_n 1, 1) := by decide +kernel
theorem dX9_warm_1 : decode cX9_warm 1 = .ok (.ifCond .lt 10, 3) := by decide +kernel
theorem dX9_warm_4 : decode cX9_warm 4 = .ok (.iload_n 1, 1) := by decide +kernel
theorem dX9_warm_5 : decode cX9_warm 5 = .ok (.sipush 200, 3) := by decide +kernel
theorem dX9_warm_8 : decode cX9_warm 8 = .ok (.if_icmp .le 5, 3) := by decide +kernel
theorem dX9_warm_11 : decode cX9_warm 11 = .ok (.iconst (-1), 1) := by decide +kernel
theorem dX9_warm_12 : decode cX9_warm 12 = .ok (.ireturn, 1) := by decide +kernel
theorem dX9_warm_13 : decode cX9_warm 13 = .ok (.iconst 0, 1) := by decide +kernel
theorem dX9_warm_14 : decode cX9_warm 14 = .ok (.istore_n 2, 1) := by decide +kernel
theorem dX9_warm_15 : decode cX9_warm 15 = .ok (.iconst 0, 1) := by decide +kernel
theorem dX9_warm_16 : decode cX9_warm 16 = .ok (.istore_n 3, 1) := by decide +kernel
theorem dX9_warm_17 : decode cX9_warm 17 = .ok (.iload_n 3, 1) := by decide +kernel
theorem dX9_warm_18 : decode cX9_warm 18 = .ok (.aload_n 0, 1) := by decide +kernel
theorem dX9_warm_19 : decode cX9_warm 19 = .ok (.getfield 26, 3) := by decide +kernel
theorem dX9_warm_22 : decode cX9_warm 22 = .ok (.getfield 117, 3) := by decide +kernel
theorem dX9_warm_25 : decode cX9_warm 25 = .ok (.if_icmp .ge 38, 3) := by decide +kernel
theorem dX9_warm_28 : decode cX9_warm 28 = .ok (.aload_n 0, 1) := by decide +kernel
theorem dX9_warm_29 : decode cX9_warm 29 = .ok (.iload_n 3, 1) := by decide +kernel
theorem dX9_warm_30 : decode cX9_warm 30 = .ok (.aload_n 0, 1) := by decide +kernel
theorem dX9_warm_31 : decode cX9_warm 31 = .ok (.iload_n 3, 1) := by decide +kernel
theorem dX9_warm_32 : decode cX9_warm 32 = .ok (.iload_n 1, 1) := by decide +kernel
theorem dX9_warm_33 : decode cX9_warm 33 = .ok (.invokevirtual 276, 3) := by decide +kernel
theorem dX9_warm_36 : decode cX9_warm 36 = .ok (.aload_n 0, 1) := by decide +kernel
theorem dX9_warm_37 : decode cX9_warm 37 = .ok (.getfield 36, 3) := by decide +kernel
theorem dX9_warm_40 : decode cX9_warm 40 = .ok (.getfield 150, 3) := by decide +kernel
theorem dX9_warm_43 : decode cX9_warm 43 = .ok (.iload_n 1, 1) := by decide +kernel
theorem dX9_warm_44 : decode cX9_warm 44 = .ok (.iadd, 1) := by decide +kernel
theorem dX9_warm_45 : decode cX9_warm 45 = .ok (.invokevirtual 153, 3) := by decide +kernel
theorem dX9_warm_48 : decode cX9_warm 48 = .ok (.ifCond .eq 9, 3) := by decide +kernel
theorem dX9_warm_51 : decode cX9_warm 51 = .ok (.iload_n 2, 1) := by decide +kernel
theorem dX9_warm_52 : decode cX9_warm 52 = .ok (.iconst 1, 1) := by decide +kernel
theorem dX9_warm_53 : decode cX9_warm 53 = .ok (.iload_n 3, 1) := by decide +kernel
theorem dX9_warm_54 : decode cX9_warm 54 = .ok (.ishl, 1) := by decide +kernel
theorem dX9_warm_55 : decode cX9_warm 55 = .ok (.ior, 1) := by decide +kernel
theorem dX9_warm_56 : decode cX9_warm 56 = .ok (.istore_n 2, 1) := by decide +kernel
theorem dX9_warm_57 : decode cX9_warm 57 = .ok (.iinc 3 1, 3) := by decide +kernel
theorem dX9_warm_60 : decode cX9_warm 60 = .ok (.goto (-43), 3) := by decide +kernel
theorem dX9_warm_63 : decode cX9_warm 63 = .ok (.iload_n 2, 1) := by decide +kernel
theorem dX9_warm_64 : decode cX9_warm 64 = .ok (.ireturn, 1) := by decide +kernel
theorem dX9_payments_0 : decode cX9_payments 0 = .ok (.iconst 1, 1) := by decide +kernel
theorem dX9_payments_1 : decode cX9_payments 1 = .ok (.aload_n 0, 1) := by decide +kernel
theorem dX9_payments_2 : decode cX9_payments 2 = .ok (.getfield 26, 3) := by decide +kernel
theorem dX9_payments_5 : decode cX9_payments 5 = .ok (.getfield 117, 3) := by decide +kernel
theorem dX9_payments_8 : decode cX9_payments 8 = .ok (.ishl, 1) := by decide +kernel
theorem dX9_payments_9 : decode cX9_payments 9 = .ok (.istore_n 1, 1) := by decide +kernel
theorem dX9_payments_10 : decode cX9_payments 10 = .ok (.iconst 0, 1) := by decide +kernel
theorem dX9_payments_11 : decode cX9_payments 11 = .ok (.istore_n 2, 1) := by decide +kernel
theorem dX9_payments_12 : decode cX9_payments 12 = .ok (.iload_n 2, 1) := by decide +kernel
theorem dX9_payments_13 : decode cX9_payments 13 = .ok (.aload_n 0, 1) := by decide +kernel
theorem dX9_payments_14 : decode cX9_payments 14 = .ok (.getfield 26, 3) := by decide +kernel
theorem dX9_payments_17 : decode cX9_payments 17 = .ok (.getfield 117, 3) := by decide +kernel
theorem dX9_payments_20 : decode cX9_payments 20 = .ok (.if_icmp .ge 55, 3) := by decide +kernel
theorem dX9_payments_23 : decode cX9_payments 23 = .ok (.aload_n 0, 1) := by decide +kernel
theorem dX9_payments_24 : decode cX9_payments 24 = .ok (.getfield 36, 3) := by decide +kernel
theorem dX9_payments_27 : decode cX9_payments 27 = .ok (.iload_n 2, 1) := by decide +kernel
theorem dX9_payments_28 : decode cX9_payments 28 = .ok (.invokevirtual 147, 3) := by decide +kernel
theorem dX9_payments_31 : decode cX9_payments 31 = .ok (.istore_n 3, 1) := by decide +kernel
theorem dX9_payments_32 : decode cX9_payments 32 = .ok (.iconst 0, 1) := by decide +kernel
theorem dX9_payments_33 : decode cX9_payments 33 = .ok (.istore 4, 2) := by decide +kernel
theorem dX9_payments_35 : decode cX9_payments 35 = .ok (.iload 4, 2) := by decide +kernel
theorem dX9_payments_37 : decode cX9_payments 37 = .ok (.iconst 1, 1) := by decide +kernel
theorem dX9_payments_38 : decode cX9_payments 38 = .ok (.iload_n 2, 1) := by decide +kernel
theorem dX9_payments_39 : decode cX9_payments 39 = .ok (.ishl, 1) := by decide +kernel
theorem dX9_payments_40 : decode cX9_payments 40 = .ok (.if_icmp .ge 29, 3) := by decide +kernel
theorem dX9_payments_43 : decode cX9_payments 43 = .ok (.aload_n 0, 1) := by decide +kernel
theorem dX9_payments_44 : decode cX9_payments 44 = .ok (.getfield 83, 3) := by decide +kernel
theorem dX9_payments_47 : decode cX9_payments 47 = .ok (.iload 4, 2) := by decide +kernel
theorem dX9_payments_49 : decode cX9_payments 49 = .ok (.iconst 1, 1) := by decide +kernel
theorem dX9_payments_50 : decode cX9_payments 50 = .ok (.iload_n 2, 1) := by decide +kernel
theorem dX9_payments_51 : decode cX9_payments 51 = .ok (.ishl, 1) := by decide +kernel
theorem dX9_payments_52 : decode cX9_payments 52 = .ok (.ior, 1) := by decide +kernel
theorem dX9_payments_53 : decode cX9_payments 53 = .ok (.aload_n 0, 1) := by decide +kernel
theorem dX9_payments_54 : decode cX9_payments 54 = .ok (.getfield 83, 3) := by decide +kernel
theorem dX9_payments_57 : decode cX9_payments 57 = .ok (.iload 4, 2) := by decide +kernel
theorem dX9_payments_59 : decode cX9_payments 59 = .ok (.iaload, 1) := by decide +kernel
theorem dX9_payments_60 : decode cX9_payments 60 = .ok (.iload_n 3, 1) := by decide +kernel
theorem dX9_payments_61 : decode cX9_payments 61 = .ok (.iadd, 1) := by decide +kernel
theorem dX9_payments_62 : decode cX9_payments 62 = .ok (.iastore, 1) := by decide +kernel
theorem dX9_payments_63 : decode cX9_payments 63 = .ok (.iinc 4 1, 3) := by decide +kernel
theorem dX9_payments_66 : decode cX9_payments 66 = .ok (.goto (-31), 3) := by decide +kernel
theorem dX9_payments_69 : decode cX9_payments 69 = .ok (.iinc 2 1, 3) := by decide +kernel
theorem dX9_payments_72 : decode cX9_payments 72 = .ok (.goto (-60), 3) := by decide +kernel
theorem dX9_payments_75 : decode cX9_payments 75 = .ok (.iconst 1, 1) := by decide +kernel
theorem dX9_payments_76 : decode cX9_payments 76 = .ok (.istore_n 2, 1) := by decide +kernel
theorem dX9_payments_77 : decode cX9_payments 77 = .ok (.iload_n 2, 1) := by decide +kernel
theorem dX9_payments_78 : decode cX9_payments 78 = .ok (.iload_n 1, 1) := by decide +kernel
theorem dX9_payments_79 : decode cX9_payments 79 = .ok (.if_icmp .ge 35, 3) := by decide +kernel
theorem dX9_payments_82 : decode cX9_payments 82 = .ok (.aload_n 0, 1) := by decide +kernel
theorem dX9_payments_83 : decode cX9_payments 83 = .ok (.getfield 86, 3) := by decide +kernel
theorem dX9_payments_86 : decode cX9_payments 86 = .ok (.iload_n 2, 1) := by decide +kernel
theorem dX9_payments_87 : decode cX9_payments 87 = .ok (.aload_n 0, 1) := by decide +kernel
theorem dX9_payments_88 : decode cX9_payments 88 = .ok (.iload_n 2, 1) := by decide +kernel
theorem dX9_payments_89 : decode cX9_payments 89 = .ok (.invokevirtual 299, 3) := by decide +kernel
theorem dX9_payments_92 : decode cX9_payments 92 = .ok (.aload_n 0, 1) := by decide +kernel
theorem dX9_payments_93 : decode cX9_payments 93 = .ok (.getfield 83, 3) := by decide +kernel
theorem dX9_payments_96 : decode cX9_payments 96 = .ok (.iload_n 2, 1) := by decide +kernel
theorem dX9_payments_97 : decode cX9_payments 97 = .ok (.iaload, 1) := by decide +kernel
theorem dX9_payments_98 : decode cX9_payments 98 = .ok (.ifCond .ne 7, 3) := by decide +kernel
theorem dX9_payments_101 : decode cX9_payments 101 = .ok (.iconst 1, 1) := by decide +kernel
theorem dX9_payments_102 : decode cX9_payments 102 = .ok (.goto 4, 3) := by decide +kernel
theorem dX9_payments_105 : decode cX9_payments 105 = .ok (.iconst 0, 1) := by decide +kernel
theorem dX9_payments_106 : decode cX9_payments 106 = .ok (.iadd, 1) := by decide +kernel
theorem dX9_payments_107 : decode cX9_payments 107 = .ok (.iastore, 1) := by decide +kernel
theorem dX9_payments_108 : decode cX9_payments 108 = .ok (.iinc 2 1, 3) := by decide +kernel
theorem dX9_payments_111 : decode cX9_payments 111 = .ok (.goto (-34), 3) := by decide +kernel
theorem dX9_payments_114 : decode cX9_payments 114 = .ok (.aload_n 0, 1) := by decide +kernel
theorem dX9_payments_115 : decode cX9_payments 115 = .ok (.getfield 26, 3) := by decide +kernel
theorem dX9_payments_118 : decode cX9_payments 118 = .ok (.getfield 117, 3) := by decide +kernel
theorem dX9_payments_121 : decode cX9_payments 121 = .ok (.aload_n 0, 1) := by decide +kernel
theorem dX9_payments_122 : decode cX9_payments 122 = .ok (.getfield 86, 3) := by decide +kernel
theorem dX9_payments_125 : decode cX9_payments 125 = .ok (.iload_n 1, 1) := by decide +kernel
theorem dX9_payments_126 : decode cX9_payments 126 = .ok (.iconst 1, 1) := by decide +kernel
theorem dX9_payments_127 : decode cX9_payments 127 = .ok (.isub, 1) := by decide +kernel
theorem dX9_payments_128 : decode cX9_payments 128 = .ok (.iaload, 1) := by decide +kernel
theorem dX9_payments_129 : decode cX9_payments 129 = .ok (.isub, 1) := by decide +kernel
theorem dX9_payments_130 : decode cX9_payments 130 = .ok (.ireturn, 1) := by decide +kernel
theorem dX9_mostGroupsWithin_0 : decode cX9_mostGroupsWithin 0 = .ok (.iconst 0, 1) := by decide +kernel
theorem dX9_mostGroupsWithin_1 : decode cX9_mostGroupsWithin 1 = .ok (.istore_n 2, 1) := by decide +kernel
theorem dX9_mostGroupsWithin_2 : decode cX9_mostGroupsWithin 2 = .ok (.iconst 0, 1) := by decide +kernel
theorem dX9_mostGroupsWithin_3 : decode cX9_mostGroupsWithin 3 = .ok (.istore_n 3, 1) := by decide +kernel
theorem dX9_mostGroupsWithin_4 : decode cX9_mostGroupsWithin 4 = .ok (.iload_n 3, 1) := by decide +kernel
theorem dX9_mostGroupsWithin_5 : decode cX9_mostGroupsWithin 5 = .ok (.aload_n 0, 1) := by decide +kernel
theorem dX9_mostGroupsWithin_6 : decode cX9_mostGroupsWithin 6 = .ok (.getfield 26, 3) := by decide +kernel
theorem dX9_mostGroupsWithin_9 : decode cX9_mostGroupsWithin 9 = .ok (.getfield 117, 3) := by decide +kernel
theorem dX9_mostGroupsWithin_12 : decode cX9_mostGroupsWithin 12 = .ok (.if_icmp .ge 33, 3) := by decide +kernel
theorem dX9_mostGroupsWithin_15 : decode cX9_mostGroupsWithin 15 = .ok (.iload_n 1, 1) := by decide +kernel
theorem dX9_mostGroupsWithin_16 : decode cX9_mostGroupsWithin 16 = .ok (.iload_n 3, 1) := by decide +kernel
theorem dX9_mostGroupsWithin_17 : decode cX9_mostGroupsWithin 17 = .ok (.ishr, 1) := by decide +kernel
theorem dX9_mostGroupsWithin_18 : decode cX9_mostGroupsWithin 18 = .ok (.iconst 1, 1) := by decide +kernel
theorem dX9_mostGroupsWithin_19 : decode cX9_mostGroupsWithin 19 = .ok (.iand, 1) := by decide +kernel
theorem dX9_mostGroupsWithin_20 : decode cX9_mostGroupsWithin 20 = .ok (.iconst 1, 1) := by decide +kernel
theorem dX9_mostGroupsWithin_21 : decode cX9_mostGroupsWithin 21 = .ok (.if_icmp .ne 18, 3) := by decide +kernel
theorem dX9_mostGroupsWithin_24 : decode cX9_mostGroupsWithin 24 = .ok (.iload_n 2, 1) := by decide +kernel
theorem dX9_mostGroupsWithin_25 : decode cX9_mostGroupsWithin 25 = .ok (.aload_n 0, 1) := by decide +kernel
theorem dX9_mostGroupsWithin_26 : decode cX9_mostGroupsWithin 26 = .ok (.getfield 86, 3) := by decide +kernel
theorem dX9_mostGroupsWithin_29 : decode cX9_mostGroupsWithin 29 = .ok (.iload_n 1, 1) := by decide +kernel
theorem dX9_mostGroupsWithin_30 : decode cX9_mostGroupsWithin 30 = .ok (.iconst 1, 1) := by decide +kernel
theorem dX9_mostGroupsWithin_31 : decode cX9_mostGroupsWithin 31 = .ok (.iload_n 3, 1) := by decide +kernel
theorem dX9_mostGroupsWithin_32 : decode cX9_mostGroupsWithin 32 = .ok (.ishl, 1) := by decide +kernel
theorem dX9_mostGroupsWithin_33 : decode cX9_mostGroupsWithin 33 = .ok (.ixor, 1) := by decide +kernel
theorem dX9_mostGroupsWithin_34 : decode cX9_mostGroupsWithin 34 = .ok (.iaload, 1) := by decide +kernel
theorem dX9_mostGroupsWithin_35 : decode cX9_mostGroupsWithin 35 = .ok (.invokestatic 202, 3) := by decide +kernel
theorem dX9_mostGroupsWithin_38 : decode cX9_mostGroupsWithin 38 = .ok (.istore_n 2, 1) := by decide +kernel
theorem dX9_mostGroupsWithin_39 : decode cX9_mostGroupsWithin 39 = .ok (.iinc 3 1, 3) := by decide +kernel
theorem dX9_mostGroupsWithin_42 : decode cX9_mostGroupsWithin 42 = .ok (.goto (-38), 3) := by decide +kernel
theorem dX9_mostGroupsWithin_45 : decode cX9_mostGroupsWithin 45 = .ok (.iload_n 2, 1) := by decide +kernel
theorem dX9_mostGroupsWithin_46 : decode cX9_mostGroupsWithin 46 = .ok (.ireturn, 1) := by decide +kernel
theorem dX9_quilt_0 : decode cX9_quilt 0 = .ok (.iload_n 1, 1) := by decide +kernel
theorem dX9_quilt_1 : decode cX9_quilt 1 = .ok (.invokestatic 302, 3) := by decide +kernel
theorem dX9_quilt_4 : decode cX9_quilt 4 = .ok (.ifCond .eq 12, 3) := by decide +kernel
theorem dX9_quilt_7 : decode cX9_quilt 7 = .ok (.iload_n 2, 1) := by decide +kernel
theorem dX9_quilt_8 : decode cX9_quilt 8 = .ok (.ifCond .lt 8, 3) := by decide +kernel
theorem dX9_quilt_11 : decode cX9_quilt 11 = .ok (.iload_n 2, 1) := by decide +kernel
theorem dX9_quilt_12 : decode cX9_quilt 12 = .ok (.iconst 1, 1) := by decide +kernel
theorem dX9_quilt_13 : decode cX9_quilt 13 = .ok (.if_icmp .le 5, 3) := by decide +kernel
theorem dX9_quilt_16 : decode cX9_quilt 16 = .ok (.iconst (-1), 1) := by decide +kernel
theorem dX9_quilt_17 : decode cX9_quilt 17 = .ok (.ireturn, 1) := by decide +kernel
theorem dX9_quilt_18 : decode cX9_quilt 18 = .ok (.aload_n 0, 1) := by decide +kernel
theorem dX9_quilt_19 : decode cX9_quilt 19 = .ok (.iload_n 1, 1) := by decide +kernel
theorem dX9_quilt_20 : decode cX9_quilt 20 = .ok (.invokevirtual 305, 3) := by decide +kernel
theorem dX9_quilt_23 : decode cX9_quilt 23 = .ok (.ifCond .ne 6, 3) := by decide +kernel
theorem dX9_quilt_26 : decode cX9_quilt 26 = .ok (.bipush (-2), 2) := by decide +kernel
theorem dX9_quilt_28 : decode cX9_quilt 28 = .ok (.ireturn, 1) := by decide +kernel
theorem dX9_quilt_29 : decode cX9_quilt 29 = .ok (.iload_n 2, 1) := by decide +kernel
theorem dX9_quilt_30 : decode cX9_quilt 30 = .ok (.ifCond .ne 13, 3) := by decide +kernel
theorem dX9_quilt_33 : decode cX9_quilt 33 = .ok (.aload_n 0, 1) := by decide +kernel
theorem dX9_quilt_34 : decode cX9_quilt 34 = .ok (.getfield 65, 3) := by decide +kernel
theorem dX9_quilt_37 : decode cX9_quilt 37 = .ok (.getfield 308, 3) := by decide +kernel
theorem dX9_quilt_40 : decode cX9_quilt 40 = .ok (.goto 10, 3) := by decide +kernel
theorem dX9_quilt_43 : decode cX9_quilt 43 = .ok (.aload_n 0, 1) := by decide +kernel
theorem dX9_quilt_44 : decode cX9_quilt 44 = .ok (.getfield 65, 3) := by decide +kernel
theorem dX9_quilt_47 : decode cX9_quilt 47 = .ok (.getfield 311, 3) := by decide +kernel
theorem dX9_quilt_50 : decode cX9_quilt 50 = .ok (.ireturn, 1) := by decide +kernel
theorem dX9_quiltOf_0 : decode cX9_quiltOf 0 = .ok (.iload_n 1, 1) := by decide +kernel
theorem dX9_quiltOf_1 : decode cX9_quiltOf 1 = .ok (.invokestatic 302, 3) := by decide +kernel
theorem dX9_quiltOf_4 : decode cX9_quiltOf 4 = .ok (.ifCond .eq 11, 3) := by decide +kernel
theorem dX9_quiltOf_7 : decode cX9_quiltOf 7 = .ok (.aload_n 0, 1) := by decide +kernel
theorem dX9_quiltOf_8 : decode cX9_quiltOf 8 = .ok (.iload_n 2, 1) := by decide +kernel
theorem dX9_quiltOf_9 : decode cX9_quiltOf 9 = .ok (.invokevirtual 134, 3) := by decide +kernel
theorem dX9_quiltOf_12 : decode cX9_quiltOf 12 = .ok (.ifCond .ne 5, 3) := by decide +kernel
theorem dX9_quiltOf_15 : decode cX9_quiltOf 15 = .ok (.iconst (-1), 1) := by decide +kernel
theorem dX9_quiltOf_16 : decode cX9_quiltOf 16 = .ok (.ireturn, 1) := by decide +kernel
theorem dX9_quiltOf_17 : decode cX9_quiltOf 17 = .ok (.aload_n 0, 1) := by decide +kernel
theorem dX9_quiltOf_18 : decode cX9_quiltOf 18 = .ok (.iload_n 1, 1) := by decide +kernel
theorem dX9_quiltOf_19 : decode cX9_quiltOf 19 = .ok (.invokevirtual 305, 3) := by decide +kernel
theorem dX9_quiltOf_22 : decode cX9_quiltOf 22 = .ok (.ifCond .eq 15, 3) := by decide +kernel
theorem dX9_quiltOf_25 : decode cX9_quiltOf 25 = .ok (.aload_n 0, 1) := by decide +kernel
theorem dX9_quiltOf_26 : decode cX9_quiltOf 26 = .ok (.getfield 65, 3) := by decide +kernel
theorem dX9_quiltOf_29 : decode cX9_quiltOf 29 = .ok (.getfield 313, 3) := by decide +kernel
theorem dX9_quiltOf_32 : decode cX9_quiltOf 32 = .ok (.iload_n 2, 1) := by decide +kernel
theorem dX9_quiltOf_33 : decode cX9_quiltOf 33 = .ok (.iaload, 1) := by decide +kernel
theorem dX9_quiltOf_34 : decode cX9_quiltOf 34 = .ok (.goto 5, 3) := by decide +kernel
theorem dX9_quiltOf_37 : decode cX9_quiltOf 37 = .ok (.bipush (-2), 2) := by decide +kernel
theorem dX9_quiltOf_39 : decode cX9_quiltOf 39 = .ok (.ireturn, 1) := by decide +kernel
theorem dX9_isQuilt_0 : decode cX9_isQuilt 0 = .ok (.iload_n 0, 1) := by decide +kernel
theorem dX9_isQuilt_1 : decode cX9_isQuilt 1 = .ok (.iconst 1, 1) := by decide +kernel
theorem dX9_isQuilt_2 : decode cX9_isQuilt 2 = .ok (.if_icmp .lt 14, 3) := by decide +kernel
theorem dX9_isQuilt_5 : decode cX9_isQuilt 5 = .ok (.iload_n 0, 1) := by decide +kernel
theorem dX9_isQuilt_6 : decode cX9_isQuilt 6 = .ok (.sipush 400, 3) := by decide +kernel
theorem dX9_isQuilt_9 : decode cX9_isQuilt 9 = .ok (.if_icmp .gt 7, 3) := by decide +kernel
theorem dX9_isQuilt_12 : decode cX9_isQuilt 12 = .ok (.iconst 1, 1) := by decide +kernel
theorem dX9_isQuilt_13 : decode cX9_isQuilt 13 = .ok (.goto 4, 3) := by decide +kernel
theorem dX9_isQuilt_16 : decode cX9_isQuilt 16 = .ok (.iconst 0, 1) := by decide +kernel
theorem dX9_isQuilt_17 : decode cX9_isQuilt 17 = .ok (.ireturn, 1) := by decide +kernel
theorem dX9_sew_0 : decode cX9_sew 0 = .ok (.iconst 0, 1) := by decide +kernel
theorem dX9_sew_1 : decode cX9_sew 1 = .ok (.istore_n 2, 1) := by decide +kernel
theorem dX9_sew_2 : decode cX9_sew 2 = .ok (.iload_n 2, 1) := by decide +kernel
theorem dX9_sew_3 : decode cX9_sew 3 = .ok (.aload_n 0, 1) := by decide +kernel
theorem dX9_sew_4 : decode cX9_sew 4 = .ok (.getfield 26, 3) := by decide +kernel
theorem dX9_sew_7 : decode cX9_sew 7 = .ok (.getfield 117, 3) := by decide +kernel
theorem dX9_sew_10 : decode cX9_sew 10 = .ok (.if_icmp .ge 65, 3) := by decide +kernel
theorem dX9_sew_13 : decode cX9_sew 13 = .ok (.aload_n 0, 1) := by decide +kernel
theorem dX9_sew_14 : decode cX9_sew 14 = .ok (.getfield 65, 3) := by decide +kernel
theorem dX9_sew_17 : decode cX9_sew 17 = .ok (.getfield 316, 3) := by decide +kernel
theorem dX9_sew_20 : decode cX9_sew 20 = .ok (.iload_n 2, 1) := by decide +kernel
theorem dX9_sew_21 : decode cX9_sew 21 = .ok (.aload_n 0, 1) := by decide +kernel
theorem dX9_sew_22 : decode cX9_sew 22 = .ok (.getfield 36, 3) := by decide +kernel
theorem dX9_sew_25 : decode cX9_sew 25 = .ok (.iload_n 2, 1) := by decide +kernel
theorem dX9_sew_26 : decode cX9_sew 26 = .ok (.invokevirtual 140, 3) := by decide +kernel
theorem dX9_sew_29 : decode cX9_sew 29 = .ok (.iastore, 1) := by decide +kernel
theorem dX9_sew_30 : decode cX9_sew 30 = .ok (.iconst 0, 1) := by decide +kernel
theorem dX9_sew_31 : decode cX9_sew 31 = .ok (.istore_n 3, 1) := by decide +kernel
theorem dX9_sew_32 : decode cX9_sew 32 = .ok (.iload_n 3, 1) := by decide +kernel
theorem dX9_sew_33 : decode cX9_sew 33 = .ok (.aload_n 0, 1) := by decide +kernel
theorem dX9_sew_34 : decode cX9_sew 34 = .ok (.getfield 26, 3) := by decide +kernel
theorem dX9_sew_37 : decode cX9_sew 37 = .ok (.getfield 131, 3) := by decide +kernel
theorem dX9_sew_40 : decode cX9_sew 40 = .ok (.if_icmp .ge 29, 3) := by decide +kernel
theorem dX9_sew_43 : decode cX9_sew 43 = .ok (.aload_n 0, 1) := by decide +kernel
theorem dX9_sew_44 : decode cX9_sew 44 = .ok (.getfield 65, 3) := by decide +kernel
theorem dX9_sew_47 : decode cX9_sew 47 = .ok (.getfield 319, 3) := by decide +kernel
theorem dX9_sew_50 : decode cX9_sew 50 = .ok (.iload_n 2, 1) := by decide +kernel
theorem dX9_sew_51 : decode cX9_sew 51 = .ok (.bipush 8, 2) := by decide +kernel
theorem dX9_sew_53 : decode cX9_sew 53 = .ok (.imul, 1) := by decide +kernel
theorem dX9_sew_54 : decode cX9_sew 54 = .ok (.iload_n 3, 1) := by decide +kernel
theorem dX9_sew_55 : decode cX9_sew 55 = .ok (.iadd, 1) := by decide +kernel
theorem dX9_sew_56 : decode cX9_sew 56 = .ok (.aload_n 0, 1) := by decide +kernel
theorem dX9_sew_57 : decode cX9_sew 57 = .ok (.iload_n 2, 1) := by decide +kernel
theorem dX9_sew_58 : decode cX9_sew 58 = .ok (.iload_n 3, 1) := by decide +kernel
theorem dX9_sew_59 : decode cX9_sew 59 = .ok (.invokevirtual 177, 3) := by decide +kernel
theorem dX9_sew_62 : decode cX9_sew 62 = .ok (.iastore, 1) := by decide +kernel
theorem dX9_sew_63 : decode cX9_sew 63 = .ok (.iinc 3 1, 3) := by decide +kernel
theorem dX9_sew_66 : decode cX9_sew 66 = .ok (.goto (-34), 3) := by decide +kernel
theorem dX9_sew_69 : decode cX9_sew 69 = .ok (.iinc 2 1, 3) := by decide +kernel
theorem dX9_sew_72 : decode cX9_sew 72 = .ok (.goto (-70), 3) := by decide +kernel
theorem dX9_sew_75 : decode cX9_sew 75 = .ok (.aload_n 0, 1) := by decide +kernel
theorem dX9_sew_76 : decode cX9_sew 76 = .ok (.getfield 65, 3) := by decide +kernel
theorem dX9_sew_79 : decode cX9_sew 79 = .ok (.aload_n 0, 1) := by decide +kernel
theorem dX9_sew_80 : decode cX9_sew 80 = .ok (.getfield 26, 3) := by decide +kernel
theorem dX9_sew_83 : decode cX9_sew 83 = .ok (.iload_n 1, 1) := by decide +kernel
theorem dX9_sew_84 : decode cX9_sew 84 = .ok (.invokevirtual 320, 3) := by decide +kernel
theorem dX9_sew_87 : decode cX9_sew 87 = .ok (.ireturn, 1) := by decide +kernel
theorem dX9_likeAll_0 : decode cX9_likeAll 0 = .ok (.aload_n 0, 1) := by decide +kernel
theorem dX9_likeAll_1 : decode cX9_likeAll 1 = .ok (.getfield 72, 3) := by decide +kernel
theorem dX9_likeAll_4 : decode cX9_likeAll 4 = .ok (.aload_n 0, 1) := by decide +kernel
theorem dX9_likeAll_5 : decode cX9_likeAll 5 = .ok (.getfield 26, 3) := by decide +kernel
theorem dX9_likeAll_8 : decode cX9_likeAll 8 = .ok (.getfield 117, 3) := by decide +kernel
theorem dX9_likeAll_11 : decode cX9_likeAll 11 = .ok (.putfield 323, 3) := by decide +kernel
theorem dX9_likeAll_14 : decode cX9_likeAll 14 = .ok (.iconst 0, 1) := by decide +kernel
theorem dX9_likeAll_15 : decode cX9_likeAll 15 = .ok (.istore_n 1, 1) := by decide +kernel
theorem dX9_likeAll_16 : decode cX9_likeAll 16 = .ok (.iload_n 1, 1) := by decide +kernel
theorem dX9_likeAll_17 : decode cX9_likeAll 17 = .ok (.aload_n 0, 1) := by decide +kernel
theorem dX9_likeAll_18 : decode cX9_likeAll 18 = .ok (.getfield 26, 3) := by decide +kernel
theorem dX9_likeAll_21 : decode cX9_likeAll 21 = .ok (.getfield 117, 3) := by decide +kernel
theorem dX9_likeAll_24 : decode cX9_likeAll 24 = .ok (.if_icmp .ge 22, 3) := by decide +kernel
theorem dX9_likeAll_27 : decode cX9_likeAll 27 = .ok (.aload_n 0, 1) := by decide +kernel
theorem dX9_likeAll_28 : decode cX9_likeAll 28 = .ok (.iload_n 1, 1) := by decide +kernel
theorem dX9_likeAll_29 : decode cX9_likeAll 29 = .ok (.aload_n 0, 1) := by decide +kernel
theorem dX9_likeAll_30 : decode cX9_likeAll 30 = .ok (.getfield 36, 3) := by decide +kernel
theorem dX9_likeAll_33 : decode cX9_likeAll 33 = .ok (.iload_n 1, 1) := by decide +kernel
theorem dX9_likeAll_34 : decode cX9_likeAll 34 = .ok (.invokevirtual 140, 3) := by decide +kernel
theorem dX9_likeAll_37 : decode cX9_likeAll 37 = .ok (.invokevirtual 324, 3) := by decide +kernel
theorem dX9_likeAll_40 : decode cX9_likeAll 40 = .ok (.iinc 1 1, 3) := by decide +kernel
theorem dX9_likeAll_43 : decode cX9_likeAll 43 = .ok (.goto (-27), 3) := by decide +kernel
theorem dX9_likeAll_46 : decode cX9_likeAll 46 = .ok (.return_, 1) := by decide +kernel
theorem dX9_like_0 : decode cX9_like 0 = .ok (.aload_n 0, 1) := by decide +kernel
theorem dX9_like_1 : decode cX9_like 1 = .ok (.getfield 26, 3) := by decide +kernel
theorem dX9_like_4 : decode cX9_like 4 = .ok (.iload_n 2, 1) := by decide +kernel
theorem dX9_like_5 : decode cX9_like 5 = .ok (.aload_n 0, 1) := by decide +kernel
theorem dX9_like_6 : decode cX9_like 6 = .ok (.getfield 36, 3) := by decide +kernel
theorem dX9_like_9 : decode cX9_like 9 = .ok (.iload_n 1, 1) := by decide +kernel
theorem dX9_like_10 : decode cX9_like 10 = .ok (.invokevirtual 144, 3) := by decide +kernel
theorem dX9_like_13 : decode cX9_like 13 = .ok (.aload_n 0, 1) := by decide +kernel
theorem dX9_like_14 : decode cX9_like 14 = .ok (.getfield 36, 3) := by decide +kernel
theorem dX9_like_17 : decode cX9_like 17 = .ok (.getfield 150, 3) := by decide +kernel
theorem dX9_like_20 : decode cX9_like 20 = .ok (.aload_n 0, 1) := by decide +kernel
theorem dX9_like_21 : decode cX9_like 21 = .ok (.getfield 36, 3) := by decide +kernel
theorem dX9_like_24 : decode cX9_like 24 = .ok (.bipush 8, 2) := by decide +kernel
theorem dX9_like_26 : decode cX9_like 26 = .ok (.invokevirtual 140, 3) := by decide +kernel
theorem dX9_like_29 : decode cX9_like 29 = .ok (.iload_n 1, 1) := by decide +kernel
theorem dX9_like_30 : decode cX9_like 30 = .ok (.invokevirtual 184, 3) := by decide +kernel
theorem dX9_like_33 : decode cX9_like 33 = .ok (.aload_n 0, 1) := by decide +kernel
theorem dX9_like_34 : decode cX9_like 34 = .ok (.getfield 72, 3) := by decide +kernel
theorem dX9_like_37 : decode cX9_like 37 = .ok (.getfield 328, 3) := by decide +kernel
theorem dX9_like_40 : decode cX9_like 40 = .ok (.iload_n 1, 1) := by decide +kernel
theorem dX9_like_41 : decode cX9_like 41 = .ok (.iload_n 2, 1) := by decide +kernel
theorem dX9_like_42 : decode cX9_like 42 = .ok (.iastore, 1) := by decide +kernel
theorem dX9_like_43 : decode cX9_like 43 = .ok (.iconst 0, 1) := by decide +kernel
theorem dX9_like_44 : decode cX9_like 44 = .ok (.istore_n 3, 1) := by decide +kernel
theorem dX9_like_45 : decode cX9_like 45 = .ok (.iload_n 3, 1) := by decide +kernel
theorem dX9_like_46 : decode cX9_like 46 = .ok (.aload_n 0, 1) := by decide +kernel
theorem dX9_like_47 : decode cX9_like 47 = .ok (.getfield 26, 3) := by decide +kernel
theorem dX9_like_50 : decode cX9_like 50 = .ok (.getfield 117, 3) := by decide +kernel
theorem dX9_like_53 : decode cX9_like 53 = .ok (.if_icmp .ge 39, 3) := by decide +kernel
theorem dX9_like_56 : decode cX9_like 56 = .ok (.aload_n 0, 1) := by decide +kernel
theorem dX9_like_57 : decode cX9_like 57 = .ok (.getfield 72, 3) := by decide +kernel
theorem dX9_like_60 : decode cX9_like 60 = .ok (.getfield 329, 3) := by decide +kernel
theorem dX9_like_63 : decode cX9_like 63 = .ok (.iload_n 3, 1) := by decide +kernel
theorem dX9_like_64 : decode cX9_like 64 = .ok (.bipush 8, 2) := by decide +kernel
theorem dX9_like_66 : decode cX9_like 66 = .ok (.imul, 1) := by decide +kernel
theorem dX9_like_67 : decode cX9_like 67 = .ok (.iload_n 1, 1) := by decide +kernel
theorem dX9_like_68 : decode cX9_like 68 = .ok (.iadd, 1) := by decide +kernel
theorem dX9_like_69 : decode cX9_like 69 = .ok (.aload_n 0, 1) := by decide +kernel
theorem dX9_like_70 : decode cX9_like 70 = .ok (.getfield 26, 3) := by decide +kernel
theorem dX9_like_73 : decode cX9_like 73 = .ok (.aload_n 0, 1) := by decide +kernel
theorem dX9_like_74 : decode cX9_like 74 = .ok (.getfield 26, 3) := by decide +kernel
theorem dX9_like_77 : decode cX9_like 77 = .ok (.getfield 332, 3) := by decide +kernel
theorem dX9_like_80 : decode cX9_like 80 = .ok (.iload_n 3, 1) := by decide +kernel
theorem dX9_like_81 : decode cX9_like 81 = .ok (.iaload, 1) := by decide +kernel
theorem dX9_like_82 : decode cX9_like 82 = .ok (.invokevirtual 191, 3) := by decide +kernel
theorem dX9_like_85 : decode cX9_like 85 = .ok (.iastore, 1) := by decide +kernel
theorem dX9_like_86 : decode cX9_like 86 = .ok (.iinc 3 1, 3) := by decide +kernel
theorem dX9_like_89 : decode cX9_like 89 = .ok (.goto (-44), 3) := by decide +kernel
theorem dX9_like_92 : decode cX9_like 92 = .ok (.return_, 1) := by decide +kernel
theorem dX9_elected_0 : decode cX9_elected 0 = .ok (.iload_n 1, 1) := by decide +kernel
theorem dX9_elected_1 : decode cX9_elected 1 = .ok (.ifCond .lt 8, 3) := by decide +kernel
theorem dX9_elected_4 : decode cX9_elected 4 = .ok (.iload_n 1, 1) := by decide +kernel
theorem dX9_elected_5 : decode cX9_elected 5 = .ok (.iconst 1, 1) := by decide +kernel
theorem dX9_elected_6 : decode cX9_elected 6 = .ok (.if_icmp .le 5, 3) := by decide +kernel
theorem dX9_elected_9 : decode cX9_elected 9 = .ok (.iconst (-1), 1) := by decide +kernel
theorem dX9_elected_10 : decode cX9_elected 10 = .ok (.ireturn, 1) := by decide +kernel
theorem dX9_elected_11 : decode cX9_elected 11 = .ok (.aload_n 0, 1) := by decide +kernel
theorem dX9_elected_12 : decode cX9_elected 12 = .ok (.getfield 26, 3) := by decide +kernel
theorem dX9_elected_15 : decode cX9_elected 15 = .ok (.getfield 117, 3) := by decide +kernel
theorem dX9_elected_18 : decode cX9_elected 18 = .ok (.ifCond .ne 6, 3) := by decide +kernel
theorem dX9_elected_21 : decode cX9_elected 21 = .ok (.bipush (-2), 2) := by decide +kernel
theorem dX9_elected_23 : decode cX9_elected 23 = .ok (.ireturn, 1) := by decide +kernel
theorem dX9_elected_24 : decode cX9_elected 24 = .ok (.aload_n 0, 1) := by decide +kernel
theorem dX9_elected_25 : decode cX9_elected 25 = .ok (.invokevirtual 163, 3) := by decide +kernel
theorem dX9_elected_28 : decode cX9_elected 28 = .ok (.aload_n 0, 1) := by decide +kernel
theorem dX9_elected_29 : decode cX9_elected 29 = .ok (.getfield 72, 3) := by decide +kernel
theorem dX9_elected_32 : decode cX9_elected 32 = .ok (.invokevirtual 335, 3) := by decide +kernel
theorem dX9_elected_35 : decode cX9_elected 35 = .ok (.istore_n 2, 1) := by decide +kernel
theorem dX9_elected_36 : decode cX9_elected 36 = .ok (.iload_n 1, 1) := by decide +kernel
theorem dX9_elected_37 : decode cX9_elected 37 = .ok (.ifCond .ne 7, 3) := by decide +kernel
theorem dX9_elected_40 : decode cX9_elected 40 = .ok (.iload_n 2, 1) := by decide +kernel
theorem dX9_elected_41 : decode cX9_elected 41 = .ok (.goto 12, 3) := by decide +kernel
theorem dX9_elected_44 : decode cX9_elected 44 = .ok (.aload_n 0, 1) := by decide +kernel
theorem dX9_elected_45 : decode cX9_elected 45 = .ok (.getfield 72, 3) := by decide +kernel
theorem dX9_elected_48 : decode cX9_elected 48 = .ok (.getfield 338, 3) := by decide +kernel
theorem dX9_elected_51 : decode cX9_elected 51 = .ok (.iload_n 2, 1) := by decide +kernel
theorem dX9_elected_52 : decode cX9_elected 52 = .ok (.iaload, 1) := by decide +kernel
theorem dX9_elected_53 : decode cX9_elected 53 = .ok (.ireturn, 1) := by decide +kernel
theorem dX9_bald_0 : decode cX9_bald 0 = .ok (.aload_n 0, 1) := by decide +kernel
theorem dX9_bald_1 : decode cX9_bald 1 = .ok (.iload_n 1, 1) := by decide +kernel
theorem dX9_bald_2 : decode cX9_bald 2 = .ok (.invokevirtual 134, 3) := by decide +kernel
theorem dX9_bald_5 : decode cX9_bald 5 = .ok (.ifCond .ne 5, 3) := by decide +kernel
theorem dX9_bald_8 : decode cX9_bald 8 = .ok (.iconst (-1), 1) := by decide +kernel
theorem dX9_bald_9 : decode cX9_bald 9 = .ok (.ireturn, 1) := by decide +kernel
theorem dX9_bald_10 : decode cX9_bald 10 = .ok (.aload_n 0, 1) := by decide +kernel
theorem dX9_bald_11 : decode cX9_bald 11 = .ok (.invokevirtual 163, 3) := by decide +kernel
theorem dX9_bald_14 : decode cX9_bald 14 = .ok (.aload_n 0, 1) := by decide +kernel
theorem dX9_bald_15 : decode cX9_bald 15 = .ok (.getfield 36, 3) := by decide +kernel
theorem dX9_bald_18 : decode cX9_bald 18 = .ok (.iload_n 1, 1) := by decide +kernel
theorem dX9_bald_19 : decode cX9_bald 19 = .ok (.invokevirtual 140, 3) := by decide +kernel
theorem dX9_bald_22 : decode cX9_bald 22 = .ok (.istore_n 2, 1) := by decide +kernel
theorem dX9_bald_23 : decode cX9_bald 23 = .ok (.iconst 0, 1) := by decide +kernel
theorem dX9_bald_24 : decode cX9_bald 24 = .ok (.istore_n 3, 1) := by decide +kernel
theorem dX9_bald_25 : decode cX9_bald 25 = .ok (.iload_n 3, 1) := by decide +kernel
theorem dX9_bald_26 : decode cX9_bald 26 = .ok (.iload_n 2, 1) := by decide +kernel
theorem dX9_bald_27 : decode cX9_bald 27 = .ok (.if_icmp .gt 30, 3) := by decide +kernel
theorem dX9_bald_30 : decode cX9_bald 30 = .ok (.aload_n 0, 1) := by decide +kernel
theorem dX9_bald_31 : decode cX9_bald 31 = .ok (.iload_n 1, 1) := by decide +kernel
theorem dX9_bald_32 : decode cX9_bald 32 = .ok (.iload_n 2, 1) := by decide +kernel
theorem dX9_bald_33 : decode cX9_bald 33 = .ok (.iload_n 3, 1) := by decide +kernel
theorem dX9_bald_34 : decode cX9_bald 34 = .ok (.isub, 1) := by decide +kernel
theorem dX9_bald_35 : decode cX9_bald 35 = .ok (.invokevirtual 324, 3) := by decide +kernel
theorem dX9_bald_38 : decode cX9_bald 38 = .ok (.aload_n 0, 1) := by decide +kernel
theorem dX9_bald_39 : decode cX9_bald 39 = .ok (.getfield 72, 3) := by decide +kernel
theorem dX9_bald_42 : decode cX9_bald 42 = .ok (.invokevirtual 335, 3) := by decide +kernel
theorem dX9_bald_45 : decode cX9_bald 45 = .ok (.iload_n 1, 1) := by decide +kernel
theorem dX9_bald_46 : decode cX9_bald 46 = .ok (.if_icmp .ne 5, 3) := by decide +kernel
theorem dX9_bald_49 : decode cX9_bald 49 = .ok (.iload_n 3, 1) := by decide +kernel
theorem dX9_bald_50 : decode cX9_bald 50 = .ok (.ireturn, 1) := by decide +kernel
theorem dX9_bald_51 : decode cX9_bald 51 = .ok (.iinc 3 1, 3) := by decide +kernel
theorem dX9_bald_54 : decode cX9_bald 54 = .ok (.goto (-29), 3) := by decide +kernel
theorem dX9_bald_57 : decode cX9_bald 57 = .ok (.bipush (-2), 2) := by decide +kernel
theorem dX9_bald_59 : decode cX9_bald 59 = .ok (.ireturn, 1) := by decide +kernel
theorem dX9_did_0 : decode cX9_did 0 = .ok (.aload_n 0, 1) := by decide +kernel
theorem dX9_did_1 : decode cX9_did 1 = .ok (.iload_n 1, 1) := by decide +kernel
theorem dX9_did_2 : decode cX9_did 2 = .ok (.iload_n 2, 1) := by decide +kernel
theorem dX9_did_3 : decode cX9_did 3 = .ok (.invokevirtual 341, 3) := by decide +kernel
theorem dX9_did_6 : decode cX9_did 6 = .ok (.ifCond .eq 12, 3) := by decide +kernel
theorem dX9_did_9 : decode cX9_did 9 = .ok (.aload_n 0, 1) := by decide +kernel
theorem dX9_did_10 : decode cX9_did 10 = .ok (.iload_n 1, 1) := by decide +kernel
theorem dX9_did_11 : decode cX9_did 11 = .ok (.iload_n 2, 1) := by decide +kernel
theorem dX9_did_12 : decode cX9_did 12 = .ok (.invokevirtual 344, 3) := by decide +kernel
theorem dX9_did_15 : decode cX9_did 15 = .ok (.goto 4, 3) := by decide +kernel
theorem dX9_did_18 : decode cX9_did 18 = .ok (.iconst (-1), 1) := by decide +kernel
theorem dX9_did_19 : decode cX9_did 19 = .ok (.ireturn, 1) := by decide +kernel
theorem dX9_surely_0 : decode cX9_surely 0 = .ok (.aload_n 0, 1) := by decide +kernel
theorem dX9_surely_1 : decode cX9_surely 1 = .ok (.iload_n 1, 1) := by decide +kernel
theorem dX9_surely_2 : decode cX9_surely 2 = .ok (.iload_n 2, 1) := by decide +kernel
theorem dX9_surely_3 : decode cX9_surely 3 = .ok (.invokevirtual 341, 3) := by decide +kernel
theorem dX9_surely_6 : decode cX9_surely 6 = .ok (.ifCond .ne 5, 3) := by decide +kernel
theorem dX9_surely_9 : decode cX9_surely 9 = .ok (.iconst (-1), 1) := by decide +kernel
theorem dX9_surely_10 : decode cX9_surely 10 = .ok (.ireturn, 1) := by decide +kernel
theorem dX9_surely_11 : decode cX9_surely 11 = .ok (.aload_n 0, 1) := by decide +kernel
theorem dX9_surely_12 : decode cX9_surely 12 = .ok (.iload_n 1, 1) := by decide +kernel
theorem dX9_surely_13 : decode cX9_surely 13 = .ok (.iload_n 2, 1) := by decide +kernel
theorem dX9_surely_14 : decode cX9_surely 14 = .ok (.invokevirtual 344, 3) := by decide +kernel
theorem dX9_surely_17 : decode cX9_surely 17 = .ok (.ifCond .ne 7, 3) := by decide +kernel
theorem dX9_surely_20 : decode cX9_surely 20 = .ok (.iconst 0, 1) := by decide +kernel
theorem dX9_surely_21 : decode cX9_surely 21 = .ok (.goto 9, 3) := by decide +kernel
theorem dX9_surely_24 : decode cX9_surely 24 = .ok (.aload_n 0, 1) := by decide +kernel
theorem dX9_surely_25 : decode cX9_surely 25 = .ok (.getfield 80, 3) := by decide +kernel
theorem dX9_surely_28 : decode cX9_surely 28 = .ok (.iconst 0, 1) := by decide +kernel
theorem dX9_surely_29 : decode cX9_surely 29 = .ok (.iaload, 1) := by decide +kernel
theorem dX9_surely_30 : decode cX9_surely 30 = .ok (.ireturn, 1) := by decide +kernel
theorem dX9_isLack_0 : decode cX9_isLack 0 = .ok (.aload_n 0, 1) := by decide +kernel
theorem dX9_isLack_1 : decode cX9_isLack 1 = .ok (.iload_n 1, 1) := by decide +kernel
theorem dX9_isLack_2 : decode cX9_isLack 2 = .ok (.invokevirtual 134, 3) := by decide +kernel
theorem dX9_isLack_5 : decode cX9_isLack 5 = .ok (.ifCond .eq 18, 3) := by decide +kernel
theorem dX9_isLack_8 : decode cX9_isLack 8 = .ok (.iload_n 2, 1) := by decide +kernel
theorem dX9_isLack_9 : decode cX9_isLack 9 = .ok (.ifCond .lt 14, 3) := by decide +kernel
theorem dX9_isLack_12 : decode cX9_isLack 12 = .ok (.iload_n 2, 1) := by decide +kernel
theorem dX9_isLack_13 : decode cX9_isLack 13 = .ok (.sipush 9999, 3) := by decide +kernel
theorem dX9_isLack_16 : decode cX9_isLack 16 = .ok (.if_icmp .gt 7, 3) := by decide +kernel
theorem dX9_isLack_19 : decode cX9_isLack 19 = .ok (.iconst 1, 1) := by decide +kernel
theorem dX9_isLack_20 : decode cX9_isLack 20 = .ok (.goto 4, 3) := by decide +kernel
theorem dX9_isLack_23 : decode cX9_isLack 23 = .ok (.iconst 0, 1) := by decide +kernel
theorem dX9_isLack_24 : decode cX9_isLack 24 = .ok (.ireturn, 1) := by decide +kernel
theorem dX9_countRowsOf_0 : decode cX9_countRowsOf 0 = .ok (.iconst 0, 1) := by decide +kernel
theorem dX9_countRowsOf_1 : decode cX9_countRowsOf 1 = .ok (.istore_n 3, 1) := by decide +kernel
theorem dX9_countRowsOf_2 : decode cX9_countRowsOf 2 = .ok (.iload_n 3, 1) := by decide +kernel
theorem dX9_countRowsOf_3 : decode cX9_countRowsOf 3 = .ok (.aload_n 0, 1) := by decide +kernel
theorem dX9_countRowsOf_4 : decode cX9_countRowsOf 4 = .ok (.getfield 26, 3) := by decide +kernel
theorem dX9_countRowsOf_7 : decode cX9_countRowsOf 7 = .ok (.getfield 131, 3) := by decide +kernel
theorem dX9_countRowsOf_10 : decode cX9_countRowsOf 10 = .ok (.if_icmp .ge 21, 3) := by decide +kernel
theorem dX9_countRowsOf_13 : decode cX9_countRowsOf 13 = .ok (.aload_n 0, 1) := by decide +kernel
theorem dX9_countRowsOf_14 : decode cX9_countRowsOf 14 = .ok (.getfield 76, 3) := by decide +kernel
theorem dX9_countRowsOf_17 : decode cX9_countRowsOf 17 = .ok (.iload_n 3, 1) := by decide +kernel
theorem dX9_countRowsOf_18 : decode cX9_countRowsOf 18 = .ok (.aload_n 0, 1) := by decide +kernel
theorem dX9_countRowsOf_19 : decode cX9_countRowsOf 19 = .ok (.iload_n 1, 1) := by decide +kernel
theorem dX9_countRowsOf_20 : decode cX9_countRowsOf 20 = .ok (.iload_n 3, 1) := by decide +kernel
theorem dX9_countRowsOf_21 : decode cX9_countRowsOf 21 = .ok (.invokevirtual 177, 3) := by decide +kernel
theorem dX9_countRowsOf_24 : decode cX9_countRowsOf 24 = .ok (.iastore, 1) := by decide +kernel
theorem dX9_countRowsOf_25 : decode cX9_countRowsOf 25 = .ok (.iinc 3 1, 3) := by decide +kernel
theorem dX9_countRowsOf_28 : decode cX9_countRowsOf 28 = .ok (.goto (-26), 3) := by decide +kernel
theorem dX9_countRowsOf_31 : decode cX9_countRowsOf 31 = .ok (.aload_n 0, 1) := by decide +kernel
theorem dX9_countRowsOf_32 : decode cX9_countRowsOf 32 = .ok (.getfield 80, 3) := by decide +kernel
theorem dX9_countRowsOf_35 : decode cX9_countRowsOf 35 = .ok (.iconst 0, 1) := by decide +kernel
theorem dX9_countRowsOf_36 : decode cX9_countRowsOf 36 = .ok (.iconst 1, 1) := by decide +kernel
theorem dX9_countRowsOf_37 : decode cX9_countRowsOf 37 = .ok (.aload_n 0, 1) := by decide +kernel
theorem dX9_countRowsOf_38 : decode cX9_countRowsOf 38 = .ok (.getfield 26, 3) := by decide +kernel
theorem dX9_countRowsOf_41 : decode cX9_countRowsOf 41 = .ok (.getfield 131, 3) := by decide +kernel
theorem dX9_countRowsOf_44 : decode cX9_countRowsOf 44 = .ok (.ishl, 1) := by decide +kernel
theorem dX9_countRowsOf_45 : decode cX9_countRowsOf 45 = .ok (.iconst 1, 1) := by decide +kernel
theorem dX9_countRowsOf_46 : decode cX9_countRowsOf 46 = .ok (.isub, 1) := by decide +kernel
theorem dX9_countRowsOf_47 : decode cX9_countRowsOf 47 = .ok (.iastore, 1) := by decide +kernel
theorem dX9_countRowsOf_48 : decode cX9_countRowsOf 48 = .ok (.aload_n 0, 1) := by decide +kernel
theorem dX9_countRowsOf_49 : decode cX9_countRowsOf 49 = .ok (.getfield 76, 3) := by decide +kernel
theorem dX9_countRowsOf_52 : decode cX9_countRowsOf 52 = .ok (.aload_n 0, 1) := by decide +kernel
theorem dX9_countRowsOf_53 : decode cX9_countRowsOf 53 = .ok (.getfield 26, 3) := by decide +kernel
theorem dX9_countRowsOf_56 : decode cX9_countRowsOf 56 = .ok (.getfield 131, 3) := by decide +kernel
theorem dX9_countRowsOf_59 : decode cX9_countRowsOf 59 = .ok (.iconst 0, 1) := by decide +kernel
theorem dX9_countRowsOf_60 : decode cX9_countRowsOf 60 = .ok (.iload_n 2, 1) := by decide +kernel
theorem dX9_countRowsOf_61 : decode cX9_countRowsOf 61 = .ok (.iconst 0, 1) := by decide +kernel
theorem dX9_countRowsOf_62 : decode cX9_countRowsOf 62 = .ok (.aload_n 0, 1) := by decide +kernel
theorem dX9_countRowsOf_63 : decode cX9_countRowsOf 63 = .ok (.getfield 80, 3) := by decide +kernel
theorem dX9_countRowsOf_66 : decode cX9_countRowsOf 66 = .ok (.invokestatic 347, 3) := by decide +kernel
theorem dX9_countRowsOf_69 : decode cX9_countRowsOf 69 = .ok (.ireturn, 1) := by decide +kernel
theorem dX9_countRows_0 : decode cX9_countRows 0 = .ok (.iload_n 2, 1) := by decide +kernel
theorem dX9_countRows_1 : decode cX9_countRows 1 = .ok (.iload_n 1, 1) := by decide +kernel
theorem dX9_countRows_2 : decode cX9_countRows 2 = .ok (.if_icmp .ge 9, 3) := by decide +kernel
theorem dX9_countRows_5 : decode cX9_countRows 5 = .ok (.iload_n 2, 1) := by decide +kernel
theorem dX9_countRows_6 : decode cX9_countRows 6 = .ok (.aload_n 0, 1) := by decide +kernel
theorem dX9_countRows_7 : decode cX9_countRows 7 = .ok (.arraylength, 1) := by decide +kernel
theorem dX9_countRows_8 : decode cX9_countRows 8 = .ok (.if_icmp .lt 20, 3) := by decide +kernel
theorem dX9_countRows_11 : decode cX9_countRows 11 = .ok (.iload_n 3, 1) := by decide +kernel
theorem dX9_countRows_12 : decode cX9_countRows 12 = .ok (.ifCond .eq 5, 3) := by decide +kernel
theorem dX9_countRows_15 : decode cX9_countRows 15 = .ok (.iconst 0, 1) := by decide +kernel
theorem dX9_countRows_16 : decode cX9_countRows 16 = .ok (.ireturn, 1) := by decide +kernel
theorem dX9_countRows_17 : decode cX9_countRows 17 = .ok (.aload 5, 2) := by decide +kernel
theorem dX9_countRows_19 : decode cX9_countRows 19 = .ok (.iconst 0, 1) := by decide +kernel
theorem dX9_countRows_20 : decode cX9_countRows 20 = .ok (.dup2, 1) := by decide +kernel
theorem dX9_countRows_21 : decode cX9_countRows 21 = .ok (.iaload, 1) := by decide +kernel
theorem dX9_countRows_22 : decode cX9_countRows 22 = .ok (.iload 4, 2) := by decide +kernel
theorem dX9_countRows_24 : decode cX9_countRows 24 = .ok (.iand, 1) := by decide +kernel
theorem dX9_countRows_25 : decode cX9_countRows 25 = .ok (.iastore, 1) := by decide +kernel
theorem dX9_countRows_26 : decode cX9_countRows 26 = .ok (.iconst 1, 1) := by decide +kernel
theorem dX9_countRows_27 : decode cX9_countRows 27 = .ok (.ireturn, 1) := by decide +kernel
theorem dX9_countRows_28 : decode cX9_countRows 28 = .ok (.aload_n 0, 1) := by decide +kernel
theorem dX9_countRows_29 : decode cX9_countRows 29 = .ok (.iload_n 1, 1) := by decide +kernel
theorem dX9_countRows_30 : decode cX9_countRows 30 = .ok (.iload_n 2, 1) := by decide +kernel
theorem dX9_countRows_31 : decode cX9_countRows 31 = .ok (.iconst 1, 1) := by decide +kernel
theorem dX9_countRows_32 : decode cX9_countRows 32 = .ok (.iadd, 1) := by decide +kernel
theorem dX9_countRows_33 : decode cX9_countRows 33 = .ok (.iload_n 3, 1) := by decide +kernel
theorem dX9_countRows_34 : decode cX9_countRows 34 = .ok (.iload 4, 2) := by decide +kernel
theorem dX9_countRows_36 : decode cX9_countRows 36 = .ok (.aload 5, 2) := by decide +kernel
theorem dX9_countRows_38 : decode cX9_countRows 38 = .ok (.invokestatic 347, 3) := by decide +kernel
theorem dX9_countRows_41 : decode cX9_countRows 41 = .ok (.istore 6, 2) := by decide +kernel
theorem dX9_countRows_43 : decode cX9_countRows 43 = .ok (.iconst 1, 1) := by decide +kernel
theorem dX9_countRows_44 : decode cX9_countRows 44 = .ok (.istore 7, 2) := by decide +kernel
theorem dX9_countRows_46 : decode cX9_countRows 46 = .ok (.iload 7, 2) := by decide +kernel
theorem dX9_countRows_48 : decode cX9_countRows 48 = .ok (.iconst 3, 1) := by decide +kernel
theorem dX9_countRows_49 : decode cX9_countRows 49 = .ok (.if_icmp .gt 48, 3) := by decide +kernel
theorem dX9_countRows_52 : decode cX9_countRows 52 = .ok (.iload 7, 2) := by decide +kernel
theorem dX9_countRows_54 : decode cX9_countRows 54 = .ok (.aload_n 0, 1) := by decide +kernel
theorem dX9_countRows_55 : decode cX9_countRows 55 = .ok (.iload_n 2, 1) := by decide +kernel
theorem dX9_countRows_56 : decode cX9_countRows 56 = .ok (.iaload, 1) := by decide +kernel
theorem dX9_countRows_57 : decode cX9_countRows 57 = .ok (.imul, 1) := by decide +kernel
theorem dX9_countRows_58 : decode cX9_countRows 58 = .ok (.iload_n 3, 1) := by decide +kernel
theorem dX9_countRows_59 : decode cX9_countRows 59 = .ok (.if_icmp .gt 38, 3) := by decide +kernel
theorem dX9_countRows_62 : decode cX9_countRows 62 = .ok (.iload 6, 2) := by decide +kernel
theorem dX9_countRows_64 : decode cX9_countRows 64 = .ok (.aload_n 0, 1) := by decide +kernel
theorem dX9_countRows_65 : decode cX9_countRows 65 = .ok (.iload_n 1, 1) := by decide +kernel
theorem dX9_countRows_66 : decode cX9_countRows 66 = .ok (.iload_n 2, 1) := by decide +kernel
theorem dX9_countRows_67 : decode cX9_countRows 67 = .ok (.iconst 1, 1) := by decide +kernel
theorem dX9_countRows_68 : decode cX9_countRows 68 = .ok (.iadd, 1) := by decide +kernel
theorem dX9_countRows_69 : decode cX9_countRows 69 = .ok (.iload_n 3, 1) := by decide +kernel
theorem dX9_countRows_70 : decode cX9_countRows 70 = .ok (.iload 7, 2) := by decide +kernel
theorem dX9_countRows_72 : decode cX9_countRows 72 = .ok (.aload_n 0, 1) := by decide +kernel
theorem dX9_countRows_73 : decode cX9_countRows 73 = .ok (.iload_n 2, 1) := by decide +kernel
theorem dX9_countRows_74 : decode cX9_countRows 74 = .ok (.iaload, 1) := by decide +kernel
theorem dX9_countRows_75 : decode cX9_countRows 75 = .ok (.imul, 1) := by decide +kernel
theorem dX9_countRows_76 : decode cX9_countRows 76 = .ok (.isub, 1) := by decide +kernel
theorem dX9_countRows_77 : decode cX9_countRows 77 = .ok (.iload 4, 2) := by decide +kernel
theorem dX9_countRows_79 : decode cX9_countRows 79 = .ok (.iconst 1, 1) := by decide +kernel
theorem dX9_countRows_80 : decode cX9_countRows 80 = .ok (.iload_n 2, 1) := by decide +kernel
theorem dX9_countRows_81 : decode cX9_countRows 81 = .ok (.ishl, 1) := by decide +kernel
theorem dX9_countRows_82 : decode cX9_countRows 82 = .ok (.ior, 1) := by decide +kernel
theorem dX9_countRows_83 : decode cX9_countRows 83 = .ok (.aload 5, 2) := by decide +kernel
theorem dX9_countRows_85 : decode cX9_countRows 85 = .ok (.invokestatic 347, 3) := by decide +kernel
theorem dX9_countRows_88 : decode cX9_countRows 88 = .ok (.iadd, 1) := by decide +kernel
theorem dX9_countRows_89 : decode cX9_countRows 89 = .ok (.istore 6, 2) := by decide +kernel
theorem dX9_countRows_91 : decode cX9_countRows 91 = .ok (.iinc 7 1, 3) := by decide +kernel
theorem dX9_countRows_94 : decode cX9_countRows 94 = .ok (.goto (-48), 3) := by decide +kernel
theorem dX9_countRows_97 : decode cX9_countRows 97 = .ok (.iload 6, 2) := by decide +kernel
theorem dX9_countRows_99 : decode cX9_countRows 99 = .ok (.ireturn, 1) := by decide +kernel
theorem dX9_tell_0 : decode cX9_tell 0 = .ok (.iload_n 1, 1) := by decide +kernel
theorem dX9_tell_1 : decode cX9_tell 1 = .ok (.iconst 1, 1) := by decide +kernel
theorem dX9_tell_2 : decode cX9_tell 2 = .ok (.if_icmp .lt 20, 3) := by decide +kernel
theorem dX9_tell_5 : decode cX9_tell 5 = .ok (.iload_n 1, 1) := by decide +kernel
theorem dX9_tell_6 : decode cX9_tell 6 = .ok (.iconst 1, 1) := by decide +kernel
theorem dX9_tell_7 : decode cX9_tell 7 = .ok (.aload_n 0, 1) := by decide +kernel
theorem dX9_tell_8 : decode cX9_tell 8 = .ok (.getfield 26, 3) := by decide +kernel
theorem dX9_tell_11 : decode cX9_tell 11 = .ok (.getfield 117, 3) := by decide +kernel
theorem dX9_tell_14 : decode cX9_tell 14 = .ok (.ishl, 1) := by decide +kernel
theorem dX9_tell_15 : decode cX9_tell 15 = .ok (.if_icmp .ge 7, 3) := by decide +kernel
theorem dX9_tell_18 : decode cX9_tell 18 = .ok (.iconst 1, 1) := by decide +kernel
theorem dX9_tell_19 : decode cX9_tell 19 = .ok (.goto 4, 3) := by decide +kernel
theorem dX9_tell_22 : decode cX9_tell 22 = .ok (.iconst 0, 1) := by decide +kernel
theorem dX9_tell_23 : decode cX9_tell 23 = .ok (.istore_n 3, 1) := by decide +kernel
theorem dX9_tell_24 : decode cX9_tell 24 = .ok (.iload_n 3, 1) := by decide +kernel
theorem dX9_tell_25 : decode cX9_tell 25 = .ok (.ifCond .eq 26, 3) := by decide +kernel
theorem dX9_tell_28 : decode cX9_tell 28 = .ok (.iload_n 2, 1) := by decide +kernel
theorem dX9_tell_29 : decode cX9_tell 29 = .ok (.ifCond .lt 22, 3) := by decide +kernel
theorem dX9_tell_32 : decode cX9_tell 32 = .ok (.iload_n 2, 1) := by decide +kernel
theorem dX9_tell_33 : decode cX9_tell 33 = .ok (.sipush 9999, 3) := by decide +kernel
theorem dX9_tell_36 : decode cX9_tell 36 = .ok (.if_icmp .gt 15, 3) := by decide +kernel
theorem dX9_tell_39 : decode cX9_tell 39 = .ok (.aload_n 0, 1) := by decide +kernel
theorem dX9_tell_40 : decode cX9_tell 40 = .ok (.getfield 58, 3) := by decide +kernel
theorem dX9_tell_43 : decode cX9_tell 43 = .ok (.getfield 127, 3) := by decide +kernel
theorem dX9_tell_46 : decode cX9_tell 46 = .ok (.bipush 20, 2) := by decide +kernel
theorem dX9_tell_48 : decode cX9_tell 48 = .ok (.if_icmp .lt 5, 3) := by decide +kernel
theorem dX9_tell_51 : decode cX9_tell 51 = .ok (.iconst (-1), 1) := by decide +kernel
theorem dX9_tell_52 : decode cX9_tell 52 = .ok (.ireturn, 1) := by decide +kernel
theorem dX9_tell_53 : decode cX9_tell 53 = .ok (.aload_n 0, 1) := by decide +kernel
theorem dX9_tell_54 : decode cX9_tell 54 = .ok (.getfield 58, 3) := by decide +kernel
theorem dX9_tell_57 : decode cX9_tell 57 = .ok (.getfield 351, 3) := by decide +kernel
theorem dX9_tell_60 : decode cX9_tell 60 = .ok (.aload_n 0, 1) := by decide +kernel
theorem dX9_tell_61 : decode cX9_tell 61 = .ok (.getfield 58, 3) := by decide +kernel
theorem dX9_tell_64 : decode cX9_tell 64 = .ok (.getfield 127, 3) := by decide +kernel
theorem dX9_tell_67 : decode cX9_tell 67 = .ok (.iload_n 1, 1) := by decide +kernel
theorem dX9_tell_68 : decode cX9_tell 68 = .ok (.iastore, 1) := by decide +kernel
theorem dX9_tell_69 : decode cX9_tell 69 = .ok (.aload_n 0, 1) := by decide +kernel
theorem dX9_tell_70 : decode cX9_tell 70 = .ok (.getfield 58, 3) := by decide +kernel
theorem dX9_tell_73 : decode cX9_tell 73 = .ok (.getfield 354, 3) := by decide +kernel
theorem dX9_tell_76 : decode cX9_tell 76 = .ok (.aload_n 0, 1) := by decide +kernel
theorem dX9_tell_77 : decode cX9_tell 77 = .ok (.getfield 58, 3) := by decide +kernel
theorem dX9_tell_80 : decode cX9_tell 80 = .ok (.getfield 127, 3) := by decide +kernel
theorem dX9_tell_83 : decode cX9_tell 83 = .ok (.iload_n 2, 1) := by decide +kernel
theorem dX9_tell_84 : decode cX9_tell 84 = .ok (.iastore, 1) := by decide +kernel
theorem dX9_tell_85 : decode cX9_tell 85 = .ok (.aload_n 0, 1) := by decide +kernel
theorem dX9_tell_86 : decode cX9_tell 86 = .ok (.getfield 58, 3) := by decide +kernel
theorem dX9_tell_89 : decode cX9_tell 89 = .ok (.dup, 1) := by decide +kernel
theorem dX9_tell_90 : decode cX9_tell 90 = .ok (.getfield 127, 3) := by decide +kernel
theorem dX9_tell_93 : decode cX9_tell 93 = .ok (.iconst 1, 1) := by decide +kernel
theorem dX9_tell_94 : decode cX9_tell 94 = .ok (.iadd, 1) := by decide +kernel
theorem dX9_tell_95 : decode cX9_tell 95 = .ok (.putfield 127, 3) := by decide +kernel
theorem dX9_tell_98 : decode cX9_tell 98 = .ok (.aload_n 0, 1) := by decide +kernel
theorem dX9_tell_99 : decode cX9_tell 99 = .ok (.getfield 58, 3) := by decide +kernel
theorem dX9_tell_102 : decode cX9_tell 102 = .ok (.getfield 127, 3) := by decide +kernel
theorem dX9_tell_105 : decode cX9_tell 105 = .ok (.iconst 1, 1) := by decide +kernel
theorem dX9_tell_106 : decode cX9_tell 106 = .ok (.isub, 1) := by decide +kernel
theorem dX9_tell_107 : decode cX9_tell 107 = .ok (.ireturn, 1) := by decide +kernel
theorem dX9_forget_0 : decode cX9_forget 0 = .ok (.aload_n 0, 1) := by decide +kernel
theorem dX9_forget_1 : decode cX9_forget 1 = .ok (.getfield 58, 3) := by decide +kernel
theorem dX9_forget_4 : decode cX9_forget 4 = .ok (.getfield 127, 3) := by decide +kernel
theorem dX9_forget_7 : decode cX9_forget 7 = .ok (.istore_n 1, 1) := by decide +kernel
theorem dX9_forget_8 : decode cX9_forget 8 = .ok (.aload_n 0, 1) := by decide +kernel
theorem dX9_forget_9 : decode cX9_forget 9 = .ok (.getfield 58, 3) := by decide +kernel
theorem dX9_forget_12 : decode cX9_forget 12 = .ok (.iconst 0, 1) := by decide +kernel
theorem dX9_forget_13 : decode cX9_forget 13 = .ok (.putfield 127, 3) := by decide +kernel
theorem dX9_forget_16 : decode cX9_forget 16 = .ok (.iload_n 1, 1) := by decide +kernel
theorem dX9_forget_17 : decode cX9_forget 17 = .ok (.ireturn, 1) := by decide +kernel
theorem dX9_stuffer_0 : decode cX9_stuffer 0 = .ok (.iload_n 1, 1) := by decide +kernel
theorem dX9_stuffer_1 : decode cX9_stuffer 1 = .ok (.iconst 1, 1) := by decide +kernel
theorem dX9_stuffer_2 : decode cX9_stuffer 2 = .ok (.if_icmp .lt 30, 3) := by decide +kernel
theorem dX9_stuffer_5 : decode cX9_stuffer 5 = .ok (.iload_n 1, 1) := by decide +kernel
theorem dX9_stuffer_6 : decode cX9_stuffer 6 = .ok (.sipush 200, 3) := by decide +kernel
theorem dX9_stuffer_9 : decode cX9_stuffer 9 = .ok (.if_icmp .gt 23, 3) := by decide +kernel
theorem dX9_stuffer_12 : decode cX9_stuffer 12 = .ok (.iload_n 2, 1) := by decide +kernel
theorem dX9_stuffer_13 : decode cX9_stuffer 13 = .ok (.ifCond .lt 19, 3) := by decide +kernel
theorem dX9_stuffer_16 : decode cX9_stuffer 16 = .ok (.iload_n 2, 1) := by decide +kernel
theorem dX9_stuffer_17 : decode cX9_stuffer 17 = .ok (.aload_n 0, 1) := by decide +kernel
theorem dX9_stuffer_18 : decode cX9_stuffer 18 = .ok (.getfield 58, 3) := by decide +kernel
theorem dX9_stuffer_21 : decode cX9_stuffer 21 = .ok (.getfield 127, 3) := by decide +kernel
theorem dX9_stuffer_24 : decode cX9_stuffer 24 = .ok (.if_icmp .gt 8, 3) := by decide +kernel
theorem dX9_stuffer_27 : decode cX9_stuffer 27 = .ok (.iload_n 3, 1) := by decide +kernel
theorem dX9_stuffer_28 : decode cX9_stuffer 28 = .ok (.iconst (-1), 1) := by decide +kernel
theorem dX9_stuffer_29 : decode cX9_stuffer 29 = .ok (.if_icmp .ge 5, 3) := by decide +kernel
theorem dX9_stuffer_32 : decode cX9_stuffer 32 = .ok (.iconst (-1), 1) := by decide +kernel
theorem dX9_stuffer_33 : decode cX9_stuffer 33 = .ok (.ireturn, 1) := by decide +kernel
theorem dX9_stuffer_34 : decode cX9_stuffer 34 = .ok (.aload_n 0, 1) := by decide +kernel
theorem dX9_stuffer_35 : decode cX9_stuffer 35 = .ok (.getfield 58, 3) := by decide +kernel
theorem dX9_stuffer_38 : decode cX9_stuffer 38 = .ok (.aload_n 0, 1) := by decide +kernel
theorem dX9_stuffer_39 : decode cX9_stuffer 39 = .ok (.getfield 36, 3) := by decide +kernel
theorem dX9_stuffer_42 : decode cX9_stuffer 42 = .ok (.iload_n 2, 1) := by decide +kernel
theorem dX9_stuffer_43 : decode cX9_stuffer 43 = .ok (.invokevirtual 357, 3) := by decide +kernel
theorem dX9_stuffer_46 : decode cX9_stuffer 46 = .ok (.iconst 0, 1) := by decide +kernel
theorem dX9_stuffer_47 : decode cX9_stuffer 47 = .ok (.istore 4, 2) := by decide +kernel
theorem dX9_stuffer_49 : decode cX9_stuffer 49 = .ok (.iconst 0, 1) := by decide +kernel
theorem dX9_stuffer_50 : decode cX9_stuffer 50 = .ok (.istore 5, 2) := by decide +kernel
theorem dX9_stuffer_52 : decode cX9_stuffer 52 = .ok (.iload 5, 2) := by decide +kernel
theorem dX9_stuffer_54 : decode cX9_stuffer 54 = .ok (.aload_n 0, 1) := by decide +kernel
theorem dX9_stuffer_55 : decode cX9_stuffer 55 = .ok (.getfield 26, 3) := by decide +kernel
theorem dX9_stuffer_58 : decode cX9_stuffer 58 = .ok (.getfield 117, 3) := by decide +kernel
theorem dX9_stuffer_61 : decode cX9_stuffer 61 = .ok (.if_icmp .ge 119, 3) := by decide +kernel
theorem dX9_stuffer_64 : decode cX9_stuffer 64 = .ok (.iload_n 1, 1) := by decide +kernel
theorem dX9_stuffer_65 : decode cX9_stuffer 65 = .ok (.aload_n 0, 1) := by decide +kernel
theorem dX9_stuffer_66 : decode cX9_stuffer 66 = .ok (.getfield 36, 3) := by decide +kernel
theorem dX9_stuffer_69 : decode cX9_stuffer 69 = .ok (.getfield 120, 3) := by decide +kernel
theorem dX9_stuffer_72 : decode cX9_stuffer 72 = .ok (.iload 5, 2) := by decide +kernel
theorem dX9_stuffer_74 : decode cX9_stuffer 74 = .ok (.bipush 8, 2) := by decide +kernel
theorem dX9_stuffer_76 : decode cX9_stuffer 76 = .ok (.imul, 1) := by decide +kernel
theorem dX9_stuffer_77 : decode cX9_stuffer 77 = .ok (.iload 5, 2) := by decide +kernel
theorem dX9_stuffer_79 : decode cX9_stuffer 79 = .ok (.iadd, 1) := by decide +kernel
theorem dX9_stuffer_80 : decode cX9_stuffer 80 = .ok (.iaload, 1) := by decide +kernel
theorem dX9_stuffer_81 : decode cX9_stuffer 81 = .ok (.invokestatic 197, 3) := by decide +kernel
theorem dX9_stuffer_84 : decode cX9_stuffer 84 = .ok (.istore 6, 2) := by decide +kernel
theorem dX9_stuffer_86 : decode cX9_stuffer 86 = .ok (.iconst 0, 1) := by decide +kernel
theorem dX9_stuffer_87 : decode cX9_stuffer 87 = .ok (.istore 7, 2) := by decide +kernel
theorem dX9_stuffer_89 : decode cX9_stuffer 89 = .ok (.iload 7, 2) := by decide +kernel
theorem dX9_stuffer_91 : decode cX9_stuffer 91 = .ok (.aload_n 0, 1) := by decide +kernel
theorem dX9_stuffer_92 : decode cX9_stuffer 92 = .ok (.getfield 26, 3) := by decide +kernel
theorem dX9_stuffer_95 : decode cX9_stuffer 95 = .ok (.getfield 117, 3) := by decide +kernel
theorem dX9_stuffer_98 : decode cX9_stuffer 98 = .ok (.if_icmp .ge 76, 3) := by decide +kernel
theorem dX9_stuffer_101 : decode cX9_stuffer 101 = .ok (.iconst 1, 1) := by decide +kernel
theorem dX9_stuffer_102 : decode cX9_stuffer 102 = .ok (.istore 8, 2) := by decide +kernel
theorem dX9_stuffer_104 : decode cX9_stuffer 104 = .ok (.iload 7, 2) := by decide +kernel
theorem dX9_stuffer_106 : decode cX9_stuffer 106 = .ok (.iload 5, 2) := by decide +kernel
theorem dX9_stuffer_108 : decode cX9_stuffer 108 = .ok (.if_icmp .eq 60, 3) := by decide +kernel
theorem dX9_stuffer_111 : decode cX9_stuffer 111 = .ok (.iload 8, 2) := by decide +kernel
theorem dX9_stuffer_113 : decode cX9_stuffer 113 = .ok (.iload 6, 2) := by decide +kernel
theorem dX9_stuffer_115 : decode cX9_stuffer 115 = .ok (.if_icmp .gt 53, 3) := by decide +kernel
theorem dX9_stuffer_118 : decode cX9_stuffer 118 = .ok (.aload_n 0, 1) := by decide +kernel
theorem dX9_stuffer_119 : decode cX9_stuffer 119 = .ok (.getfield 58, 3) := by decide +kernel
theorem dX9_stuffer_122 : decode cX9_stuffer 122 = .ok (.iload_n 2, 1) := by decide +kernel
theorem dX9_stuffer_123 : decode cX9_stuffer 123 = .ok (.iload 7, 2) := by decide +kernel
theorem dX9_stuffer_125 : decode cX9_stuffer 125 = .ok (.iload 8, 2) := by decide +kernel
theorem dX9_stuffer_127 : decode cX9_stuffer 127 = .ok (.invokevirtual 360, 3) := by decide +kernel
theorem dX9_stuffer_130 : decode cX9_stuffer 130 = .ok (.ifCond .ne 6, 3) := by decide +kernel
theorem dX9_stuffer_133 : decode cX9_stuffer 133 = .ok (.goto 29, 3) := by decide +kernel
theorem dX9_stuffer_136 : decode cX9_stuffer 136 = .ok (.iload 4, 2) := by decide +kernel
theorem dX9_stuffer_138 : decode cX9_stuffer 138 = .ok (.iload_n 3, 1) := by decide +kernel
theorem dX9_stuffer_139 : decode cX9_stuffer 139 = .ok (.if_icmp .ne 20, 3) := by decide +kernel
theorem dX9_stuffer_142 : decode cX9_stuffer 142 = .ok (.sipush 10000, 3) := by decide +kernel
theorem dX9_stuffer_145 : decode cX9_stuffer 145 = .ok (.iload 5, 2) := by decide +kernel
theorem dX9_stuffer_147 : decode cX9_stuffer 147 = .ok (.imul, 1) := by decide +kernel
theorem dX9_stuffer_148 : decode cX9_stuffer 148 = .ok (.sipush 1000, 3) := by decide +kernel
theorem dX9_stuffer_151 : decode cX9_stuffer 151 = .ok (.iload 7, 2) := by decide +kernel
theorem dX9_stuffer_153 : decode cX9_stuffer 153 = .ok (.imul, 1) := by decide +kernel
theorem dX9_stuffer_154 : decode cX9_stuffer 154 = .ok (.iadd, 1) := by decide +kernel
theorem dX9_stuffer_155 : decode cX9_stuffer 155 = .ok (.iload 8, 2) := by decide +kernel
theorem dX9_stuffer_157 : decode cX9_stuffer 157 = .ok (.iadd, 1) := by decide +kernel
theorem dX9_stuffer_158 : decode cX9_stuffer 158 = .ok (.ireturn, 1) := by decide +kernel
theorem dX9_stuffer_159 : decode cX9_stuffer 159 = .ok (.iinc 4 1, 3) := by decide +kernel
theorem dX9_stuffer_162 : decode cX9_stuffer 162 = .ok (.iinc 8 1, 3) := by decide +kernel
theorem dX9_stuffer_165 : decode cX9_stuffer 165 = .ok (.goto (-61), 3) := by decide +kernel
theorem dX9_stuffer_168 : decode cX9_stuffer 168 = .ok (.iinc 7 1, 3) := by decide +kernel
theorem dX9_stuffer_171 : decode cX9_stuffer 171 = .ok (.goto (-82), 3) := by decide +kernel
theorem dX9_stuffer_174 : decode cX9_stuffer 174 = .ok (.iinc 5 1, 3) := by decide +kernel
theorem dX9_stuffer_177 : decode cX9_stuffer 177 = .ok (.goto (-125), 3) := by decide +kernel
theorem dX9_stuffer_180 : decode cX9_stuffer 180 = .ok (.iload_n 3, 1) := by decide +kernel
theorem dX9_stuffer_181 : decode cX9_stuffer 181 = .ok (.iconst (-1), 1) := by decide +kernel
theorem dX9_stuffer_182 : decode cX9_stuffer 182 = .ok (.if_icmp .ne 8, 3) := by decide +kernel
theorem dX9_stuffer_185 : decode cX9_stuffer 185 = .ok (.iload 4, 2) := by decide +kernel
theorem dX9_stuffer_187 : decode cX9_stuffer 187 = .ok (.goto 4, 3) := by decide +kernel
theorem dX9_stuffer_190 : decode cX9_stuffer 190 = .ok (.iconst (-1), 1) := by decide +kernel
theorem dX9_stuffer_191 : decode cX9_stuffer 191 = .ok (.ireturn, 1) := by decide +kernel
theorem dX10_init_0 : decode cX10_init 0 = .ok (.aload_n 0, 1) := by decide +kernel
theorem dX10_init_1 : decode cX10_init 1 = .ok (.invokespecial 7, 3) := by decide +kernel
theorem dX10_init_4 : decode cX10_init 4 = .ok (.aload_n 0, 1) := by decide +kernel
theorem dX10_init_5 : decode cX10_init 5 = .ok (.sipush 2000, 3) := by decide +kernel
theorem dX10_init_8 : decode cX10_init 8 = .ok (.newarray .byte, 2) := by decide +kernel
theorem dX10_init_10 : decode cX10_init 10 = .ok (.putfield 13, 3) := by decide +kernel
theorem dX10_init_13 : decode cX10_init 13 = .ok (.aload_n 0, 1) := by decide +kernel
theorem dX10_init_14 : decode cX10_init 14 = .ok (.sipush 2000, 3) := by decide +kernel
theorem dX10_init_17 : decode cX10_init 17 = .ok (.newarray .byte, 2) := by decide +kernel
theorem dX10_init_19 : decode cX10_init 19 = .ok (.putfield 17, 3) := by decide +kernel
theorem dX10_init_22 : decode cX10_init 22 = .ok (.aload_n 0, 1) := by decide +kernel
theorem dX10_init_23 : decode cX10_init 23 = .ok (.sipush 403, 3) := by decide +kernel
theorem dX10_init_26 : decode cX10_init 26 = .ok (.newarray .int, 2) := by decide +kernel
theorem dX10_init_28 : decode cX10_init 28 = .ok (.putfield 20, 3) := by decide +kernel
theorem dX10_init_31 : decode cX10_init 31 = .ok (.aload_n 0, 1) := by decide +kernel
theorem dX10_init_32 : decode cX10_init 32 = .ok (.sipush 403, 3) := by decide +kernel
theorem dX10_init_35 : decode cX10_init 35 = .ok (.newarray .int, 2) := by decide +kernel
theorem dX10_init_37 : decode cX10_init 37 = .ok (.putfield 24, 3) := by decide +kernel
theorem dX10_init_40 : decode cX10_init 40 = .ok (.aload_n 0, 1) := by decide +kernel
theorem dX10_init_41 : decode cX10_init 41 = .ok (.sipush 403, 3) := by decide +kernel
theorem dX10_init_44 : decode cX10_init 44 = .ok (.newarray .int, 2) := by decide +kernel
theorem dX10_init_46 : decode cX10_init 46 = .ok (.putfield 27, 3) := by decide +kernel
theorem dX10_init_49 : decode cX10_init 49 = .ok (.aload_n 0, 1) := by decide +kernel
theorem dX10_init_50 : decode cX10_init 50 = .ok (.sipush 403, 3) := by decide +kernel
theorem dX10_init_53 : decode cX10_init 53 = .ok (.newarray .long, 2) := by decide +kernel
theorem dX10_init_55 : decode cX10_init 55 = .ok (.putfield 30, 3) := by decide +kernel
theorem dX10_init_58 : decode cX10_init 58 = .ok (.aload_n 0, 1) := by decide +kernel
theorem dX10_init_59 : decode cX10_init 59 = .ok (.bipush 17, 2) := by decide +kernel
theorem dX10_init_61 : decode cX10_init 61 = .ok (.newarray .long, 2) := by decide +kernel
theorem dX10_init_63 : decode cX10_init 63 = .ok (.putfield 34, 3) := by decide +kernel
theorem dX10_init_66 : decode cX10_init 66 = .ok (.aload_n 0, 1) := by decide +kernel
theorem dX10_init_67 : decode cX10_init 67 = .ok (.iconst (-1), 1) := by decide +kernel
theorem dX10_init_68 : decode cX10_init 68 = .ok (.putfield 37, 3) := by decide +kernel
theorem dX10_init_71 : decode cX10_init 71 = .ok (.aload_n 0, 1) := by decide +kernel
theorem dX10_init_72 : decode cX10_init 72 = .ok (.bipush 16, 2) := by decide +kernel
theorem dX10_init_74 : decode cX10_init 74 = .ok (.newarray .long, 2) := by decide +kernel
theorem dX10_init_76 : decode cX10_init 76 = .ok (.putfield 40, 3) := by decide +kernel
theorem dX10_init_79 : decode cX10_init 79 = .ok (.aload_n 0, 1) := by decide +kernel
theorem dX10_init_80 : decode cX10_init 80 = .ok (.bipush 16, 2) := by decide +kernel
theorem dX10_init_82 : decode cX10_init 82 = .ok (.newarray .int, 2) := by decide +kernel
theorem dX10_init_84 : decode cX10_init 84 = .ok (.putfield 43, 3) := by decide +kernel
theorem dX10_init_87 : decode cX10_init 87 = .ok (.aload_n 0, 1) := by decide +kernel
theorem dX10_init_88 : decode cX10_init 88 = .ok (.bipush 16, 2) := by decide +kernel
theorem dX10_init_90 : decode cX10_init 90 = .ok (.newarray .int, 2) := by decide +kernel
theorem dX10_init_92 : decode cX10_init 92 = .ok (.putfield 46, 3) := by decide +kernel
theorem dX10_init_95 : decode cX10_init 95 = .ok (.aload_n 0, 1) := by decide +kernel
theorem dX10_init_96 : decode cX10_init 96 = .ok (.iconst 2, 1) := by decide +kernel
theorem dX10_init_97 : decode cX10_init 97 = .ok (.newarray .int, 2) := by decide +kernel
theorem dX10_init_99 : decode cX10_init 99 = .ok (.putfield 49, 3) := by decide +kernel
theorem dX10_init_102 : decode cX10_init 102 = .ok (.aload_n 0, 1) := by decide +kernel
theorem dX10_init_103 : decode cX10_init 103 = .ok (.bipush 16, 2) := by decide +kernel
theorem dX10_init_105 : decode cX10_init 105 = .ok (.newarray .int, 2) := by decide +kernel
theorem dX10_init_107 : decode cX10_init 107 = .ok (.putfield 52, 3) := by decide +kernel
theorem dX10_init_110 : decode cX10_init 110 = .ok (.aload_n 0, 1) := by decide +kernel
theorem dX10_init_111 : decode cX10_init 111 = .ok (.iconst 2, 1) := by decide +kernel
theorem dX10_init_112 : decode cX10_init 112 = .ok (.newarray .int, 2) := by decide +kernel
theorem dX10_init_114 : decode cX10_init 114 = .ok (.putfield 55, 3) := by decide +kernel
theorem dX10_init_117 : decode cX10_init 117 = .ok (.aload_n 0, 1) := by decide +kernel
theorem dX10_init_118 : decode cX10_init 118 = .ok (.bipush 16, 2) := by decide +kernel
theorem dX10_init_120 : decode cX10_init 120 = .ok (.newarray .int, 2) := by decide +kernel
theorem dX10_init_122 : decode cX10_init 122 = .ok (.putfield 58, 3) := by decide +kernel
theorem dX10_init_125 : decode cX10_init 125 = .ok (.aload_n 0, 1) := by decide +kernel
theorem dX10_init_126 : decode cX10_init 126 = .ok (.iconst 2, 1) := by decide +kernel
theorem dX10_init_127 : decode cX10_init 127 = .ok (.newarray .int, 2) := by decide +kernel
theorem dX10_init_129 : decode cX10_init 129 = .ok (.putfield 61, 3) := by decide +kernel
theorem dX10_init_132 : decode cX10_init 132 = .ok (.aload_n 0, 1) := by decide +kernel
theorem dX10_init_133 : decode cX10_init 133 = .ok (.bipush 24, 2) := by decide +kernel
theorem dX10_init_135 : decode cX10_init 135 = .ok (.newarray .int, 2) := by decide +kernel
theorem dX10_init_137 : decode cX10_init 137 = .ok (.putfield 64, 3) := by decide +kernel
theorem dX10_init_140 : decode cX10_init 140 = .ok (.aload_n 0, 1) := by decide +kernel
theorem dX10_init_141 : decode cX10_init 141 = .ok (.iconst 2, 1) := by decide +kernel
theorem dX10_init_142 : decode cX10_init 142 = .ok (.newarray .int, 2) := by decide +kernel
theorem dX10_init_144 : decode cX10_init 144 = .ok (.putfield 67, 3) := by decide +kernel
theorem dX10_init_147 : decode cX10_init 147 = .ok (.aload_n 0, 1) := by decide +kernel
theorem dX10_init_148 : decode cX10_init 148 = .ok (.bipush 40, 2) := by decide +kernel
theorem dX10_init_150 : decode cX10_init 150 = .ok (.newarray .int, 2) := by decide +kernel
theorem dX10_init_152 : decode cX10_init 152 = .ok (.putfield 70, 3) := by decide +kernel
theorem dX10_init_155 : decode cX10_init 155 = .ok (.aload_n 0, 1) := by decide +kernel
theorem dX10_init_156 : decode cX10_init 156 = .ok (.bipush 40, 2) := by decide +kernel
theorem dX10_init_158 : decode cX10_init 158 = .ok (.newarray .int, 2) := by decide +kernel
theorem dX10_init_160 : decode cX10_init 160 = .ok (.putfield 73, 3) := by decide +kernel
theorem dX10_init_163 : decode cX10_init 163 = .ok (.aload_n 0, 1) := by decide +kernel
theorem dX10_init_164 : decode cX10_init 164 = .ok (.sipush 260, 3) := by decide +kernel
theorem dX10_init_167 : decode cX10_init 167 = .ok (.newarray .boolean, 2) := by decide +kernel
theorem dX10_init_169 : decode cX10_init 169 = .ok (.putfield 76, 3) := by decide +kernel
theorem dX10_init_172 : decode cX10_init 172 = .ok (.aload_n 0, 1) := by decide +kernel
theorem dX10_init_173 : decode cX10_init 173 = .ok (.sipush 260, 3) := by decide +kernel
theorem dX10_init_176 : decode cX10_init 176 = .ok (.newarray .int, 2) := by decide +kernel
theorem dX10_init_178 : decode cX10_init 178 = .ok (.putfield 80, 3) := by decide +kernel
theorem dX10_init_181 : decode cX10_init 181 = .ok (.aload_n 0, 1) := by decide +kernel
theorem dX10_init_182 : decode cX10_init 182 = .ok (.sipush 260, 3) := by decide +kernel
theorem dX10_init_185 : decode cX10_init 185 = .ok (.newarray .int, 2) := by decide +kernel
theorem dX10_init_187 : decode cX10_init 187 = .ok (.putfield 83, 3) := by decide +kernel
theorem dX10_init_190 : decode cX10_init 190 = .ok (.aload_n 0, 1) := by decide +kernel
theorem dX10_init_191 : decode cX10_init 191 = .ok (.sipush 260, 3) := by decide +kernel
theorem dX10_init_194 : decode cX10_init 194 = .ok (.newarray .int, 2) := by decide +kernel
theorem dX10_init_196 : decode cX10_init 196 = .ok (.putfield 86, 3) := by decide +kernel
theorem dX10_init_199 : decode cX10_init 199 = .ok (.aload_n 0, 1) := by decide +kernel
theorem dX10_init_200 : decode cX10_init 200 = .ok (.sipush 260, 3) := by decide +kernel
theorem dX10_init_203 : decode cX10_init 203 = .ok (.newarray .int, 2) := by decide +kernel
theorem dX10_init_205 : decode cX10_init 205 = .ok (.putfield 89, 3) := by decide +kernel
theorem dX10_init_208 : decode cX10_init 208 = .ok (.aload_n 0, 1) := by decide +kernel
theorem dX10_init_209 : decode cX10_init 209 = .ok (.sipush 840, 3) := by decide +kernel
theorem dX10_init_212 : decode cX10_init 212 = .ok (.newarray .int, 2) := by decide +kernel
theorem dX10_init_214 : decode cX10_init 214 = .ok (.putfield 92, 3) := by decide +kernel
theorem dX10_init_217 : decode cX10_init 217 = .ok (.aload_n 0, 1) := by decide +kernel
theorem dX10_init_218 : decode cX10_init 218 = .ok (.sipush 840, 3) := by decide +kernel
theorem dX10_init_221 : decode cX10_init 221 = .ok (.newarray .int, 2) := by decide +kernel
theorem dX10_init_223 : decode cX10_init 223 = .ok (.putfield 95, 3) := by decide +kernel
theorem dX10_init_226 : decode cX10_init 226 = .ok (.aload_n 0, 1) := by decide +kernel
theorem dX10_init_227 : decode cX10_init 227 = .ok (.bipush 64, 2) := by decide +kernel
theorem dX10_init_229 : decode cX10_init 229 = .ok (.newarray .int, 2) := by decide +kernel
theorem dX10_init_231 : decode cX10_init 231 = .ok (.putfield 98, 3) := by decide +kernel
theorem dX10_init_234 : decode cX10_init 234 = .ok (.aload_n 0, 1) := by decide +kernel
theorem dX10_init_235 : decode cX10_init 235 = .ok (.bipush 6, 2) := by decide +kernel
theorem dX10_init_237 : decode cX10_init 237 = .ok (.newarray .int, 2) := by decide +kernel
theorem dX10_init_239 : decode cX10_init 239 = .ok (.putfield 101, 3) := by decide +kernel
theorem dX10_init_242 : decode cX10_init 242 = .ok (.aload_n 0, 1) := by decide +kernel
theorem dX10_init_243 : decode cX10_init 243 = .ok (.sipush 400, 3) := by decide +kernel
theorem dX10_init_246 : decode cX10_init 246 = .ok (.newarray .int, 2) := by decide +kernel
theorem dX10_init_248 : decode cX10_init 248 = .ok (.putfield 104, 3) := by decide +kernel
theorem dX10_init_251 : decode cX10_init 251 = .ok (.aload_n 0, 1) := by decide +kernel
theorem dX10_init_252 : decode cX10_init 252 = .ok (.sipush 1720, 3) := by decide +kernel
theorem dX10_init_255 : decode cX10_init 255 = .ok (.newarray .int, 2) := by decide +kernel
theorem dX10_init_257 : decode cX10_init 257 = .ok (.putfield 107, 3) := by decide +kernel
theorem dX10_init_260 : decode cX10_init 260 = .ok (.aload_n 0, 1) := by decide +kernel
theorem dX10_init_261 : decode cX10_init 261 = .ok (.sipush 1720, 3) := by decide +kernel
theorem dX10_init_264 : decode cX10_init 264 = .ok (.newarray .int, 2) := by decide +kernel
theorem dX10_init_266 : decode cX10_init 266 = .ok (.putfield 110, 3) := by decide +kernel
theorem dX10_init_269 : decode cX10_init 269 = .ok (.aload_n 0, 1) := by decide +kernel
theorem dX10_init_270 : decode cX10_init 270 = .ok (.bipush 8, 2) := by decide +kernel
theorem dX10_init_272 : decode cX10_init 272 = .ok (.newarray .int, 2) := by decide +kernel
theorem dX10_init_274 : decode cX10_init 274 = .ok (.putfield 113, 3) := by decide +kernel
theorem dX10_init_277 : decode cX10_init 277 = .ok (.aload_n 0, 1) := by decide +kernel
theorem dX10_init_278 : decode cX10_init 278 = .ok (.bipush 8, 2) := by decide +kernel
theorem dX10_init_280 : decode cX10_init 280 = .ok (.newarray .int, 2) := by decide +kernel
theorem dX10_init_282 : decode cX10_init 282 = .ok (.putfield 116, 3) := by decide +kernel
theorem dX10_init_285 : decode cX10_init 285 = .ok (.aload_n 0, 1) := by decide +kernel
theorem dX10_init_286 : decode cX10_init 286 = .ok (.ldc 119, 2) := by decide +kernel
theorem dX10_init_288 : decode cX10_init 288 = .ok (.newarray .int, 2) := by decide +kernel
theorem dX10_init_290 : decode cX10_init 290 = .ok (.putfield 120, 3) := by decide +kernel
theorem dX10_init_293 : decode cX10_init 293 = .ok (.aload_n 0, 1) := by decide +kernel
theorem dX10_init_294 : decode cX10_init 294 = .ok (.sipush 256, 3) := by decide +kernel
theorem dX10_init_297 : decode cX10_init 297 = .ok (.newarray .int, 2) := by decide +kernel
theorem dX10_init_299 : decode cX10_init 299 = .ok (.putfield 123, 3) := by decide +kernel
theorem dX10_init_302 : decode cX10_init 302 = .ok (.aload_n 0, 1) := by decide +kernel
theorem dX10_init_303 : decode cX10_init 303 = .ok (.sipush 256, 3) := by decide +kernel
theorem dX10_init_306 : decode cX10_init 306 = .ok (.newarray .int, 2) := by decide +kernel
theorem dX10_init_308 : decode cX10_init 308 = .ok (.putfield 126, 3) := by decide +kernel
theorem dX10_init_311 : decode cX10_init 311 = .ok (.aload_n 0, 1) := by decide +kernel
theorem dX10_init_312 : decode cX10_init 312 = .ok (.sipush 3609, 3) := by decide +kernel
theorem dX10_init_315 : decode cX10_init 315 = .ok (.newarray .int, 2) := by decide +kernel
theorem dX10_init_317 : decode cX10_init 317 = .ok (.putfield 129, 3) := by decide +kernel
theorem dX10_init_320 : decode cX10_init 320 = .ok (.aload_n 0, 1) := by decide +kernel
theorem dX10_init_321 : decode cX10_init 321 = .ok (.sipush 2048, 3) := by decide +kernel
theorem dX10_init_324 : decode cX10_init 324 = .ok (.newarray .int, 2) := by decide +kernel
theorem dX10_init_326 : decode cX10_init 326 = .ok (.putfield 132, 3) := by decide +kernel
theorem dX10_init_329 : decode cX10_init 329 = .ok (.aload_n 0, 1) := by decide +kernel
theorem dX10_init_330 : decode cX10_init 330 = .ok (.sipush 256, 3) := by decide +kernel
theorem dX10_init_333 : decode cX10_init 333 = .ok (.newarray .int, 2) := by decide +kernel
theorem dX10_init_335 : decode cX10_init 335 = .ok (.putfield 135, 3) := by decide +kernel
theorem dX10_init_338 : decode cX10_init 338 = .ok (.aload_n 0, 1) := by decide +kernel
theorem dX10_init_339 : decode cX10_init 339 = .ok (.bipush 8, 2) := by decide +kernel
theorem dX10_init_341 : decode cX10_init 341 = .ok (.newarray .int, 2) := by decide +kernel
theorem dX10_init_343 : decode cX10_init 343 = .ok (.putfield 138, 3) := by decide +kernel
theorem dX10_init_346 : decode cX10_init 346 = .ok (.aload_n 0, 1) := by decide +kernel
theorem dX10_init_347 : decode cX10_init 347 = .ok (.bipush 8, 2) := by decide +kernel
theorem dX10_init_349 : decode cX10_init 349 = .ok (.newarray .int, 2) := by decide +kernel
theorem dX10_init_351 : decode cX10_init 351 = .ok (.putfield 141, 3) := by decide +kernel
theorem dX10_init_354 : decode cX10_init 354 = .ok (.aload_n 0, 1) := by decide +kernel
theorem dX10_init_355 : decode cX10_init 355 = .ok (.bipush 20, 2) := by decide +kernel
theorem dX10_init_357 : decode cX10_init 357 = .ok (.newarray .int, 2) := by decide +kernel
theorem dX10_init_359 : decode cX10_init 359 = .ok (.putfield 144, 3) := by decide +kernel
theorem dX10_init_362 : decode cX10_init 362 = .ok (.aload_n 0, 1) := by decide +kernel
theorem dX10_init_363 : decode cX10_init 363 = .ok (.bipush 20, 2) := by decide +kernel
theorem dX10_init_365 : decode cX10_init 365 = .ok (.newarray .int, 2) := by decide +kernel
theorem dX10_init_367 : decode cX10_init 367 = .ok (.putfield 147, 3) := by decide +kernel
theorem dX10_init_370 : decode cX10_init 370 = .ok (.aload_n 0, 1) := by decide +kernel
theorem dX10_init_371 : decode cX10_init 371 = .ok (.iconst 3, 1) := by decide +kernel
theorem dX10_init_372 : decode cX10_init 372 = .ok (.newarray .boolean, 2) := by decide +kernel
theorem dX10_init_374 : decode cX10_init 374 = .ok (.putfield 150, 3) := by decide +kernel
theorem dX10_init_377 : decode cX10_init 377 = .ok (.aload_n 0, 1) := by decide +kernel
theorem dX10_init_378 : decode cX10_init 378 = .ok (.sipush 5160, 3) := by decide +kernel
theorem dX10_init_381 : decode cX10_init 381 = .ok (.newarray .int, 2) := by decide +kernel
theorem dX10_init_383 : decode cX10_init 383 = .ok (.putfield 153, 3) := by decide +kernel
theorem dX10_init_386 : decode cX10_init 386 = .ok (.aload_n 0, 1) := by decide +kernel
theorem dX10_init_387 : decode cX10_init 387 = .ok (.getfield 34, 3) := by decide +kernel
theorem dX10_init_390 : decode cX10_init 390 = .ok (.iconst 0, 1) := by decide +kernel
theorem dX10_init_391 : decode cX10_init 391 = .ok (.bipush 109, 2) := by decide +kernel
theorem dX10_init_393 : decode cX10_init 393 = .ok (.bipush 97, 2) := by decide +kernel
theorem dX10_init_395 : decode cX10_init 395 = .ok (.bipush 110, 2) := by decide +kernel
theorem dX10_init_397 : decode cX10_init 397 = .ok (.iconst 0, 1) := by decide +kernel
theorem dX10_init_398 : decode cX10_init 398 = .ok (.iconst 0, 1) := by decide +kernel
theorem dX10_init_399 : decode cX10_init 399 = .ok (.iconst 0, 1) := by decide +kernel
theorem dX10_init_400 : decode cX10_init 400 = .ok (.iconst 0, 1) := by decide +kernel
theorem dX10_init_401 : decode cX10_init 401 = .ok (.invokestatic 156, 3) := by decide +kernel
theorem dX10_init_404 : decode cX10_init 404 = .ok (.lastore, 1) := by decide +kernel
theorem dX10_init_405 : decode cX10_init 405 = .ok (.aload_n 0, 1) := by decide +kernel
theorem dX10_init_406 : decode cX10_init 406 = .ok (.getfield 34, 3) := by decide +kernel
theorem dX10_init_409 : decode cX10_init 409 = .ok (.iconst 1, 1) := by decide +kernel
theorem dX10_init_410 : decode cX10_init 410 = .ok (.bipush 100, 2) := by decide +kernel
theorem dX10_init_412 : decode cX10_init 412 = .ok (.bipush 101, 2) := by decide +kernel
theorem dX10_init_414 : decode cX10_init 414 = .ok (.bipush 101, 2) := by decide +kernel
theorem dX10_init_416 : decode cX10_init 416 = .ok (.bipush 100, 2) := by decide +kernel
theorem dX10_init_418 : decode cX10_init 418 = .ok (.iconst 0, 1) := by decide +kernel
theorem dX10_init_419 : decode cX10_init 419 = .ok (.iconst 0, 1) := by decide +kernel
theorem dX10_init_420 : decode cX10_init 420 = .ok (.iconst 0, 1) := by decide +kernel
theorem dX10_init_421 : decode cX10_init 421 = .ok (.invokestatic 156, 3) := by decide +kernel
theorem dX10_init_424 : decode cX10_init 424 = .ok (.lastore, 1) := by decide +kernel
theorem dX10_init_425 : decode cX10_init 425 = .ok (.aload_n 0, 1) := by decide +kernel
theorem dX10_init_426 : decode cX10_init 426 = .ok (.getfield 34, 3) := by decide +kernel
theorem dX10_init_429 : decode cX10_init 429 = .ok (.iconst 2, 1) := by decide +kernel
theorem dX10_init_430 : decode cX10_init 430 = .ok (.bipush 102, 2) := by decide +kernel
theorem dX10_init_432 : decode cX10_init 432 = .ok (.bipush 105, 2) := by decide +kernel
theorem dX10_init_434 : decode cX10_init 434 = .ok (.bipush 110, 2) := by decide +kernel
theorem dX10_init_436 : decode cX10_init 436 = .ok (.bipush 101, 2) := by decide +kernel
theorem dX10_init_438 : decode cX10_init 438 = .ok (.iconst 0, 1) := by decide +kernel
theorem dX10_init_439 : decode cX10_init 439 = .ok (.iconst 0, 1) := by decide +kernel
theorem dX10_init_440 : decode cX10_init 440 = .ok (.iconst 0, 1) := by decide +kernel
theorem dX10_init_441 : decode cX10_init 441 = .ok (.invokestatic 156, 3) := by decide +kernel
theorem dX10_init_444 : decode cX10_init 444 = .ok (.lastore, 1) := by decide +kernel
theorem dX10_init_445 : decode cX10_init 445 = .ok (.aload_n 0, 1) := by decide +kernel
theorem dX10_init_446 : decode cX10_init 446 = .ok (.getfield 34, 3) := by decide +kernel
theorem dX10_init_449 : decode cX10_init 449 = .ok (.iconst 3, 1) := by decide +kernel
theorem dX10_init_450 : decode cX10_init 450 = .ok (.bipush 103, 2) := by decide +kernel
theorem dX10_init_452 : decode cX10_init 452 = .ok (.bipush 114, 2) := by decide +kernel
theorem dX10_init_454 : decode cX10_init 454 = .ok (.bipush 111, 2) := by decide +kernel
theorem dX10_init_456 : decode cX10_init 456 = .ok (.bipush 119, 2) := by decide +kernel
theorem dX10_init_458 : decode cX10_init 458 = .ok (.iconst 0, 1) := by decide +kernel
theorem dX10_init_459 : decode cX10_init 459 = .ok (.iconst 0, 1) := by decide +kernel
theorem dX10_init_460 : decode cX10_init 460 = .ok (.iconst 0, 1) := by decide +kernel
theorem dX10_init_461 : decode cX10_init 461 = .ok (.invokestatic 156, 3) := by decide +kernel
theorem dX10_init_464 : decode cX10_init 464 = .ok (.lastore, 1) := by decide +kernel
theorem dX10_init_465 : decode cX10_init 465 = .ok (.aload_n 0, 1) := by decide +kernel
theorem dX10_init_466 : decode cX10_init 466 = .ok (.getfield 34, 3) := by decide +kernel
theorem dX10_init_469 : decode cX10_init 469 = .ok (.iconst 4, 1) := by decide +kernel
theorem dX10_init_470 : decode cX10_init 470 = .ok (.bipush 119, 2) := by decide +kernel
theorem dX10_init_472 : decode cX10_init 472 = .ok (.bipush 97, 2) := by decide +kernel
theorem dX10_init_474 : decode cX10_init 474 = .ok (.bipush 114, 2) := by decide +kernel
theorem dX10_init_476 : decode cX10_init 476 = .ok (.bipush 109, 2) := by decide +kernel
theorem dX10_init_478 : decode cX10_init 478 = .ok (.iconst 0, 1) := by decide +kernel
theorem dX10_init_479 : decode cX10_init 479 = .ok (.iconst 0, 1) := by decide +kernel
theorem dX10_init_480 : decode cX10_init 480 = .ok (.iconst 0, 1) := by decide +kernel
theorem dX10_init_481 : decode cX10_init 481 = .ok (.invokestatic 156, 3) := by decide +kernel
theorem dX10_init_484 : decode cX10_init 484 = .ok (.lastore, 1) := by decide +kernel
theorem dX10_init_485 : decode cX10_init 485 = .ok (.aload_n 0, 1) := by decide +kernel
theorem dX10_init_486 : decode cX10_init 486 = .ok (.getfield 34, 3) := by decide +kernel
theorem dX10_init_489 : decode cX10_init 489 = .ok (.iconst 5, 1) := by decide +kernel
theorem dX10_init_490 : decode cX10_init 490 = .ok (.bipush 118, 2) := by decide +kernel
theorem dX10_init_492 : decode cX10_init 492 = .ok (.bipush 111, 2) := by decide +kernel
theorem dX10_init_494 : decode cX10_init 494 = .ok (.bipush 116, 2) := by decide +kernel
theorem dX10_init_496 : decode cX10_init 496 = .ok (.bipush 101, 2) := by decide +kernel
theorem dX10_init_498 : decode cX10_init 498 = .ok (.iconst 0, 1) := by decide +kernel
theorem dX10_init_499 : decode cX10_init 499 = .ok (.iconst 0, 1) := by decide +kernel
theorem dX10_init_500 : decode cX10_init 500 = .ok (.iconst 0, 1) := by decide +kernel
theorem dX10_init_501 : decode cX10_init 501 = .ok (.invokestatic 156, 3) := by decide +kernel
theorem dX10_init_504 : decode cX10_init 504 = .ok (.lastore, 1) := by decide +kernel
theorem dX10_init_505 : decode cX10_init 505 = .ok (.aload_n 0, 1) := by decide +kernel
theorem dX10_init_506 : decode cX10_init 506 = .ok (.getfield 34, 3) := by decide +kernel
theorem dX10_init_509 : decode cX10_init 509 = .ok (.bipush 6, 2) := by decide +kernel
theorem dX10_init_511 : decode cX10_init 511 = .ok (.bipush 99, 2) := by decide +kernel
theorem dX10_init_513 : decode cX10_init 513 = .ok (.bipush 111, 2) := by decide +kernel
theorem dX10_init_515 : decode cX10_init 515 = .ok (.bipush 108, 2) := by decide +kernel
theorem dX10_init_517 : decode cX10_init 517 = .ok (.bipush 100, 2) := by decide +kernel
theorem dX10_init_519 : decode cX10_init 519 = .ok (.iconst 0, 1) := by decide +kernel
theorem dX10_init_520 : decode cX10_init 520 = .ok (.iconst 0, 1) := by decide +kernel
theorem dX10_init_521 : decode cX10_init 521 = .ok (.iconst 0, 1) := by decide +kernel
theorem dX10_init_522 : decode cX10_init 522 = .ok (.invokestatic 156, 3) := by decide +kernel
theorem dX10_init_525 : decode cX10_init 525 = .ok (.lastore, 1) := by decide +kernel
theorem dX10_init_526 : decode cX10_init 526 = .ok (.aload_n 0, 1) := by decide +kernel
theorem dX10_init_527 : decode cX10_init 527 = .ok (.getfield 34, 3) := by decide +kernel
theorem dX10_init_530 : decode cX10_init 530 = .ok (.bipush 7, 2) := by decide +kernel
theorem dX10_init_532 : decode cX10_init 532 = .ok (.bipush 109, 2) := by decide +kernel
theorem dX10_init_534 : decode cX10_init 534 = .ok (.bipush 111, 2) := by decide +kernel
theorem dX10_init_536 : decode cX10_init 536 = .ok (.bipush 117, 2) := by decide +kernel
theorem dX10_init_538 : decode cX10_init 538 = .ok (.bipush 108, 2) := by decide +kernel
theorem dX10_init_540 : decode cX10_init 540 = .ok (.bipush 116, 2) := by decide +kernel
theorem dX10_init_542 : decode cX10_init 542 = .ok (.iconst 0, 1) := by decide +kernel
theorem dX10_init_543 : decode cX10_init 543 = .ok (.iconst 0, 1) := by decide +kernel
theorem dX10_init_544 : decode cX10_init 544 = .ok (.invokestatic 156, 3) := by decide +kernel
theorem dX10_init_547 : decode cX10_init 547 = .ok (.lastore, 1) := by decide +kernel
theorem dX10_init_548 : decode cX10_init 548 = .ok (.aload_n 0, 1) := by decide +kernel
theorem dX10_init_549 : decode cX10_init 549 = .ok (.getfield 34, 3) := by decide +kernel
theorem dX10_init_552 : decode cX10_init 552 = .ok (.bipush 8, 2) := by decide +kernel
theorem dX10_init_554 : decode cX10_init 554 = .ok (.bipush 105, 2) := by decide +kernel
theorem dX10_init_556 : decode cX10_init 556 = .ok (.bipush 102, 2) := by decide +kernel
theorem dX10_init_558 : decode cX10_init 558 = .ok (.iconst 0, 1) := by decide +kernel
theorem dX10_init_559 : decode cX10_init 559 = .ok (.iconst 0, 1) := by decide +kernel
theorem dX10_init_560 : decode cX10_init 560 = .ok (.iconst 0, 1) := by decide +kernel
theorem dX10_init_561 : decode cX10_init 561 = .ok (.iconst 0, 1) := by decide +kernel
theorem dX10_init_562 : decode cX10_init 562 = .ok (.iconst 0, 1) := by decide +kernel
theorem dX10_init_563 : decode cX10_init 563 = .ok (.invokestatic 156, 3) := by decide +kernel
theorem dX10_init_566 : decode cX10_init 566 = .ok (.lastore, 1) := by decide +kernel
theorem dX10_init_567 : decode cX10_init 567 = .ok (.aload_n 0, 1) := by decide +kernel
theorem dX10_init_568 : decode cX10_init 568 = .ok (.getfield 34, 3) := by decide +kernel
theorem dX10_init_571 : decode cX10_init 571 = .ok (.bipush 9, 2) := by decide +kernel
theorem dX10_init_573 : decode cX10_init 573 = .ok (.bipush 116, 2) := by decide +kernel
theorem dX10_init_575 : decode cX10_init 575 = .ok (.bipush 104, 2) := by decide +kernel
theorem dX10_init_577 : decode cX10_init 577 = .ok (.bipush 101, 2) := by decide +kernel
theorem dX10_init_579 : decode cX10_init 579 = .ok (.bipush 110, 2) := by decide +kernel
theorem dX10_init_581 : decode cX10_init 581 = .ok (.iconst 0, 1) := by decide +kernel
theorem dX10_init_582 : decode cX10_init 582 = .ok (.iconst 0, 1) := by decide +kernel
theorem dX10_init_583 : decode cX10_init 583 = .ok (.iconst 0, 1) := by decide +kernel
theorem dX10_init_584 : decode cX10_init 584 = .ok (.invokestatic 156, 3) := by decide +kernel
theorem dX10_init_587 : decode cX10_init 587 = .ok (.lastore, 1) := by decide +kernel
theorem dX10_init_588 : decode cX10_init 588 = .ok (.aload_n 0, 1) := by decide +kernel
theorem dX10_init_589 : decode cX10_init 589 = .ok (.getfield 34, 3) := by decide +kernel
theorem dX10_init_592 : decode cX10_init 592 = .ok (.bipush 10, 2) := by decide +kernel
theorem dX10_init_594 : decode cX10_init 594 = .ok (.bipush 101, 2) := by decide +kernel
theorem dX10_init_596 : decode cX10_init 596 = .ok (.bipush 108, 2) := by decide +kernel
theorem dX10_init_598 : decode cX10_init 598 = .ok (.bipush 115, 2) := by decide +kernel
theorem dX10_init_600 : decode cX10_init 600 = .ok (.bipush 101, 2) := by decide +kernel
theorem dX10_init_602 : decode cX10_init 602 = .ok (.iconst 0, 1) := by decide +kernel
theorem dX10_init_603 : decode cX10_init 603 = .ok (.iconst 0, 1) := by decide +kernel
theorem dX10_init_604 : decode cX10_init 604 = .ok (.iconst 0, 1) := by decide +kernel
theorem dX10_init_605 : decode cX10_init 605 = .ok (.invokestatic 156, 3) := by decide +kernel
theorem dX10_init_608 : decode cX10_init 608 = .ok (.lastore, 1) := by decide +kernel
theorem dX10_init_609 : decode cX10_init 609 = .ok (.aload_n 0, 1) := by decide +kernel
theorem dX10_init_610 : decode cX10_init 610 = .ok (.getfield 34, 3) := by decide +kernel
theorem dX10_init_613 : decode cX10_init 613 = .ok (.bipush 11, 2) := by decide +kernel
theorem dX10_init_615 : decode cX10_init 615 = .ok (.bipush 104, 2) := by decide +kernel
theorem dX10_init_617 : decode cX10_init 617 = .ok (.bipush 97, 2) := by decide +kernel
theorem dX10_init_619 : decode cX10_init 619 = .ok (.bipush 118, 2) := by decide +kernel
theorem dX10_init_621 : decode cX10_init 621 = .ok (.bipush 101, 2) := by decide +kernel
theorem dX10_init_623 : decode cX10_init 623 = .ok (.iconst 0, 1) := by decide +kernel
theorem dX10_init_624 : decode cX10_init 624 = .ok (.iconst 0, 1) := by decide +kernel
theorem dX10_init_625 : decode cX10_init 625 = .ok (.iconst 0, 1) := by decide +kernel
theorem dX10_init_626 : decode cX10_init 626 = .ok (.invokestatic 156, 3) := by decide +kernel
theorem dX10_init_629 : decode cX10_init 629 = .ok (.lastore, 1) := by decide +kernel
theorem dX10_init_630 : decode cX10_init 630 = .ok (.aload_n 0, 1) := by decide +kernel
theorem dX10_init_631 : decode cX10_init 631 = .ok (.getfield 34, 3) := by decide +kernel
theorem dX10_init_634 : decode cX10_init 634 = .ok (.bipush 12, 2) := by decide +kernel
theorem dX10_init_636 : decode cX10_init 636 = .ok (.bipush 116, 2) := by decide +kernel
theorem dX10_init_638 : decode cX10_init 638 = .ok (.bipush 105, 2) := by decide +kernel
theorem dX10_init_640 : decode cX10_init 640 = .ok (.bipush 109, 2) := by decide +kernel
theorem dX10_init_642 : decode cX10_init 642 = .ok (.bipush 101, 2) := by decide +kernel
theorem dX10_init_644 : decode cX10_init 644 = .ok (.bipush 115, 2) := by decide +kernel
theorem dX10_init_646 : decode cX10_init 646 = .ok (.iconst 0, 1) := by decide +kernel
theorem dX10_init_647 : decode cX10_init 647 = .ok (.iconst 0, 1) := by decide +kernel
theorem dX10_init_648 : decode cX10_init 648 = .ok (.invokestatic 156, 3) := by decide +kernel
theorem dX10_init_651 : decode cX10_init 651 = .ok (.lastore, 1) := by decide +kernel
theorem dX10_init_652 : decode cX10_init 652 = .ok (.aload_n 0, 1) := by decide +kernel
theorem dX10_init_653 : decode cX10_init 653 = .ok (.getfield 34, 3) := by decide +kernel
theorem dX10_init_656 : decode cX10_init 656 = .ok (.bipush 13, 2) := by decide +kernel
theorem dX10_init_658 : decode cX10_init 658 = .ok (.bipush 119, 2) := by decide +kernel
theorem dX10_init_660 : decode cX10_init 660 = .ok (.bipush 101, 2) := by decide +kernel
theorem dX10_init_662 : decode cX10_init 662 = .ok (.bipush 101, 2) := by decide +kernel
theorem dX10_init_664 : decode cX10_init 664 = .ok (.bipush 107, 2) := by decide +kernel
theorem dX10_init_666 : decode cX10_init 666 = .ok (.iconst 0, 1) := by decide +kernel
theorem dX10_init_667 : decode cX10_init 667 = .ok (.iconst 0, 1) := by decide +kernel
theorem dX10_init_668 : decode cX10_init 668 = .ok (.iconst 0, 1) := by decide +kernel
theorem dX10_init_669 : decode cX10_init 669 = .ok (.invokestatic 156, 3) := by decide +kernel
theorem dX10_init_672 : decode cX10_init 672 = .ok (.lastore, 1) := by decide +kernel
theorem dX10_init_673 : decode cX10_init 673 = .ok (.aload_n 0, 1) := by decide +kernel
theorem dX10_init_674 : decode cX10_init 674 = .ok (.getfield 34, 3) := by decide +kernel
theorem dX10_init_677 : decode cX10_init 677 = .ok (.bipush 14, 2) := by decide +kernel
theorem dX10_init_679 : decode cX10_init 679 = .ok (.bipush 119, 2) := by decide +kernel
theorem dX10_init_681 : decode cX10_init 681 = .ok (.bipush 105, 2) := by decide +kernel
theorem dX10_init_683 : decode cX10_init 683 = .ok (.bipush 110, 2) := by decide +kernel
theorem dX10_init_685 : decode cX10_init 685 = .ok (.bipush 100, 2) := by decide +kernel
theorem dX10_init_687 : decode cX10_init 687 = .ok (.iconst 0, 1) := by decide +kernel
theorem dX10_init_688 : decode cX10_init 688 = .ok (.iconst 0, 1) := by decide +kernel
theorem dX10_init_689 : decode cX10_init 689 = .ok (.iconst 0, 1) := by decide +kernel
theorem dX10_init_690 : decode cX10_init 690 = .ok (.invokestatic 156, 3) := by decide +kernel
theorem dX10_init_693 : decode cX10_init 693 = .ok (.lastore, 1) := by decide +kernel
theorem dX10_init_694 : decode cX10_init 694 = .ok (.aload_n 0, 1) := by decide +kernel
theorem dX10_init_695 : decode cX10_init 695 = .ok (.getfield 34, 3) := by decide +kernel
theorem dX10_init_698 : decode cX10_init 698 = .ok (.bipush 15, 2) := by decide +kernel
theorem dX10_init_700 : decode cX10_init 700 = .ok (.bipush 99, 2) := by decide +kernel
theorem dX10_init_702 : decode cX10_init 702 = .ok (.bipush 104, 2) := by decide +kernel
theorem dX10_init_704 : decode cX10_init 704 = .ok (.bipush 101, 2) := by decide +kernel
theorem dX10_init_706 : decode cX10_init 706 = .ok (.bipush 115, 2) := by decide +kernel
theorem dX10_init_708 : decode cX10_init 708 = .ok (.bipush 116, 2) := by decide +kernel
theorem dX10_init_710 : decode cX10_init 710 = .ok (.iconst 0, 1) := by decide +kernel
theorem dX10_init_711 : decode cX10_init 711 = .ok (.iconst 0, 1) := by decide +kernel
theorem dX10_init_712 : decode cX10_init 712 = .ok (.invokestatic 156, 3) := by decide +kernel
theorem dX10_init_715 : decode cX10_init 715 = .ok (.lastore, 1) := by decide +kernel
theorem dX10_init_716 : decode cX10_init 716 = .ok (.aload_n 0, 1) := by decide +kernel
theorem dX10_init_717 : decode cX10_init 717 = .ok (.getfield 34, 3) := by decide +kernel
theorem dX10_init_720 : decode cX10_init 720 = .ok (.bipush 16, 2) := by decide +kernel
theorem dX10_init_722 : decode cX10_init 722 = .ok (.bipush 114, 2) := by decide +kernel
theorem dX10_init_724 : decode cX10_init 724 = .ok (.bipush 97, 2) := by decide +kernel
theorem dX10_init_726 : decode cX10_init 726 = .ok (.bipush 110, 2) := by decide +kernel
theorem dX10_init_728 : decode cX10_init 728 = .ok (.bipush 107, 2) := by decide +kernel
theorem dX10_init_730 : decode cX10_init 730 = .ok (.iconst 0, 1) := by decide +kernel
theorem dX10_init_731 : decode cX10_init 731 = .ok (.iconst 0, 1) := by decide +kernel
theorem dX10_init_732 : decode cX10_init 732 = .ok (.iconst 0, 1) := by decide +kernel
theorem dX10_init_733 : decode cX10_init 733 = .ok (.invokestatic 156, 3) := by decide +kernel
theorem dX10_init_736 : decode cX10_init 736 = .ok (.lastore, 1) := by decide +kernel
theorem dX10_init_737 : decode cX10_init 737 = .ok (.return_, 1) := by decide +kernel
theorem dX10_feed_0 : decode cX10_feed 0 = .ok (.aload_n 0, 1) := by decide +kernel
theorem dX10_feed_1 : decode cX10_feed 1 = .ok (.getfield 160, 3) := by decide +kernel
theorem dX10_feed_4 : decode cX10_feed 4 = .ok (.bipush 20, 2) := by decide +kernel
theorem dX10_feed_6 : decode cX10_feed 6 = .ok (.iadd, 1) := by decide +kernel
theorem dX10_feed_7 : decode cX10_feed 7 = .ok (.sipush 2000, 3) := by decide +kernel
theorem dX10_feed_10 : decode cX10_feed 10 = .ok (.if_icmp .le 5, 3) := by decide +kernel
theorem dX10_feed_13 : decode cX10_feed 13 = .ok (.iconst (-1), 1) := by decide +kernel
theorem dX10_feed_14 : decode cX10_feed 14 = .ok (.ireturn, 1) := by decide +kernel
theorem dX10_feed_15 : decode cX10_feed 15 = .ok (.aload_n 0, 1) := by decide +kernel
theorem dX10_feed_16 : decode cX10_feed 16 = .ok (.iload_n 1, 1) := by decide +kernel
theorem dX10_feed_17 : decode cX10_feed 17 = .ok (.invokevirtual 163, 3) := by decide +kernel
theorem dX10_feed_20 : decode cX10_feed 20 = .ok (.aload_n 0, 1) := by decide +kernel
theorem dX10_feed_21 : decode cX10_feed 21 = .ok (.iload_n 2, 1) := by decide +kernel
theorem dX10_feed_22 : decode cX10_feed 22 = .ok (.invokevirtual 163, 3) := by decide +kernel
theorem dX10_feed_25 : decode cX10_feed 25 = .ok (.aload_n 0, 1) := by decide +kernel
theorem dX10_feed_26 : decode cX10_feed 26 = .ok (.iload_n 3, 1) := by decide +kernel
theorem dX10_feed_27 : decode cX10_feed 27 = .ok (.invokevirtual 163, 3) := by decide +kernel
theorem dX10_feed_30 : decode cX10_feed 30 = .ok (.aload_n 0, 1) := by decide +kernel
theorem dX10_feed_31 : decode cX10_feed 31 = .ok (.iload 4, 2) := by decide +kernel
theorem dX10_feed_33 : decode cX10_feed 33 = .ok (.invokevirtual 163, 3) := by decide +kernel
theorem dX10_feed_36 : decode cX10_feed 36 = .ok (.aload_n 0, 1) := by decide +kernel
theorem dX10_feed_37 : decode cX10_feed 37 = .ok (.iload 5, 2) := by decide +kernel
theorem dX10_feed_39 : decode cX10_feed 39 = .ok (.invokevirtual 163, 3) := by decide +kernel
theorem dX10_feed_42 : decode cX10_feed 42 = .ok (.aload_n 0, 1) := by decide +kernel
theorem dX10_feed_43 : decode cX10_feed 43 = .ok (.getfield 160, 3) := by decide +kernel
theorem dX10_feed_46 : decode cX10_feed 46 = .ok (.ireturn, 1) := by decide +kernel
theorem dX10_put_0 : decode cX10_put 0 = .ok (.bipush 24, 2) := by decide +kernel
theorem dX10_put_2 : decode cX10_put 2 = .ok (.istore_n 2, 1) := by decide +kernel
theorem dX10_put_3 : decode cX10_put 3 = .ok (.iload_n 2, 1) := by decide +kernel
theorem dX10_put_4 : decode cX10_put 4 = .ok (.ifCond .lt 32, 3) := by decide +kernel
theorem dX10_put_7 : decode cX10_put 7 = .ok (.aload_n 0, 1) := by decide +kernel
theorem dX10_put_8 : decode cX10_put 8 = .ok (.getfield 13, 3) := by decide +kernel
theorem dX10_put_11 : decode cX10_put 11 = .ok (.aload_n 0, 1) := by decide +kernel
theorem dX10_put_12 : decode cX10_put 12 = .ok (.getfield 160, 3) := by decide +kernel
theorem dX10_put_15 : decode cX10_put 15 = .ok (.iload_n 1, 1) := by decide +kernel
theorem dX10_put_16 : decode cX10_put 16 = .ok (.iload_n 2, 1) := by decide +kernel
theorem dX10_put_17 : decode cX10_put 17 = .ok (.ishr, 1) := by decide +kernel
theorem dX10_put_18 : decode cX10_put 18 = .ok (.i2b, 1) := by decide +kernel
theorem dX10_put_19 : decode cX10_put 19 = .ok (.bastore, 1) := by decide +kernel
theorem dX10_put_20 : decode cX10_put 20 = .ok (.aload_n 0, 1) := by decide +kernel
theorem dX10_put_21 : decode cX10_put 21 = .ok (.dup, 1) := by decide +kernel
theorem dX10_put_22 : decode cX10_put 22 = .ok (.getfield 160, 3) := by decide +kernel
theorem dX10_put_25 : decode cX10_put 25 = .ok (.iconst 1, 1) := by decide +kernel
theorem dX10_put_26 : decode cX10_put 26 = .ok (.iadd, 1) := by decide +kernel
theorem dX10_put_27 : decode cX10_put 27 = .ok (.putfield 160, 3) := by decide +kernel
theorem dX10_put_30 : decode cX10_put 30 = .ok (.iinc 2 (-8), 3) := by decide +kernel
theorem dX10_put_33 : decode cX10_put 33 = .ok (.goto (-30), 3) := by decide +kernel
theorem dX10_put_36 : decode cX10_put 36 = .ok (.return_, 1) := by decide +kernel
theorem dX10_back_0 : decode cX10_back 0 = .ok (.iload_n 1, 1) := by decide +kernel
theorem dX10_back_1 : decode cX10_back 1 = .ok (.ifCond .lt 11, 3) := by decide +kernel
theorem dX10_back_4 : decode cX10_back 4 = .ok (.iload_n 1, 1) := by decide +kernel
theorem dX10_back_5 : decode cX10_back 5 = .ok (.aload_n 0, 1) := by decide +kernel
theorem dX10_back_6 : decode cX10_back 6 = .ok (.getfield 160, 3) := by decide +kernel
theorem dX10_back_9 : decode cX10_back 9 = .ok (.if_icmp .le 5, 3) := by decide +kernel
theorem dX10_back_12 : decode cX10_back 12 = .ok (.iconst (-1), 1) := by decide +kernel
theorem dX10_back_13 : decode cX10_back 13 = .ok (.ireturn, 1) := by decide +kernel
theorem dX10_back_14 : decode cX10_back 14 = .ok (.aload_n 0, 1) := by decide +kernel
theorem dX10_back_15 : decode cX10_back 15 = .ok (.dup, 1) := by decide +kernel
theorem dX10_back_16 : decode cX10_back 16 = .ok (.getfield 160, 3) := by decide +kernel
theorem dX10_back_19 : decode cX10_back 19 = .ok (.iload_n 1, 1) := by decide +kernel
theorem dX10_back_20 : decode cX10_back 20 = .ok (.isub, 1) := by decide +kernel
theorem dX10_back_21 : decode cX10_back 21 = .ok (.putfield 160, 3) := by decide +kernel
theorem dX10_back_24 : decode cX10_back 24 = .ok (.aload_n 0, 1) := by decide +kernel
theorem dX10_back_25 : decode cX10_back 25 = .ok (.getfield 160, 3) := by decide +kernel
theorem dX10_back_28 : decode cX10_back 28 = .ok (.ireturn, 1) := by decide +kernel
theorem dX10_byteAt_0 : decode cX10_byteAt 0 = .ok (.iload_n 1, 1) := by decide +kernel
theorem dX10_byteAt_1 : decode cX10_byteAt 1 = .ok (.aload_n 0, 1) := by decide +kernel
theorem dX10_byteAt_2 : decode cX10_byteAt 2 = .ok (.getfield 167, 3) := by decide +kernel
theorem dX10_byteAt_5 : decode cX10_byteAt 5 = .ok (.if_icmp .ge 16, 3) := by decide +kernel
theorem dX10_byteAt_8 : decode cX10_byteAt 8 = .ok (.aload_n 0, 1) := by decide +kernel
