/-! decode rows 1 -/
theorem dX0_init_0 : decode cX0_init 0 = .ok (.aload_n 0, 1) := by decide +kernel
theorem dX0_init_1 : decode cX0_init 1 = .ok (.invokespecial 3, 3) := by decide +kernel
theorem dX0_init_4 : decode cX0_init 4 = .ok (.aload_n 0, 1) := by decide +kernel
theorem dX0_init_5 : decode cX0_init 5 = .ok (.bipush 72, 2) := by decide +kernel
theorem dX0_init_7 : decode cX0_init 7 = .ok (.newarray .int, 2) := by decide +kernel
theorem dX0_init_9 : decode cX0_init 9 = .ok (.putfield 9, 3) := by decide +kernel
theorem dX0_init_12 : decode cX0_init 12 = .ok (.return_, 1) := by decide +kernel
theorem dX0_keep_0 : decode cX0_keep 0 = .ok (.aload_n 1, 1) := by decide +kernel
theorem dX0_keep_1 : decode cX0_keep 1 = .ok (.getfield 15, 3) := by decide +kernel
theorem dX0_keep_4 : decode cX0_keep 4 = .ok (.iconst 0, 1) := by decide +kernel
theorem dX0_keep_5 : decode cX0_keep 5 = .ok (.aload_n 0, 1) := by decide +kernel
theorem dX0_keep_6 : decode cX0_keep 6 = .ok (.getfield 9, 3) := by decide +kernel
theorem dX0_keep_9 : decode cX0_keep 9 = .ok (.iconst 0, 1) := by decide +kernel
theorem dX0_keep_10 : decode cX0_keep 10 = .ok (.aload_n 0, 1) := by decide +kernel
theorem dX0_keep_11 : decode cX0_keep 11 = .ok (.getfield 9, 3) := by decide +kernel
theorem dX0_keep_14 : decode cX0_keep 14 = .ok (.arraylength, 1) := by decide +kernel
theorem dX0_keep_15 : decode cX0_keep 15 = .ok (.invokestatic 18, 3) := by decide +kernel
theorem dX0_keep_18 : decode cX0_keep 18 = .ok (.aload_n 0, 1) := by decide +kernel
theorem dX0_keep_19 : decode cX0_keep 19 = .ok (.aload_n 1, 1) := by decide +kernel
theorem dX0_keep_20 : decode cX0_keep 20 = .ok (.getfield 24, 3) := by decide +kernel
theorem dX0_keep_23 : decode cX0_keep 23 = .ok (.putfield 28, 3) := by decide +kernel
theorem dX0_keep_26 : decode cX0_keep 26 = .ok (.aload_n 0, 1) := by decide +kernel
theorem dX0_keep_27 : decode cX0_keep 27 = .ok (.aload_n 1, 1) := by decide +kernel
theorem dX0_keep_28 : decode cX0_keep 28 = .ok (.getfield 29, 3) := by decide +kernel
theorem dX0_keep_31 : decode cX0_keep 31 = .ok (.putfield 32, 3) := by decide +kernel
theorem dX0_keep_34 : decode cX0_keep 34 = .ok (.aload_n 0, 1) := by decide +kernel
theorem dX0_keep_35 : decode cX0_keep 35 = .ok (.iconst (-1), 1) := by decide +kernel
theorem dX0_keep_36 : decode cX0_keep 36 = .ok (.putfield 33, 3) := by decide +kernel
theorem dX0_keep_39 : decode cX0_keep 39 = .ok (.aload_n 0, 1) := by decide +kernel
theorem dX0_keep_40 : decode cX0_keep 40 = .ok (.iconst 0, 1) := by decide +kernel
theorem dX0_keep_41 : decode cX0_keep 41 = .ok (.putfield 36, 3) := by decide +kernel
theorem dX0_keep_44 : decode cX0_keep 44 = .ok (.aload_n 0, 1) := by decide +kernel
theorem dX0_keep_45 : decode cX0_keep 45 = .ok (.iconst (-1), 1) := by decide +kernel
theorem dX0_keep_46 : decode cX0_keep 46 = .ok (.putfield 39, 3) := by decide +kernel
theorem dX0_keep_49 : decode cX0_keep 49 = .ok (.return_, 1) := by decide +kernel
theorem dX0_keepDebt_0 : decode cX0_keepDebt 0 = .ok (.aload_n 0, 1) := by decide +kernel
theorem dX0_keepDebt_1 : decode cX0_keepDebt 1 = .ok (.iload_n 2, 1) := by decide +kernel
theorem dX0_keepDebt_2 : decode cX0_keepDebt 2 = .ok (.putfield 33, 3) := by decide +kernel
theorem dX0_keepDebt_5 : decode cX0_keepDebt 5 = .ok (.aload_n 0, 1) := by decide +kernel
theorem dX0_keepDebt_6 : decode cX0_keepDebt 6 = .ok (.aload_n 1, 1) := by decide +kernel
theorem dX0_keepDebt_7 : decode cX0_keepDebt 7 = .ok (.getfield 42, 3) := by decide +kernel
theorem dX0_keepDebt_10 : decode cX0_keepDebt 10 = .ok (.iload_n 2, 1) := by decide +kernel
theorem dX0_keepDebt_11 : decode cX0_keepDebt 11 = .ok (.iaload, 1) := by decide +kernel
theorem dX0_keepDebt_12 : decode cX0_keepDebt 12 = .ok (.putfield 36, 3) := by decide +kernel
theorem dX0_keepDebt_15 : decode cX0_keepDebt 15 = .ok (.return_, 1) := by decide +kernel
theorem dX0_giveBack_0 : decode cX0_giveBack 0 = .ok (.aload_n 0, 1) := by decide +kernel
theorem dX0_giveBack_1 : decode cX0_giveBack 1 = .ok (.getfield 9, 3) := by decide +kernel
theorem dX0_giveBack_4 : decode cX0_giveBack 4 = .ok (.iconst 0, 1) := by decide +kernel
theorem dX0_giveBack_5 : decode cX0_giveBack 5 = .ok (.aload_n 1, 1) := by decide +kernel
theorem dX0_giveBack_6 : decode cX0_giveBack 6 = .ok (.getfield 15, 3) := by decide +kernel
theorem dX0_giveBack_9 : decode cX0_giveBack 9 = .ok (.iconst 0, 1) := by decide +kernel
theorem dX0_giveBack_10 : decode cX0_giveBack 10 = .ok (.aload_n 0, 1) := by decide +kernel
theorem dX0_giveBack_11 : decode cX0_giveBack 11 = .ok (.getfield 9, 3) := by decide +kernel
theorem dX0_giveBack_14 : decode cX0_giveBack 14 = .ok (.arraylength, 1) := by decide +kernel
theorem dX0_giveBack_15 : decode cX0_giveBack 15 = .ok (.invokestatic 18, 3) := by decide +kernel
theorem dX0_giveBack_18 : decode cX0_giveBack 18 = .ok (.aload_n 1, 1) := by decide +kernel
theorem dX0_giveBack_19 : decode cX0_giveBack 19 = .ok (.aload_n 0, 1) := by decide +kernel
theorem dX0_giveBack_20 : decode cX0_giveBack 20 = .ok (.getfield 28, 3) := by decide +kernel
theorem dX0_giveBack_23 : decode cX0_giveBack 23 = .ok (.putfield 24, 3) := by decide +kernel
theorem dX0_giveBack_26 : decode cX0_giveBack 26 = .ok (.aload_n 1, 1) := by decide +kernel
theorem dX0_giveBack_27 : decode cX0_giveBack 27 = .ok (.aload_n 0, 1) := by decide +kernel
theorem dX0_giveBack_28 : decode cX0_giveBack 28 = .ok (.getfield 32, 3) := by decide +kernel
theorem dX0_giveBack_31 : decode cX0_giveBack 31 = .ok (.putfield 29, 3) := by decide +kernel
theorem dX0_giveBack_34 : decode cX0_giveBack 34 = .ok (.aload_n 0, 1) := by decide +kernel
theorem dX0_giveBack_35 : decode cX0_giveBack 35 = .ok (.getfield 33, 3) := by decide +kernel
theorem dX0_giveBack_38 : decode cX0_giveBack 38 = .ok (.ifCond .lt 16, 3) := by decide +kernel
theorem dX0_giveBack_41 : decode cX0_giveBack 41 = .ok (.aload_n 1, 1) := by decide +kernel
theorem dX0_giveBack_42 : decode cX0_giveBack 42 = .ok (.getfield 42, 3) := by decide +kernel
theorem dX0_giveBack_45 : decode cX0_giveBack 45 = .ok (.aload_n 0, 1) := by decide +kernel
theorem dX0_giveBack_46 : decode cX0_giveBack 46 = .ok (.getfield 33, 3) := by decide +kernel
theorem dX0_giveBack_49 : decode cX0_giveBack 49 = .ok (.aload_n 0, 1) := by decide +kernel
theorem dX0_giveBack_50 : decode cX0_giveBack 50 = .ok (.getfield 36, 3) := by decide +kernel
theorem dX0_giveBack_53 : decode cX0_giveBack 53 = .ok (.iastore, 1) := by decide +kernel
theorem dX0_giveBack_54 : decode cX0_giveBack 54 = .ok (.aload_n 0, 1) := by decide +kernel
theorem dX0_giveBack_55 : decode cX0_giveBack 55 = .ok (.getfield 39, 3) := by decide +kernel
theorem dX0_giveBack_58 : decode cX0_giveBack 58 = .ok (.ifCond .lt 12, 3) := by decide +kernel
theorem dX0_giveBack_61 : decode cX0_giveBack 61 = .ok (.aload_n 1, 1) := by decide +kernel
theorem dX0_giveBack_62 : decode cX0_giveBack 62 = .ok (.aload_n 0, 1) := by decide +kernel
theorem dX0_giveBack_63 : decode cX0_giveBack 63 = .ok (.getfield 39, 3) := by decide +kernel
theorem dX0_giveBack_66 : decode cX0_giveBack 66 = .ok (.iconst 0, 1) := by decide +kernel
theorem dX0_giveBack_67 : decode cX0_giveBack 67 = .ok (.invokevirtual 45, 3) := by decide +kernel
theorem dX0_giveBack_70 : decode cX0_giveBack 70 = .ok (.return_, 1) := by decide +kernel
theorem dX1_init_0 : decode cX1_init 0 = .ok (.aload_n 0, 1) := by decide +kernel
theorem dX1_init_1 : decode cX1_init 1 = .ok (.invokespecial 3, 3) := by decide +kernel
theorem dX1_init_4 : decode cX1_init 4 = .ok (.aload_n 0, 1) := by decide +kernel
theorem dX1_init_5 : decode cX1_init 5 = .ok (.bipush 25, 2) := by decide +kernel
theorem dX1_init_7 : decode cX1_init 7 = .ok (.anewarray 9, 3) := by decide +kernel
theorem dX1_init_10 : decode cX1_init 10 = .ok (.putfield 11, 3) := by decide +kernel
theorem dX1_init_13 : decode cX1_init 13 = .ok (.iconst 0, 1) := by decide +kernel
theorem dX1_init_14 : decode cX1_init 14 = .ok (.istore_n 1, 1) := by decide +kernel
theorem dX1_init_15 : decode cX1_init 15 = .ok (.iload_n 1, 1) := by decide +kernel
theorem dX1_init_16 : decode cX1_init 16 = .ok (.bipush 25, 2) := by decide +kernel
theorem dX1_init_18 : decode cX1_init 18 = .ok (.if_icmp .ge 22, 3) := by decide +kernel
theorem dX1_init_21 : decode cX1_init 21 = .ok (.aload_n 0, 1) := by decide +kernel
theorem dX1_init_22 : decode cX1_init 22 = .ok (.getfield 11, 3) := by decide +kernel
theorem dX1_init_25 : decode cX1_init 25 = .ok (.iload_n 1, 1) := by decide +kernel
theorem dX1_init_26 : decode cX1_init 26 = .ok (.new 9, 3) := by decide +kernel
theorem dX1_init_29 : decode cX1_init 29 = .ok (.dup, 1) := by decide +kernel
theorem dX1_init_30 : decode cX1_init 30 = .ok (.invokespecial 17, 3) := by decide +kernel
theorem dX1_init_33 : decode cX1_init 33 = .ok (.aastore, 1) := by decide +kernel
theorem dX1_init_34 : decode cX1_init 34 = .ok (.iinc 1 1, 3) := by decide +kernel
theorem dX1_init_37 : decode cX1_init 37 = .ok (.goto (-22), 3) := by decide +kernel
theorem dX1_init_40 : decode cX1_init 40 = .ok (.return_, 1) := by decide +kernel
theorem dX1_note_0 : decode cX1_note 0 = .ok (.aload_n 0, 1) := by decide +kernel
theorem dX1_note_1 : decode cX1_note 1 = .ok (.getfield 11, 3) := by decide +kernel
theorem dX1_note_4 : decode cX1_note 4 = .ok (.aload_n 0, 1) := by decide +kernel
theorem dX1_note_5 : decode cX1_note 5 = .ok (.getfield 18, 3) := by decide +kernel
theorem dX1_note_8 : decode cX1_note 8 = .ok (.aaload, 1) := by decide +kernel
theorem dX1_note_9 : decode cX1_note 9 = .ok (.astore_n 2, 1) := by decide +kernel
theorem dX1_note_10 : decode cX1_note 10 = .ok (.aload_n 2, 1) := by decide +kernel
theorem dX1_note_11 : decode cX1_note 11 = .ok (.aload_n 1, 1) := by decide +kernel
theorem dX1_note_12 : decode cX1_note 12 = .ok (.invokevirtual 22, 3) := by decide +kernel
theorem dX1_note_15 : decode cX1_note 15 = .ok (.aload_n 0, 1) := by decide +kernel
theorem dX1_note_16 : decode cX1_note 16 = .ok (.aload_n 0, 1) := by decide +kernel
theorem dX1_note_17 : decode cX1_note 17 = .ok (.getfield 18, 3) := by decide +kernel
theorem dX1_note_20 : decode cX1_note 20 = .ok (.iconst 1, 1) := by decide +kernel
theorem dX1_note_21 : decode cX1_note 21 = .ok (.iadd, 1) := by decide +kernel
theorem dX1_note_22 : decode cX1_note 22 = .ok (.bipush 25, 2) := by decide +kernel
theorem dX1_note_24 : decode cX1_note 24 = .ok (.irem, 1) := by decide +kernel
theorem dX1_note_25 : decode cX1_note 25 = .ok (.putfield 18, 3) := by decide +kernel
theorem dX1_note_28 : decode cX1_note 28 = .ok (.aload_n 0, 1) := by decide +kernel
theorem dX1_note_29 : decode cX1_note 29 = .ok (.aload_n 0, 1) := by decide +kernel
theorem dX1_note_30 : decode cX1_note 30 = .ok (.getfield 26, 3) := by decide +kernel
theorem dX1_note_33 : decode cX1_note 33 = .ok (.iconst 1, 1) := by decide +kernel
theorem dX1_note_34 : decode cX1_note 34 = .ok (.iadd, 1) := by decide +kernel
theorem dX1_note_35 : decode cX1_note 35 = .ok (.bipush 25, 2) := by decide +kernel
theorem dX1_note_37 : decode cX1_note 37 = .ok (.invokestatic 29, 3) := by decide +kernel
theorem dX1_note_40 : decode cX1_note 40 = .ok (.putfield 26, 3) := by decide +kernel
theorem dX1_note_43 : decode cX1_note 43 = .ok (.aload_n 2, 1) := by decide +kernel
theorem dX1_note_44 : decode cX1_note 44 = .ok (.areturn, 1) := by decide +kernel
theorem dX1_takeBack_0 : decode cX1_takeBack 0 = .ok (.aload_n 0, 1) := by decide +kernel
theorem dX1_takeBack_1 : decode cX1_takeBack 1 = .ok (.getfield 26, 3) := by decide +kernel
theorem dX1_takeBack_4 : decode cX1_takeBack 4 = .ok (.ifCond .ne 5, 3) := by decide +kernel
theorem dX1_takeBack_7 : decode cX1_takeBack 7 = .ok (.iconst 0, 1) := by decide +kernel
theorem dX1_takeBack_8 : decode cX1_takeBack 8 = .ok (.ireturn, 1) := by decide +kernel
theorem dX1_takeBack_9 : decode cX1_takeBack 9 = .ok (.aload_n 0, 1) := by decide +kernel
theorem dX1_takeBack_10 : decode cX1_takeBack 10 = .ok (.dup, 1) := by decide +kernel
theorem dX1_takeBack_11 : decode cX1_takeBack 11 = .ok (.getfield 26, 3) := by decide +kernel
theorem dX1_takeBack_14 : decode cX1_takeBack 14 = .ok (.iconst 1, 1) := by decide +kernel
theorem dX1_takeBack_15 : decode cX1_takeBack 15 = .ok (.isub, 1) := by decide +kernel
theorem dX1_takeBack_16 : decode cX1_takeBack 16 = .ok (.putfield 26, 3) := by decide +kernel
theorem dX1_takeBack_19 : decode cX1_takeBack 19 = .ok (.aload_n 0, 1) := by decide +kernel
theorem dX1_takeBack_20 : decode cX1_takeBack 20 = .ok (.aload_n 0, 1) := by decide +kernel
theorem dX1_takeBack_21 : decode cX1_takeBack 21 = .ok (.getfield 18, 3) := by decide +kernel
theorem dX1_takeBack_24 : decode cX1_takeBack 24 = .ok (.bipush 25, 2) := by decide +kernel
theorem dX1_takeBack_26 : decode cX1_takeBack 26 = .ok (.iadd, 1) := by decide +kernel
theorem dX1_takeBack_27 : decode cX1_takeBack 27 = .ok (.iconst 1, 1) := by decide +kernel
theorem dX1_takeBack_28 : decode cX1_takeBack 28 = .ok (.isub, 1) := by decide +kernel
theorem dX1_takeBack_29 : decode cX1_takeBack 29 = .ok (.bipush 25, 2) := by decide +kernel
theorem dX1_takeBack_31 : decode cX1_takeBack 31 = .ok (.irem, 1) := by decide +kernel
theorem dX1_takeBack_32 : decode cX1_takeBack 32 = .ok (.putfield 18, 3) := by decide +kernel
theorem dX1_takeBack_35 : decode cX1_takeBack 35 = .ok (.aload_n 0, 1) := by decide +kernel
theorem dX1_takeBack_36 : decode cX1_takeBack 36 = .ok (.getfield 11, 3) := by decide +kernel
theorem dX1_takeBack_39 : decode cX1_takeBack 39 = .ok (.aload_n 0, 1) := by decide +kernel
theorem dX1_takeBack_40 : decode cX1_takeBack 40 = .ok (.getfield 18, 3) := by decide +kernel
theorem dX1_takeBack_43 : decode cX1_takeBack 43 = .ok (.aaload, 1) := by decide +kernel
theorem dX1_takeBack_44 : decode cX1_takeBack 44 = .ok (.aload_n 1, 1) := by decide +kernel
theorem dX1_takeBack_45 : decode cX1_takeBack 45 = .ok (.invokevirtual 35, 3) := by decide +kernel
theorem dX1_takeBack_48 : decode cX1_takeBack 48 = .ok (.iconst 1, 1) := by decide +kernel
theorem dX1_takeBack_49 : decode cX1_takeBack 49 = .ok (.ireturn, 1) := by decide +kernel
theorem dX2_init_0 : decode cX2_init 0 = .ok (.aload_n 0, 1) := by decide +kernel
theorem dX2_init_1 : decode cX2_init 1 = .ok (.invokespecial 3, 3) := by decide +kernel
theorem dX2_init_4 : decode cX2_init 4 = .ok (.aload_n 0, 1) := by decide +kernel
theorem dX2_init_5 : decode cX2_init 5 = .ok (.bipush 64, 2) := by decide +kernel
theorem dX2_init_7 : decode cX2_init 7 = .ok (.newarray .int, 2) := by decide +kernel
theorem dX2_init_9 : decode cX2_init 9 = .ok (.putfield 9, 3) := by decide +kernel
theorem dX2_init_12 : decode cX2_init 12 = .ok (.aload_n 0, 1) := by decide +kernel
theorem dX2_init_13 : decode cX2_init 13 = .ok (.bipush 8, 2) := by decide +kernel
theorem dX2_init_15 : decode cX2_init 15 = .ok (.newarray .int, 2) := by decide +kernel
theorem dX2_init_17 : decode cX2_init 17 = .ok (.putfield 15, 3) := by decide +kernel
theorem dX2_init_20 : decode cX2_init 20 = .ok (.aload_n 0, 1) := by decide +kernel
theorem dX2_init_21 : decode cX2_init 21 = .ok (.bipush 8, 2) := by decide +kernel
theorem dX2_init_23 : decode cX2_init 23 = .ok (.newarray .int, 2) := by decide +kernel
theorem dX2_init_25 : decode cX2_init 25 = .ok (.putfield 18, 3) := by decide +kernel
theorem dX2_init_28 : decode cX2_init 28 = .ok (.return_, 1) := by decide +kernel
theorem dX2_choiceOf_0 : decode cX2_choiceOf 0 = .ok (.iconst 0, 1) := by decide +kernel
theorem dX2_choiceOf_1 : decode cX2_choiceOf 1 = .ok (.istore_n 2, 1) := by decide +kernel
theorem dX2_choiceOf_2 : decode cX2_choiceOf 2 = .ok (.iconst 1, 1) := by decide +kernel
theorem dX2_choiceOf_3 : decode cX2_choiceOf 3 = .ok (.istore_n 3, 1) := by decide +kernel
theorem dX2_choiceOf_4 : decode cX2_choiceOf 4 = .ok (.iload_n 3, 1) := by decide +kernel
theorem dX2_choiceOf_5 : decode cX2_choiceOf 5 = .ok (.aload_n 0, 1) := by decide +kernel
theorem dX2_choiceOf_6 : decode cX2_choiceOf 6 = .ok (.getfield 21, 3) := by decide +kernel
theorem dX2_choiceOf_9 : decode cX2_choiceOf 9 = .ok (.if_icmp .ge 36, 3) := by decide +kernel
theorem dX2_choiceOf_12 : decode cX2_choiceOf 12 = .ok (.aload_n 0, 1) := by decide +kernel
theorem dX2_choiceOf_13 : decode cX2_choiceOf 13 = .ok (.getfield 9, 3) := by decide +kernel
theorem dX2_choiceOf_16 : decode cX2_choiceOf 16 = .ok (.iload_n 1, 1) := by decide +kernel
theorem dX2_choiceOf_17 : decode cX2_choiceOf 17 = .ok (.bipush 8, 2) := by decide +kernel
theorem dX2_choiceOf_19 : decode cX2_choiceOf 19 = .ok (.imul, 1) := by decide +kernel
theorem dX2_choiceOf_20 : decode cX2_choiceOf 20 = .ok (.iload_n 3, 1) := by decide +kernel
theorem dX2_choiceOf_21 : decode cX2_choiceOf 21 = .ok (.iadd, 1) := by decide +kernel
theorem dX2_choiceOf_22 : decode cX2_choiceOf 22 = .ok (.iaload, 1) := by decide +kernel
theorem dX2_choiceOf_23 : decode cX2_choiceOf 23 = .ok (.aload_n 0, 1) := by decide +kernel
theorem dX2_choiceOf_24 : decode cX2_choiceOf 24 = .ok (.getfield 9, 3) := by decide +kernel
theorem dX2_choiceOf_27 : decode cX2_choiceOf 27 = .ok (.iload_n 1, 1) := by decide +kernel
theorem dX2_choiceOf_28 : decode cX2_choiceOf 28 = .ok (.bipush 8, 2) := by decide +kernel
theorem dX2_choiceOf_30 : decode cX2_choiceOf 30 = .ok (.imul, 1) := by decide +kernel
theorem dX2_choiceOf_31 : decode cX2_choiceOf 31 = .ok (.iload_n 2, 1) := by decide +kernel
theorem dX2_choiceOf_32 : decode cX2_choiceOf 32 = .ok (.iadd, 1) := by decide +kernel
theorem dX2_choiceOf_33 : decode cX2_choiceOf 33 = .ok (.iaload, 1) := by decide +kernel
theorem dX2_choiceOf_34 : decode cX2_choiceOf 34 = .ok (.if_icmp .le 5, 3) := by decide +kernel
theorem dX2_choiceOf_37 : decode cX2_choiceOf 37 = .ok (.iload_n 3, 1) := by decide +kernel
theorem dX2_choiceOf_38 : decode cX2_choiceOf 38 = .ok (.istore_n 2, 1) := by decide +kernel
theorem dX2_choiceOf_39 : decode cX2_choiceOf 39 = .ok (.iinc 3 1, 3) := by decide +kernel
theorem dX2_choiceOf_42 : decode cX2_choiceOf 42 = .ok (.goto (-38), 3) := by decide +kernel
theorem dX2_choiceOf_45 : decode cX2_choiceOf 45 = .ok (.iload_n 2, 1) := by decide +kernel
theorem dX2_choiceOf_46 : decode cX2_choiceOf 46 = .ok (.ireturn, 1) := by decide +kernel
theorem dX2_elect_0 : decode cX2_elect 0 = .ok (.iconst 0, 1) := by decide +kernel
theorem dX2_elect_1 : decode cX2_elect 1 = .ok (.istore_n 1, 1) := by decide +kernel
theorem dX2_elect_2 : decode cX2_elect 2 = .ok (.iload_n 1, 1) := by decide +kernel
theorem dX2_elect_3 : decode cX2_elect 3 = .ok (.aload_n 0, 1) := by decide +kernel
theorem dX2_elect_4 : decode cX2_elect 4 = .ok (.getfield 21, 3) := by decide +kernel
theorem dX2_elect_7 : decode cX2_elect 7 = .ok (.if_icmp .ge 16, 3) := by decide +kernel
theorem dX2_elect_10 : decode cX2_elect 10 = .ok (.aload_n 0, 1) := by decide +kernel
theorem dX2_elect_11 : decode cX2_elect 11 = .ok (.getfield 18, 3) := by decide +kernel
theorem dX2_elect_14 : decode cX2_elect 14 = .ok (.iload_n 1, 1) := by decide +kernel
theorem dX2_elect_15 : decode cX2_elect 15 = .ok (.iconst 0, 1) := by decide +kernel
theorem dX2_elect_16 : decode cX2_elect 16 = .ok (.iastore, 1) := by decide +kernel
theorem dX2_elect_17 : decode cX2_elect 17 = .ok (.iinc 1 1, 3) := by decide +kernel
theorem dX2_elect_20 : decode cX2_elect 20 = .ok (.goto (-18), 3) := by decide +kernel
theorem dX2_elect_23 : decode cX2_elect 23 = .ok (.iconst 0, 1) := by decide +kernel
theorem dX2_elect_24 : decode cX2_elect 24 = .ok (.istore_n 1, 1) := by decide +kernel
theorem dX2_elect_25 : decode cX2_elect 25 = .ok (.iload_n 1, 1) := by decide +kernel
theorem dX2_elect_26 : decode cX2_elect 26 = .ok (.aload_n 0, 1) := by decide +kernel
theorem dX2_elect_27 : decode cX2_elect 27 = .ok (.getfield 21, 3) := by decide +kernel
theorem dX2_elect_30 : decode cX2_elect 30 = .ok (.if_icmp .ge 23, 3) := by decide +kernel
theorem dX2_elect_33 : decode cX2_elect 33 = .ok (.aload_n 0, 1) := by decide +kernel
theorem dX2_elect_34 : decode cX2_elect 34 = .ok (.getfield 18, 3) := by decide +kernel
theorem dX2_elect_37 : decode cX2_elect 37 = .ok (.aload_n 0, 1) := by decide +kernel
theorem dX2_elect_38 : decode cX2_elect 38 = .ok (.iload_n 1, 1) := by decide +kernel
theorem dX2_elect_39 : decode cX2_elect 39 = .ok (.invokevirtual 25, 3) := by decide +kernel
theorem dX2_elect_42 : decode cX2_elect 42 = .ok (.dup2, 1) := by decide +kernel
theorem dX2_elect_43 : decode cX2_elect 43 = .ok (.iaload, 1) := by decide +kernel
theorem dX2_elect_44 : decode cX2_elect 44 = .ok (.iconst 1, 1) := by decide +kernel
theorem dX2_elect_45 : decode cX2_elect 45 = .ok (.iadd, 1) := by decide +kernel
theorem dX2_elect_46 : decode cX2_elect 46 = .ok (.iastore, 1) := by decide +kernel
theorem dX2_elect_47 : decode cX2_elect 47 = .ok (.iinc 1 1, 3) := by decide +kernel
theorem dX2_elect_50 : decode cX2_elect 50 = .ok (.goto (-25), 3) := by decide +kernel
theorem dX2_elect_53 : decode cX2_elect 53 = .ok (.iconst 0, 1) := by decide +kernel
theorem dX2_elect_54 : decode cX2_elect 54 = .ok (.istore_n 1, 1) := by decide +kernel
theorem dX2_elect_55 : decode cX2_elect 55 = .ok (.iconst 1, 1) := by decide +kernel
theorem dX2_elect_56 : decode cX2_elect 56 = .ok (.istore_n 2, 1) := by decide +kernel
theorem dX2_elect_57 : decode cX2_elect 57 = .ok (.iload_n 2, 1) := by decide +kernel
theorem dX2_elect_58 : decode cX2_elect 58 = .ok (.aload_n 0, 1) := by decide +kernel
theorem dX2_elect_59 : decode cX2_elect 59 = .ok (.getfield 21, 3) := by decide +kernel
theorem dX2_elect_62 : decode cX2_elect 62 = .ok (.if_icmp .ge 66, 3) := by decide +kernel
theorem dX2_elect_65 : decode cX2_elect 65 = .ok (.aload_n 0, 1) := by decide +kernel
theorem dX2_elect_66 : decode cX2_elect 66 = .ok (.getfield 18, 3) := by decide +kernel
theorem dX2_elect_69 : decode cX2_elect 69 = .ok (.iload_n 2, 1) := by decide +kernel
theorem dX2_elect_70 : decode cX2_elect 70 = .ok (.iaload, 1) := by decide +kernel
theorem dX2_elect_71 : decode cX2_elect 71 = .ok (.aload_n 0, 1) := by decide +kernel
theorem dX2_elect_72 : decode cX2_elect 72 = .ok (.getfield 18, 3) := by decide +kernel
theorem dX2_elect_75 : decode cX2_elect 75 = .ok (.iload_n 1, 1) := by decide +kernel
theorem dX2_elect_76 : decode cX2_elect 76 = .ok (.iaload, 1) := by decide +kernel
theorem dX2_elect_77 : decode cX2_elect 77 = .ok (.if_icmp .ne 7, 3) := by decide +kernel
theorem dX2_elect_80 : decode cX2_elect 80 = .ok (.iconst 1, 1) := by decide +kernel
theorem dX2_elect_81 : decode cX2_elect 81 = .ok (.goto 4, 3) := by decide +kernel
theorem dX2_elect_84 : decode cX2_elect 84 = .ok (.iconst 0, 1) := by decide +kernel
theorem dX2_elect_85 : decode cX2_elect 85 = .ok (.istore_n 3, 1) := by decide +kernel
theorem dX2_elect_86 : decode cX2_elect 86 = .ok (.aload_n 0, 1) := by decide +kernel
theorem dX2_elect_87 : decode cX2_elect 87 = .ok (.getfield 18, 3) := by decide +kernel
theorem dX2_elect_90 : decode cX2_elect 90 = .ok (.iload_n 2, 1) := by decide +kernel
theorem dX2_elect_91 : decode cX2_elect 91 = .ok (.iaload, 1) := by decide +kernel
theorem dX2_elect_92 : decode cX2_elect 92 = .ok (.aload_n 0, 1) := by decide +kernel
theorem dX2_elect_93 : decode cX2_elect 93 = .ok (.getfield 18, 3) := by decide +kernel
theorem dX2_elect_96 : decode cX2_elect 96 = .ok (.iload_n 1, 1) := by decide +kernel
theorem dX2_elect_97 : decode cX2_elect 97 = .ok (.iaload, 1) := by decide +kernel
theorem dX2_elect_98 : decode cX2_elect 98 = .ok (.if_icmp .gt 22, 3) := by decide +kernel
theorem dX2_elect_101 : decode cX2_elect 101 = .ok (.iload_n 3, 1) := by decide +kernel
theorem dX2_elect_102 : decode cX2_elect 102 = .ok (.ifCond .eq 20, 3) := by decide +kernel
theorem dX2_elect_105 : decode cX2_elect 105 = .ok (.aload_n 0, 1) := by decide +kernel
theorem dX2_elect_106 : decode cX2_elect 106 = .ok (.getfield 15, 3) := by decide +kernel
theorem dX2_elect_109 : decode cX2_elect 109 = .ok (.iload_n 2, 1) := by decide +kernel
theorem dX2_elect_110 : decode cX2_elect 110 = .ok (.iaload, 1) := by decide +kernel
theorem dX2_elect_111 : decode cX2_elect 111 = .ok (.aload_n 0, 1) := by decide +kernel
theorem dX2_elect_112 : decode cX2_elect 112 = .ok (.getfield 15, 3) := by decide +kernel
theorem dX2_elect_115 : decode cX2_elect 115 = .ok (.iload_n 1, 1) := by decide +kernel
theorem dX2_elect_116 : decode cX2_elect 116 = .ok (.iaload, 1) := by decide +kernel
theorem dX2_elect_117 : decode cX2_elect 117 = .ok (.if_icmp .ge 5, 3) := by decide +kernel
theorem dX2_elect_120 : decode cX2_elect 120 = .ok (.iload_n 2, 1) := by decide +kernel
theorem dX2_elect_121 : decode cX2_elect 121 = .ok (.istore_n 1, 1) := by decide +kernel
theorem dX2_elect_122 : decode cX2_elect 122 = .ok (.iinc 2 1, 3) := by decide +kernel
theorem dX2_elect_125 : decode cX2_elect 125 = .ok (.goto (-68), 3) := by decide +kernel
theorem dX2_elect_128 : decode cX2_elect 128 = .ok (.iload_n 1, 1) := by decide +kernel
theorem dX2_elect_129 : decode cX2_elect 129 = .ok (.ireturn, 1) := by decide +kernel
theorem dX3_init_0 : decode cX3_init 0 = .ok (.aload_n 0, 1) := by decide +kernel
theorem dX3_init_1 : decode cX3_init 1 = .ok (.invokespecial 5, 3) := by decide +kernel
theorem dX3_init_4 : decode cX3_init 4 = .ok (.aload_n 0, 1) := by decide +kernel
theorem dX3_init_5 : decode cX3_init 5 = .ok (.sipush 416, 3) := by decide +kernel
theorem dX3_init_8 : decode cX3_init 8 = .ok (.newarray .int, 2) := by decide +kernel
theorem dX3_init_10 : decode cX3_init 10 = .ok (.putfield 13, 3) := by decide +kernel
theorem dX3_init_13 : decode cX3_init 13 = .ok (.aload_n 0, 1) := by decide +kernel
theorem dX3_init_14 : decode cX3_init 14 = .ok (.sipush 416, 3) := by decide +kernel
theorem dX3_init_17 : decode cX3_init 17 = .ok (.newarray .int, 2) := by decide +kernel
theorem dX3_init_19 : decode cX3_init 19 = .ok (.putfield 17, 3) := by decide +kernel
theorem dX3_init_22 : decode cX3_init 22 = .ok (.aload_n 0, 1) := by decide +kernel
theorem dX3_init_23 : decode cX3_init 23 = .ok (.bipush 8, 2) := by decide +kernel
theorem dX3_init_25 : decode cX3_init 25 = .ok (.newarray .int, 2) := by decide +kernel
theorem dX3_init_27 : decode cX3_init 27 = .ok (.putfield 20, 3) := by decide +kernel
theorem dX3_init_30 : decode cX3_init 30 = .ok (.aload_n 0, 1) := by decide +kernel
theorem dX3_init_31 : decode cX3_init 31 = .ok (.bipush 8, 2) := by decide +kernel
theorem dX3_init_33 : decode cX3_init 33 = .ok (.newarray .int, 2) := by decide +kernel
theorem dX3_init_35 : decode cX3_init 35 = .ok (.putfield 23, 3) := by decide +kernel
theorem dX3_init_38 : decode cX3_init 38 = .ok (.aload_n 0, 1) := by decide +kernel
theorem dX3_init_39 : decode cX3_init 39 = .ok (.bipush 12, 2) := by decide +kernel
theorem dX3_init_41 : decode cX3_init 41 = .ok (.newarray .int, 2) := by decide +kernel
theorem dX3_init_43 : decode cX3_init 43 = .ok (.putfield 26, 3) := by decide +kernel
theorem dX3_init_46 : decode cX3_init 46 = .ok (.aload_n 0, 1) := by decide +kernel
theorem dX3_init_47 : decode cX3_init 47 = .ok (.bipush 8, 2) := by decide +kernel
theorem dX3_init_49 : decode cX3_init 49 = .ok (.newarray .int, 2) := by decide +kernel
theorem dX3_init_51 : decode cX3_init 51 = .ok (.putfield 29, 3) := by decide +kernel
theorem dX3_init_54 : decode cX3_init 54 = .ok (.aload_n 0, 1) := by decide +kernel
theorem dX3_init_55 : decode cX3_init 55 = .ok (.bipush 8, 2) := by decide +kernel
theorem dX3_init_57 : decode cX3_init 57 = .ok (.newarray .int, 2) := by decide +kernel
theorem dX3_init_59 : decode cX3_init 59 = .ok (.putfield 32, 3) := by decide +kernel
theorem dX3_init_62 : decode cX3_init 62 = .ok (.aload_n 0, 1) := by decide +kernel
theorem dX3_init_63 : decode cX3_init 63 = .ok (.iconst 1, 1) := by decide +kernel
theorem dX3_init_64 : decode cX3_init 64 = .ok (.newarray .int, 2) := by decide +kernel
theorem dX3_init_66 : decode cX3_init 66 = .ok (.putfield 35, 3) := by decide +kernel
theorem dX3_init_69 : decode cX3_init 69 = .ok (.aload_n 0, 1) := by decide +kernel
theorem dX3_init_70 : decode cX3_init 70 = .ok (.iconst 1, 1) := by decide +kernel
theorem dX3_init_71 : decode cX3_init 71 = .ok (.newarray .int, 2) := by decide +kernel
theorem dX3_init_73 : decode cX3_init 73 = .ok (.putfield 38, 3) := by decide +kernel
theorem dX3_init_76 : decode cX3_init 76 = .ok (.aload_n 0, 1) := by decide +kernel
theorem dX3_init_77 : decode cX3_init 77 = .ok (.bipush 6, 2) := by decide +kernel
theorem dX3_init_79 : decode cX3_init 79 = .ok (.newarray .int, 2) := by decide +kernel
theorem dX3_init_81 : decode cX3_init 81 = .ok (.putfield 41, 3) := by decide +kernel
theorem dX3_init_84 : decode cX3_init 84 = .ok (.aload_n 0, 1) := by decide +kernel
theorem dX3_init_85 : decode cX3_init 85 = .ok (.bipush 32, 2) := by decide +kernel
theorem dX3_init_87 : decode cX3_init 87 = .ok (.newarray .int, 2) := by decide +kernel
theorem dX3_init_89 : decode cX3_init 89 = .ok (.putfield 44, 3) := by decide +kernel
theorem dX3_init_92 : decode cX3_init 92 = .ok (.return_, 1) := by decide +kernel
theorem dX3_empty_0 : decode cX3_empty 0 = .ok (.aload_n 0, 1) := by decide +kernel
theorem dX3_empty_1 : decode cX3_empty 1 = .ok (.iconst 0, 1) := by decide +kernel
theorem dX3_empty_2 : decode cX3_empty 2 = .ok (.putfield 47, 3) := by decide +kernel
theorem dX3_empty_5 : decode cX3_empty 5 = .ok (.aload_n 0, 1) := by decide +kernel
theorem dX3_empty_6 : decode cX3_empty 6 = .ok (.iconst 0, 1) := by decide +kernel
theorem dX3_empty_7 : decode cX3_empty 7 = .ok (.putfield 51, 3) := by decide +kernel
theorem dX3_empty_10 : decode cX3_empty 10 = .ok (.aload_n 0, 1) := by decide +kernel
theorem dX3_empty_11 : decode cX3_empty 11 = .ok (.iconst 0, 1) := by decide +kernel
theorem dX3_empty_12 : decode cX3_empty 12 = .ok (.putfield 54, 3) := by decide +kernel
theorem dX3_empty_15 : decode cX3_empty 15 = .ok (.aload_n 0, 1) := by decide +kernel
theorem dX3_empty_16 : decode cX3_empty 16 = .ok (.iconst 0, 1) := by decide +kernel
theorem dX3_empty_17 : decode cX3_empty 17 = .ok (.putfield 57, 3) := by decide +kernel
theorem dX3_empty_20 : decode cX3_empty 20 = .ok (.aload_n 0, 1) := by decide +kernel
theorem dX3_empty_21 : decode cX3_empty 21 = .ok (.iconst 0, 1) := by decide +kernel
theorem dX3_empty_22 : decode cX3_empty 22 = .ok (.putfield 60, 3) := by decide +kernel
theorem dX3_empty_25 : decode cX3_empty 25 = .ok (.aload_n 0, 1) := by decide +kernel
theorem dX3_empty_26 : decode cX3_empty 26 = .ok (.iconst 0, 1) := by decide +kernel
theorem dX3_empty_27 : decode cX3_empty 27 = .ok (.bipush 10, 2) := by decide +kernel
theorem dX3_empty_29 : decode cX3_empty 29 = .ok (.invokevirtual 63, 3) := by decide +kernel
theorem dX3_empty_32 : decode cX3_empty 32 = .ok (.istore_n 1, 1) := by decide +kernel
theorem dX3_empty_33 : decode cX3_empty 33 = .ok (.aload_n 0, 1) := by decide +kernel
theorem dX3_empty_34 : decode cX3_empty 34 = .ok (.iconst 2, 1) := by decide +kernel
theorem dX3_empty_35 : decode cX3_empty 35 = .ok (.iconst 0, 1) := by decide +kernel
theorem dX3_empty_36 : decode cX3_empty 36 = .ok (.invokevirtual 63, 3) := by decide +kernel
theorem dX3_empty_39 : decode cX3_empty 39 = .ok (.pop, 1) := by decide +kernel
theorem dX3_empty_40 : decode cX3_empty 40 = .ok (.aload_n 0, 1) := by decide +kernel
theorem dX3_empty_41 : decode cX3_empty 41 = .ok (.getfield 35, 3) := by decide +kernel
theorem dX3_empty_44 : decode cX3_empty 44 = .ok (.iconst 0, 1) := by decide +kernel
theorem dX3_empty_45 : decode cX3_empty 45 = .ok (.aload_n 0, 1) := by decide +kernel
theorem dX3_empty_46 : decode cX3_empty 46 = .ok (.iconst 0, 1) := by decide +kernel
theorem dX3_empty_47 : decode cX3_empty 47 = .ok (.iconst 0, 1) := by decide +kernel
theorem dX3_empty_48 : decode cX3_empty 48 = .ok (.invokevirtual 63, 3) := by decide +kernel
theorem dX3_empty_51 : decode cX3_empty 51 = .ok (.iastore, 1) := by decide +kernel
theorem dX3_empty_52 : decode cX3_empty 52 = .ok (.aload_n 0, 1) := by decide +kernel
theorem dX3_empty_53 : decode cX3_empty 53 = .ok (.iconst 2, 1) := by decide +kernel
theorem dX3_empty_54 : decode cX3_empty 54 = .ok (.iconst 0, 1) := by decide +kernel
theorem dX3_empty_55 : decode cX3_empty 55 = .ok (.invokevirtual 63, 3) := by decide +kernel
theorem dX3_empty_58 : decode cX3_empty 58 = .ok (.pop, 1) := by decide +kernel
theorem dX3_empty_59 : decode cX3_empty 59 = .ok (.aload_n 0, 1) := by decide +kernel
theorem dX3_empty_60 : decode cX3_empty 60 = .ok (.getfield 38, 3) := by decide +kernel
theorem dX3_empty_63 : decode cX3_empty 63 = .ok (.iconst 0, 1) := by decide +kernel
theorem dX3_empty_64 : decode cX3_empty 64 = .ok (.aload_n 0, 1) := by decide +kernel
theorem dX3_empty_65 : decode cX3_empty 65 = .ok (.iconst 1, 1) := by decide +kernel
theorem dX3_empty_66 : decode cX3_empty 66 = .ok (.iconst 0, 1) := by decide +kernel
theorem dX3_empty_67 : decode cX3_empty 67 = .ok (.invokevirtual 63, 3) := by decide +kernel
theorem dX3_empty_70 : decode cX3_empty 70 = .ok (.iastore, 1) := by decide +kernel
theorem dX3_empty_71 : decode cX3_empty 71 = .ok (.aload_n 0, 1) := by decide +kernel
theorem dX3_empty_72 : decode cX3_empty 72 = .ok (.iconst 1, 1) := by decide +kernel
theorem dX3_empty_73 : decode cX3_empty 73 = .ok (.iconst 3, 1) := by decide +kernel
theorem dX3_empty_74 : decode cX3_empty 74 = .ok (.invokevirtual 63, 3) := by decide +kernel
theorem dX3_empty_77 : decode cX3_empty 77 = .ok (.pop, 1) := by decide +kernel
theorem dX3_empty_78 : decode cX3_empty 78 = .ok (.aload_n 0, 1) := by decide +kernel
theorem dX3_empty_79 : decode cX3_empty 79 = .ok (.bipush 45, 2) := by decide +kernel
theorem dX3_empty_81 : decode cX3_empty 81 = .ok (.iconst 0, 1) := by decide +kernel
theorem dX3_empty_82 : decode cX3_empty 82 = .ok (.invokevirtual 63, 3) := by decide +kernel
theorem dX3_empty_85 : decode cX3_empty 85 = .ok (.pop, 1) := by decide +kernel
theorem dX3_empty_86 : decode cX3_empty 86 = .ok (.aload_n 0, 1) := by decide +kernel
theorem dX3_empty_87 : decode cX3_empty 87 = .ok (.iconst 2, 1) := by decide +kernel
theorem dX3_empty_88 : decode cX3_empty 88 = .ok (.iconst 0, 1) := by decide +kernel
theorem dX3_empty_89 : decode cX3_empty 89 = .ok (.invokevirtual 63, 3) := by decide +kernel
theorem dX3_empty_92 : decode cX3_empty 92 = .ok (.pop, 1) := by decide +kernel
theorem dX3_empty_93 : decode cX3_empty 93 = .ok (.aload_n 0, 1) := by decide +kernel
theorem dX3_empty_94 : decode cX3_empty 94 = .ok (.iconst 1, 1) := by decide +kernel
theorem dX3_empty_95 : decode cX3_empty 95 = .ok (.iconst 0, 1) := by decide +kernel
theorem dX3_empty_96 : decode cX3_empty 96 = .ok (.invokevirtual 63, 3) := by decide +kernel
theorem dX3_empty_99 : decode cX3_empty 99 = .ok (.istore_n 2, 1) := by decide +kernel
theorem dX3_empty_100 : decode cX3_empty 100 = .ok (.aload_n 0, 1) := by decide +kernel
theorem dX3_empty_101 : decode cX3_empty 101 = .ok (.iconst 2, 1) := by decide +kernel
theorem dX3_empty_102 : decode cX3_empty 102 = .ok (.iconst 0, 1) := by decide +kernel
theorem dX3_empty_103 : decode cX3_empty 103 = .ok (.invokevirtual 63, 3) := by decide +kernel
theorem dX3_empty_106 : decode cX3_empty 106 = .ok (.pop, 1) := by decide +kernel
theorem dX3_empty_107 : decode cX3_empty 107 = .ok (.iconst 0, 1) := by decide +kernel
theorem dX3_empty_108 : decode cX3_empty 108 = .ok (.istore_n 3, 1) := by decide +kernel
theorem dX3_empty_109 : decode cX3_empty 109 = .ok (.iload_n 3, 1) := by decide +kernel
theorem dX3_empty_110 : decode cX3_empty 110 = .ok (.bipush 8, 2) := by decide +kernel
theorem dX3_empty_112 : decode cX3_empty 112 = .ok (.if_icmp .ge 23, 3) := by decide +kernel
theorem dX3_empty_115 : decode cX3_empty 115 = .ok (.aload_n 0, 1) := by decide +kernel
theorem dX3_empty_116 : decode cX3_empty 116 = .ok (.getfield 29, 3) := by decide +kernel
theorem dX3_empty_119 : decode cX3_empty 119 = .ok (.iload_n 3, 1) := by decide +kernel
theorem dX3_empty_120 : decode cX3_empty 120 = .ok (.iload_n 1, 1) := by decide +kernel
theorem dX3_empty_121 : decode cX3_empty 121 = .ok (.iastore, 1) := by decide +kernel
theorem dX3_empty_122 : decode cX3_empty 122 = .ok (.aload_n 0, 1) := by decide +kernel
theorem dX3_empty_123 : decode cX3_empty 123 = .ok (.getfield 32, 3) := by decide +kernel
theorem dX3_empty_126 : decode cX3_empty 126 = .ok (.iload_n 3, 1) := by decide +kernel
theorem dX3_empty_127 : decode cX3_empty 127 = .ok (.iload_n 2, 1) := by decide +kernel
theorem dX3_empty_128 : decode cX3_empty 128 = .ok (.iastore, 1) := by decide +kernel
theorem dX3_empty_129 : decode cX3_empty 129 = .ok (.iinc 3 1, 3) := by decide +kernel
theorem dX3_empty_132 : decode cX3_empty 132 = .ok (.goto (-23), 3) := by decide +kernel
theorem dX3_empty_135 : decode cX3_empty 135 = .ok (.return_, 1) := by decide +kernel
theorem dX3_emit_0 : decode cX3_emit 0 = .ok (.aload_n 0, 1) := by decide +kernel
theorem dX3_emit_1 : decode cX3_emit 1 = .ok (.getfield 47, 3) := by decide +kernel
theorem dX3_emit_4 : decode cX3_emit 4 = .ok (.sipush 416, 3) := by decide +kernel
theorem dX3_emit_7 : decode cX3_emit 7 = .ok (.if_icmp .lt 5, 3) := by decide +kernel
theorem dX3_emit_10 : decode cX3_emit 10 = .ok (.iconst 0, 1) := by decide +kernel
theorem dX3_emit_11 : decode cX3_emit 11 = .ok (.ireturn, 1) := by decide +kernel
theorem dX3_emit_12 : decode cX3_emit 12 = .ok (.aload_n 0, 1) := by decide +kernel
theorem dX3_emit_13 : decode cX3_emit 13 = .ok (.getfield 13, 3) := by decide +kernel
theorem dX3_emit_16 : decode cX3_emit 16 = .ok (.aload_n 0, 1) := by decide +kernel
theorem dX3_emit_17 : decode cX3_emit 17 = .ok (.getfield 47, 3) := by decide +kernel
theorem dX3_emit_20 : decode cX3_emit 20 = .ok (.iload_n 1, 1) := by decide +kernel
theorem dX3_emit_21 : decode cX3_emit 21 = .ok (.iastore, 1) := by decide +kernel
theorem dX3_emit_22 : decode cX3_emit 22 = .ok (.aload_n 0, 1) := by decide +kernel
theorem dX3_emit_23 : decode cX3_emit 23 = .ok (.getfield 17, 3) := by decide +kernel
theorem dX3_emit_26 : decode cX3_emit 26 = .ok (.aload_n 0, 1) := by decide +kernel
theorem dX3_emit_27 : decode cX3_emit 27 = .ok (.getfield 47, 3) := by decide +kernel
theorem dX3_emit_30 : decode cX3_emit 30 = .ok (.iload_n 2, 1) := by decide +kernel
theorem dX3_emit_31 : decode cX3_emit 31 = .ok (.iastore, 1) := by decide +kernel
theorem dX3_emit_32 : decode cX3_emit 32 = .ok (.aload_n 0, 1) := by decide +kernel
theorem dX3_emit_33 : decode cX3_emit 33 = .ok (.dup, 1) := by decide +kernel
theorem dX3_emit_34 : decode cX3_emit 34 = .ok (.getfield 47, 3) := by decide +kernel
theorem dX3_emit_37 : decode cX3_emit 37 = .ok (.iconst 1, 1) := by decide +kernel
theorem dX3_emit_38 : decode cX3_emit 38 = .ok (.iadd, 1) := by decide +kernel
theorem dX3_emit_39 : decode cX3_emit 39 = .ok (.putfield 47, 3) := by decide +kernel
theorem dX3_emit_42 : decode cX3_emit 42 = .ok (.aload_n 0, 1) := by decide +kernel
theorem dX3_emit_43 : decode cX3_emit 43 = .ok (.getfield 47, 3) := by decide +kernel
theorem dX3_emit_46 : decode cX3_emit 46 = .ok (.iconst 1, 1) := by decide +kernel
theorem dX3_emit_47 : decode cX3_emit 47 = .ok (.isub, 1) := by decide +kernel
theorem dX3_emit_48 : decode cX3_emit 48 = .ok (.ireturn, 1) := by decide +kernel
theorem dX3_see_0 : decode cX3_see 0 = .ok (.aload_n 0, 1) := by decide +kernel
theorem dX3_see_1 : decode cX3_see 1 = .ok (.getfield 41, 3) := by decide +kernel
theorem dX3_see_4 : decode cX3_see 4 = .ok (.iconst 0, 1) := by decide +kernel
theorem dX3_see_5 : decode cX3_see 5 = .ok (.iload_n 1, 1) := by decide +kernel
theorem dX3_see_6 : decode cX3_see 6 = .ok (.iastore, 1) := by decide +kernel
theorem dX3_see_7 : decode cX3_see 7 = .ok (.aload_n 0, 1) := by decide +kernel
theorem dX3_see_8 : decode cX3_see 8 = .ok (.getfield 41, 3) := by decide +kernel
theorem dX3_see_11 : decode cX3_see 11 = .ok (.iconst 1, 1) := by decide +kernel
theorem dX3_see_12 : decode cX3_see 12 = .ok (.iload_n 2, 1) := by decide +kernel
theorem dX3_see_13 : decode cX3_see 13 = .ok (.iastore, 1) := by decide +kernel
theorem dX3_see_14 : decode cX3_see 14 = .ok (.aload_n 0, 1) := by decide +kernel
theorem dX3_see_15 : decode cX3_see 15 = .ok (.getfield 41, 3) := by decide +kernel
theorem dX3_see_18 : decode cX3_see 18 = .ok (.iconst 2, 1) := by decide +kernel
theorem dX3_see_19 : decode cX3_see 19 = .ok (.iload_n 3, 1) := by decide +kernel
theorem dX3_see_20 : decode cX3_see 20 = .ok (.iastore, 1) := by decide +kernel
theorem dX3_see_21 : decode cX3_see 21 = .ok (.aload_n 0, 1) := by decide +kernel
theorem dX3_see_22 : decode cX3_see 22 = .ok (.getfield 41, 3) := by decide +kernel
theorem dX3_see_25 : decode cX3_see 25 = .ok (.iconst 3, 1) := by decide +kernel
theorem dX3_see_26 : decode cX3_see 26 = .ok (.aload_n 0, 1) := by decide +kernel
theorem dX3_see_27 : decode cX3_see 27 = .ok (.getfield 57, 3) := by decide +kernel
theorem dX3_see_30 : decode cX3_see 30 = .ok (.ifCond .le 17, 3) := by decide +kernel
theorem dX3_see_33 : decode cX3_see 33 = .ok (.aload_n 0, 1) := by decide +kernel
theorem dX3_see_34 : decode cX3_see 34 = .ok (.getfield 26, 3) := by decide +kernel
theorem dX3_see_37 : decode cX3_see 37 = .ok (.iload_n 3, 1) := by decide +kernel
theorem dX3_see_38 : decode cX3_see 38 = .ok (.aload_n 0, 1) := by decide +kernel
theorem dX3_see_39 : decode cX3_see 39 = .ok (.getfield 57, 3) := by decide +kernel
theorem dX3_see_42 : decode cX3_see 42 = .ok (.irem, 1) := by decide +kernel
theorem dX3_see_43 : decode cX3_see 43 = .ok (.iaload, 1) := by decide +kernel
theorem dX3_see_44 : decode cX3_see 44 = .ok (.goto 4, 3) := by decide +kernel
theorem dX3_see_47 : decode cX3_see 47 = .ok (.iconst 0, 1) := by decide +kernel
theorem dX3_see_48 : decode cX3_see 48 = .ok (.iastore, 1) := by decide +kernel
theorem dX3_see_49 : decode cX3_see 49 = .ok (.aload_n 0, 1) := by decide +kernel
theorem dX3_see_50 : decode cX3_see 50 = .ok (.getfield 41, 3) := by decide +kernel
theorem dX3_see_53 : decode cX3_see 53 = .ok (.iconst 4, 1) := by decide +kernel
theorem dX3_see_54 : decode cX3_see 54 = .ok (.iload 4, 2) := by decide +kernel
theorem dX3_see_56 : decode cX3_see 56 = .ok (.iastore, 1) := by decide +kernel
theorem dX3_see_57 : decode cX3_see 57 = .ok (.aload_n 0, 1) := by decide +kernel
theorem dX3_see_58 : decode cX3_see 58 = .ok (.getfield 41, 3) := by decide +kernel
theorem dX3_see_61 : decode cX3_see 61 = .ok (.iconst 5, 1) := by decide +kernel
theorem dX3_see_62 : decode cX3_see 62 = .ok (.iload 5, 2) := by decide +kernel
theorem dX3_see_64 : decode cX3_see 64 = .ok (.iastore, 1) := by decide +kernel
theorem dX3_see_65 : decode cX3_see 65 = .ok (.return_, 1) := by decide +kernel
theorem dX3_worth_0 : decode cX3_worth 0 = .ok (.iconst 0, 1) := by decide +kernel
theorem dX3_worth_1 : decode cX3_worth 1 = .ok (.istore_n 2, 1) := by decide +kernel
theorem dX3_worth_2 : decode cX3_worth 2 = .ok (.iload_n 1, 1) := by decide +kernel
theorem dX3_worth_3 : decode cX3_worth 3 = .ok (.istore_n 3, 1) := by decide +kernel
theorem dX3_worth_4 : decode cX3_worth 4 = .ok (.iload_n 1, 1) := by decide +kernel
theorem dX3_worth_5 : decode cX3_worth 5 = .ok (.istore 4, 2) := by decide +kernel
theorem dX3_worth_7 : decode cX3_worth 7 = .ok (.iload 4, 2) := by decide +kernel
theorem dX3_worth_9 : decode cX3_worth 9 = .ok (.aload_n 0, 1) := by decide +kernel
theorem dX3_worth_10 : decode cX3_worth 10 = .ok (.getfield 47, 3) := by decide +kernel
theorem dX3_worth_13 : decode cX3_worth 13 = .ok (.if_icmp .ge 199, 3) := by decide +kernel
theorem dX3_worth_16 : decode cX3_worth 16 = .ok (.iload 4, 2) := by decide +kernel
theorem dX3_worth_18 : decode cX3_worth 18 = .ok (.iload_n 3, 1) := by decide +kernel
theorem dX3_worth_19 : decode cX3_worth 19 = .ok (.if_icmp .ge 6, 3) := by decide +kernel
theorem dX3_worth_22 : decode cX3_worth 22 = .ok (.goto 184, 3) := by decide +kernel
theorem dX3_worth_25 : decode cX3_worth 25 = .ok (.aload_n 0, 1) := by decide +kernel
theorem dX3_worth_26 : decode cX3_worth 26 = .ok (.getfield 13, 3) := by decide +kernel
theorem dX3_worth_29 : decode cX3_worth 29 = .ok (.iload 4, 2) := by decide +kernel
theorem dX3_worth_31 : decode cX3_worth 31 = .ok (.iaload, 1) := by decide +kernel
theorem dX3_worth_32 : decode cX3_worth 32 = .ok (.istore 5, 2) := by decide +kernel
theorem dX3_worth_34 : decode cX3_worth 34 = .ok (.iload 5, 2) := by decide +kernel
theorem dX3_worth_36 : decode cX3_worth 36 = .ok (.ifCond .eq 9, 3) := by decide +kernel
theorem dX3_worth_39 : decode cX3_worth 39 = .ok (.iload 5, 2) := by decide +kernel
theorem dX3_worth_41 : decode cX3_worth 41 = .ok (.iconst 1, 1) := by decide +kernel
theorem dX3_worth_42 : decode cX3_worth 42 = .ok (.if_icmp .ne 53, 3) := by decide +kernel
theorem dX3_worth_45 : decode cX3_worth 45 = .ok (.iload_n 2, 1) := by decide +kernel
theorem dX3_worth_46 : decode cX3_worth 46 = .ok (.aload_n 0, 1) := by decide +kernel
theorem dX3_worth_47 : decode cX3_worth 47 = .ok (.getfield 44, 3) := by decide +kernel
theorem dX3_worth_50 : decode cX3_worth 50 = .ok (.arraylength, 1) := by decide +kernel
theorem dX3_worth_51 : decode cX3_worth 51 = .ok (.if_icmp .lt 5, 3) := by decide +kernel
theorem dX3_worth_54 : decode cX3_worth 54 = .ok (.iconst 0, 1) := by decide +kernel
theorem dX3_worth_55 : decode cX3_worth 55 = .ok (.ireturn, 1) := by decide +kernel
theorem dX3_worth_56 : decode cX3_worth 56 = .ok (.aload_n 0, 1) := by decide +kernel
theorem dX3_worth_57 : decode cX3_worth 57 = .ok (.getfield 44, 3) := by decide +kernel
theorem dX3_worth_60 : decode cX3_worth 60 = .ok (.iload_n 2, 1) := by decide +kernel
theorem dX3_worth_61 : decode cX3_worth 61 = .ok (.iload 5, 2) := by decide +kernel
theorem dX3_worth_63 : decode cX3_worth 63 = .ok (.ifCond .ne 13, 3) := by decide +kernel
theorem dX3_worth_66 : decode cX3_worth 66 = .ok (.aload_n 0, 1) := by decide +kernel
theorem dX3_worth_67 : decode cX3_worth 67 = .ok (.getfield 17, 3) := by decide +kernel
theorem dX3_worth_70 : decode cX3_worth 70 = .ok (.iload 4, 2) := by decide +kernel
theorem dX3_worth_72 : decode cX3_worth 72 = .ok (.iaload, 1) := by decide +kernel
theorem dX3_worth_73 : decode cX3_worth 73 = .ok (.goto 15, 3) := by decide +kernel
theorem dX3_worth_76 : decode cX3_worth 76 = .ok (.aload_n 0, 1) := by decide +kernel
theorem dX3_worth_77 : decode cX3_worth 77 = .ok (.getfield 41, 3) := by decide +kernel
theorem dX3_worth_80 : decode cX3_worth 80 = .ok (.aload_n 0, 1) := by decide +kernel
theorem dX3_worth_81 : decode cX3_worth 81 = .ok (.getfield 17, 3) := by decide +kernel
theorem dX3_worth_84 : decode cX3_worth 84 = .ok (.iload 4, 2) := by decide +kernel
theorem dX3_worth_86 : decode cX3_worth 86 = .ok (.iaload, 1) := by decide +kernel
theorem dX3_worth_87 : decode cX3_worth 87 = .ok (.iaload, 1) := by decide +kernel
theorem dX3_worth_88 : decode cX3_worth 88 = .ok (.iastore, 1) := by decide +kernel
theorem dX3_worth_89 : decode cX3_worth 89 = .ok (.iinc 2 1, 3) := by decide +kernel
theorem dX3_worth_92 : decode cX3_worth 92 = .ok (.goto 114, 3) := by decide +kernel
theorem dX3_worth_95 : decode cX3_worth 95 = .ok (.iload 5, 2) := by decide +kernel
theorem dX3_worth_97 : decode cX3_worth 97 = .ok (.iconst 2, 1) := by decide +kernel
theorem dX3_worth_98 : decode cX3_worth 98 = .ok (.if_icmp .ne 20, 3) := by decide +kernel
theorem dX3_worth_101 : decode cX3_worth 101 = .ok (.iload_n 2, 1) := by decide +kernel
theorem dX3_worth_102 : decode cX3_worth 102 = .ok (.ifCond .le 14, 3) := by decide +kernel
theorem dX3_worth_105 : decode cX3_worth 105 = .ok (.aload_n 0, 1) := by decide +kernel
theorem dX3_worth_106 : decode cX3_worth 106 = .ok (.getfield 44, 3) := by decide +kernel
theorem dX3_worth_109 : decode cX3_worth 109 = .ok (.iload_n 2, 1) := by decide +kernel
theorem dX3_worth_110 : decode cX3_worth 110 = .ok (.iconst 1, 1) := by decide +kernel
theorem dX3_worth_111 : decode cX3_worth 111 = .ok (.isub, 1) := by decide +kernel
theorem dX3_worth_112 : decode cX3_worth 112 = .ok (.iaload, 1) := by decide +kernel
theorem dX3_worth_113 : decode cX3_worth 113 = .ok (.goto 4, 3) := by decide +kernel
theorem dX3_worth_116 : decode cX3_worth 116 = .ok (.iconst 0, 1) := by decide +kernel
theorem dX3_worth_117 : decode cX3_worth 117 = .ok (.ireturn, 1) := by decide +kernel
theorem dX3_worth_118 : decode cX3_worth 118 = .ok (.iload_n 2, 1) := by decide +kernel
theorem dX3_worth_119 : decode cX3_worth 119 = .ok (.iconst 2, 1) := by decide +kernel
theorem dX3_worth_120 : decode cX3_worth 120 = .ok (.if_icmp .ge 5, 3) := by decide +kernel
theorem dX3_worth_123 : decode cX3_worth 123 = .ok (.iconst 0, 1) := by decide +kernel
theorem dX3_worth_124 : decode cX3_worth 124 = .ok (.ireturn, 1) := by decide +kernel
theorem dX3_worth_125 : decode cX3_worth 125 = .ok (.iinc 2 (-2), 3) := by decide +kernel
theorem dX3_worth_128 : decode cX3_worth 128 = .ok (.aload_n 0, 1) := by decide +kernel
theorem dX3_worth_129 : decode cX3_worth 129 = .ok (.getfield 44, 3) := by decide +kernel
theorem dX3_worth_132 : decode cX3_worth 132 = .ok (.iload_n 2, 1) := by decide +kernel
theorem dX3_worth_133 : decode cX3_worth 133 = .ok (.iaload, 1) := by decide +kernel
theorem dX3_worth_134 : decode cX3_worth 134 = .ok (.istore 6, 2) := by decide +kernel
theorem dX3_worth_136 : decode cX3_worth 136 = .ok (.aload_n 0, 1) := by decide +kernel
theorem dX3_worth_137 : decode cX3_worth 137 = .ok (.getfield 44, 3) := by decide +kernel
theorem dX3_worth_140 : decode cX3_worth 140 = .ok (.iload_n 2, 1) := by decide +kernel
theorem dX3_worth_141 : decode cX3_worth 141 = .ok (.iconst 1, 1) := by decide +kernel
theorem dX3_worth_142 : decode cX3_worth 142 = .ok (.iadd, 1) := by decide +kernel
theorem dX3_worth_143 : decode cX3_worth 143 = .ok (.iaload, 1) := by decide +kernel
theorem dX3_worth_144 : decode cX3_worth 144 = .ok (.istore 7, 2) := by decide +kernel
theorem dX3_worth_146 : decode cX3_worth 146 = .ok (.iload 5, 2) := by decide +kernel
theorem dX3_worth_148 : decode cX3_worth 148 = .ok (.iconst 3, 1) := by decide +kernel
theorem dX3_worth_149 : decode cX3_worth 149 = .ok (.if_icmp .ne 25, 3) := by decide +kernel
theorem dX3_worth_152 : decode cX3_worth 152 = .ok (.iload 6, 2) := by decide +kernel
theorem dX3_worth_154 : decode cX3_worth 154 = .ok (.iload 7, 2) := by decide +kernel
theorem dX3_worth_156 : decode cX3_worth 156 = .ok (.if_icmp .ge 7, 3) := by decide +kernel
theorem dX3_worth_159 : decode cX3_worth 159 = .ok (.iload_n 3, 1) := by decide +kernel
theorem dX3_worth_160 : decode cX3_worth 160 = .ok (.goto 10, 3) := by decide +kernel
theorem dX3_worth_163 : decode cX3_worth 163 = .ok (.aload_n 0, 1) := by decide +kernel
theorem dX3_worth_164 : decode cX3_worth 164 = .ok (.getfield 17, 3) := by decide +kernel
theorem dX3_worth_167 : decode cX3_worth 167 = .ok (.iload 4, 2) := by decide +kernel
theorem dX3_worth_169 : decode cX3_worth 169 = .ok (.iaload, 1) := by decide +kernel
theorem dX3_worth_170 : decode cX3_worth 170 = .ok (.istore_n 3, 1) := by decide +kernel
theorem dX3_worth_171 : decode cX3_worth 171 = .ok (.goto 35, 3) := by decide +kernel
theorem dX3_worth_174 : decode cX3_worth 174 = .ok (.iload 5, 2) := by decide +kernel
theorem dX3_worth_176 : decode cX3_worth 176 = .ok (.bipush 47, 2) := by decide +kernel
theorem dX3_worth_178 : decode cX3_worth 178 = .ok (.if_icmp .ne 10, 3) := by decide +kernel
theorem dX3_worth_181 : decode cX3_worth 181 = .ok (.iload 7, 2) := by decide +kernel
theorem dX3_worth_183 : decode cX3_worth 183 = .ok (.ifCond .ne 5, 3) := by decide +kernel
theorem dX3_worth_186 : decode cX3_worth 186 = .ok (.iconst 0, 1) := by decide +kernel
theorem dX3_worth_187 : decode cX3_worth 187 = .ok (.ireturn, 1) := by decide +kernel
theorem dX3_worth_188 : decode cX3_worth 188 = .ok (.aload_n 0, 1) := by decide +kernel
theorem dX3_worth_189 : decode cX3_worth 189 = .ok (.getfield 44, 3) := by decide +kernel
theorem dX3_worth_192 : decode cX3_worth 192 = .ok (.iload_n 2, 1) := by decide +kernel
theorem dX3_worth_193 : decode cX3_worth 193 = .ok (.iload 5, 2) := by decide +kernel
theorem dX3_worth_195 : decode cX3_worth 195 = .ok (.iload 6, 2) := by decide +kernel
theorem dX3_worth_197 : decode cX3_worth 197 = .ok (.iload 7, 2) := by decide +kernel
theorem dX3_worth_199 : decode cX3_worth 199 = .ok (.invokestatic 67, 3) := by decide +kernel
theorem dX3_worth_202 : decode cX3_worth 202 = .ok (.iastore, 1) := by decide +kernel
theorem dX3_worth_203 : decode cX3_worth 203 = .ok (.iinc 2 1, 3) := by decide +kernel
theorem dX3_worth_206 : decode cX3_worth 206 = .ok (.iinc 4 1, 3) := by decide +kernel
theorem dX3_worth_209 : decode cX3_worth 209 = .ok (.goto (-202), 3) := by decide +kernel
theorem dX3_worth_212 : decode cX3_worth 212 = .ok (.iconst 0, 1) := by decide +kernel
theorem dX3_worth_213 : decode cX3_worth 213 = .ok (.ireturn, 1) := by decide +kernel
theorem dX3_reckon_0 : decode cX3_reckon 0 = .ok (.iload_n 0, 1) := by decide +kernel
theorem dX3_reckon_1 : decode cX3_reckon 1 = .ok (.tableswitch 63 42 47 #[47, 39, 63, 43, 63, 51], 39) := by decide +kernel
theorem dX3_reckon_40 : decode cX3_reckon 40 = .ok (.iload_n 1, 1) := by decide +kernel
theorem dX3_reckon_41 : decode cX3_reckon 41 = .ok (.iload_n 2, 1) := by decide +kernel
theorem dX3_reckon_42 : decode cX3_reckon 42 = .ok (.iadd, 1) := by decide +kernel
theorem dX3_reckon_43 : decode cX3_reckon 43 = .ok (.ireturn, 1) := by decide +kernel
theorem dX3_reckon_44 : decode cX3_reckon 44 = .ok (.iload_n 1, 1) := by decide +kernel
theorem dX3_reckon_45 : decode cX3_reckon 45 = .ok (.iload_n 2, 1) := by decide +kernel
theorem dX3_reckon_46 : decode cX3_reckon 46 = .ok (.isub, 1) := by decide +kernel
theorem dX3_reckon_47 : decode cX3_reckon 47 = .ok (.ireturn, 1) := by decide +kernel
theorem dX3_reckon_48 : decode cX3_reckon 48 = .ok (.iload_n 1, 1) := by decide +kernel
theorem dX3_reckon_49 : decode cX3_reckon 49 = .ok (.iload_n 2, 1) := by decide +kernel
theorem dX3_reckon_50 : decode cX3_reckon 50 = .ok (.imul, 1) := by decide +kernel
theorem dX3_reckon_51 : decode cX3_reckon 51 = .ok (.ireturn, 1) := by decide +kernel
theorem dX3_reckon_52 : decode cX3_reckon 52 = .ok (.iload_n 2, 1) := by decide +kernel
theorem dX3_reckon_53 : decode cX3_reckon 53 = .ok (.ifCond .ne 7, 3) := by decide +kernel
theorem dX3_reckon_56 : decode cX3_reckon 56 = .ok (.iconst 0, 1) := by decide +kernel
theorem dX3_reckon_57 : decode cX3_reckon 57 = .ok (.goto 6, 3) := by decide +kernel
theorem dX3_reckon_60 : decode cX3_reckon 60 = .ok (.iload_n 1, 1) := by decide +kernel
theorem dX3_reckon_61 : decode cX3_reckon 61 = .ok (.iload_n 2, 1) := by decide +kernel
theorem dX3_reckon_62 : decode cX3_reckon 62 = .ok (.idiv, 1) := by decide +kernel
theorem dX3_reckon_63 : decode cX3_reckon 63 = .ok (.ireturn, 1) := by decide +kernel
theorem dX3_reckon_64 : decode cX3_reckon 64 = .ok (.iconst 0, 1) := by decide +kernel
theorem dX3_reckon_65 : decode cX3_reckon 65 = .ok (.ireturn, 1) := by decide +kernel
theorem dX4_init_0 : decode cX4_init 0 = .ok (.aload_n 0, 1) := by decide +kernel
theorem dX4_init_1 : decode cX4_init 1 = .ok (.invokespecial 3, 3) := by decide +kernel
theorem dX4_init_4 : decode cX4_init 4 = .ok (.aload_n 0, 1) := by decide +kernel
theorem dX4_init_5 : decode cX4_init 5 = .ok (.bipush 64, 2) := by decide +kernel
theorem dX4_init_7 : decode cX4_init 7 = .ok (.newarray .int, 2) := by decide +kernel
theorem dX4_init_9 : decode cX4_init 9 = .ok (.putfield 9, 3) := by decide +kernel
theorem dX4_init_12 : decode cX4_init 12 = .ok (.aload_n 0, 1) := by decide +kernel
theorem dX4_init_13 : decode cX4_init 13 = .ok (.bipush 8, 2) := by decide +kernel
theorem dX4_init_15 : decode cX4_init 15 = .ok (.newarray .int, 2) := by decide +kernel
theorem dX4_init_17 : decode cX4_init 17 = .ok (.putfield 15, 3) := by decide +kernel
theorem dX4_init_20 : decode cX4_init 20 = .ok (.aload_n 0, 1) := by decide +kernel
theorem dX4_init_21 : decode cX4_init 21 = .ok (.bipush 9, 2) := by decide +kernel
theorem dX4_init_23 : decode cX4_init 23 = .ok (.sipush 401, 3) := by decide +kernel
theorem dX4_init_26 : decode cX4_init 26 = .ok (.multianewarray 18 2, 4) := by decide +kernel
theorem dX4_init_30 : decode cX4_init 30 = .ok (.putfield 20, 3) := by decide +kernel
theorem dX4_init_33 : decode cX4_init 33 = .ok (.aload_n 0, 1) := by decide +kernel
theorem dX4_init_34 : decode cX4_init 34 = .ok (.sipush 256, 3) := by decide +kernel
theorem dX4_init_37 : decode cX4_init 37 = .ok (.newarray .int, 2) := by decide +kernel
theorem dX4_init_39 : decode cX4_init 39 = .ok (.putfield 23, 3) := by decide +kernel
theorem dX4_init_42 : decode cX4_init 42 = .ok (.aload_n 0, 1) := by decide +kernel
theorem dX4_init_43 : decode cX4_init 43 = .ok (.sipush 256, 3) := by decide +kernel
theorem dX4_init_46 : decode cX4_init 46 = .ok (.newarray .int, 2) := by decide +kernel
theorem dX4_init_48 : decode cX4_init 48 = .ok (.putfield 26, 3) := by decide +kernel
theorem dX4_init_51 : decode cX4_init 51 = .ok (.aload_n 0, 1) := by decide +kernel
theorem dX4_init_52 : decode cX4_init 52 = .ok (.sipush 401, 3) := by decide +kernel
theorem dX4_init_55 : decode cX4_init 55 = .ok (.newarray .int, 2) := by decide +kernel
theorem dX4_init_57 : decode cX4_init 57 = .ok (.putfield 29, 3) := by decide +kernel
theorem dX4_init_60 : decode cX4_init 60 = .ok (.aload_n 0, 1) := by decide +kernel
theorem dX4_init_61 : decode cX4_init 61 = .ok (.sipush 401, 3) := by decide +kernel
theorem dX4_init_64 : decode cX4_init 64 = .ok (.newarray .int, 2) := by decide +kernel
theorem dX4_init_66 : decode cX4_init 66 = .ok (.putfield 32, 3) := by decide +kernel
theorem dX4_init_69 : decode cX4_init 69 = .ok (.aload_n 0, 1) := by decide +kernel
theorem dX4_init_70 : decode cX4_init 70 = .ok (.bipush 8, 2) := by decide +kernel
theorem dX4_init_72 : decode cX4_init 72 = .ok (.newarray .int, 2) := by decide +kernel
theorem dX4_init_74 : decode cX4_init 74 = .ok (.putfield 35, 3) := by decide +kernel
theorem dX4_init_77 : decode cX4_init 77 = .ok (.return_, 1) := by decide +kernel
theorem dX4_sew_0 : decode cX4_sew 0 = .ok (.aload_n 0, 1) := by decide +kernel
theorem dX4_sew_1 : decode cX4_sew 1 = .ok (.aload_n 1, 1) := by decide +kernel
theorem dX4_sew_2 : decode cX4_sew 2 = .ok (.invokevirtual 38, 3) := by decide +kernel
theorem dX4_sew_5 : decode cX4_sew 5 = .ok (.iconst 0, 1) := by decide +kernel
theorem dX4_sew_6 : decode cX4_sew 6 = .ok (.istore_n 3, 1) := by decide +kernel
theorem dX4_sew_7 : decode cX4_sew 7 = .ok (.iload_n 3, 1) := by decide +kernel
theorem dX4_sew_8 : decode cX4_sew 8 = .ok (.iload_n 2, 1) := by decide +kernel
theorem dX4_sew_9 : decode cX4_sew 9 = .ok (.if_icmp .gt 30, 3) := by decide +kernel
theorem dX4_sew_12 : decode cX4_sew 12 = .ok (.aload_n 0, 1) := by decide +kernel
theorem dX4_sew_13 : decode cX4_sew 13 = .ok (.getfield 20, 3) := by decide +kernel
theorem dX4_sew_16 : decode cX4_sew 16 = .ok (.aload_n 1, 1) := by decide +kernel
theorem dX4_sew_17 : decode cX4_sew 17 = .ok (.getfield 42, 3) := by decide +kernel
theorem dX4_sew_20 : decode cX4_sew 20 = .ok (.aaload, 1) := by decide +kernel
theorem dX4_sew_21 : decode cX4_sew 21 = .ok (.iload_n 3, 1) := by decide +kernel
theorem dX4_sew_22 : decode cX4_sew 22 = .ok (.iload_n 3, 1) := by decide +kernel
theorem dX4_sew_23 : decode cX4_sew 23 = .ok (.ifCond .ne 7, 3) := by decide +kernel
theorem dX4_sew_26 : decode cX4_sew 26 = .ok (.iconst 0, 1) := by decide +kernel
theorem dX4_sew_27 : decode cX4_sew 27 = .ok (.goto 5, 3) := by decide +kernel
theorem dX4_sew_30 : decode cX4_sew 30 = .ok (.ldc 48, 2) := by decide +kernel
theorem dX4_sew_32 : decode cX4_sew 32 = .ok (.iastore, 1) := by decide +kernel
theorem dX4_sew_33 : decode cX4_sew 33 = .ok (.iinc 3 1, 3) := by decide +kernel
theorem dX4_sew_36 : decode cX4_sew 36 = .ok (.goto (-29), 3) := by decide +kernel
theorem dX4_sew_39 : decode cX4_sew 39 = .ok (.aload_n 1, 1) := by decide +kernel
theorem dX4_sew_40 : decode cX4_sew 40 = .ok (.getfield 42, 3) := by decide +kernel
theorem dX4_sew_43 : decode cX4_sew 43 = .ok (.iconst 1, 1) := by decide +kernel
theorem dX4_sew_44 : decode cX4_sew 44 = .ok (.isub, 1) := by decide +kernel
theorem dX4_sew_45 : decode cX4_sew 45 = .ok (.istore_n 3, 1) := by decide +kernel
theorem dX4_sew_46 : decode cX4_sew 46 = .ok (.iload_n 3, 1) := by decide +kernel
theorem dX4_sew_47 : decode cX4_sew 47 = .ok (.ifCond .lt 64, 3) := by decide +kernel
theorem dX4_sew_50 : decode cX4_sew 50 = .ok (.aload_n 0, 1) := by decide +kernel
theorem dX4_sew_51 : decode cX4_sew 51 = .ok (.iload_n 3, 1) := by decide +kernel
theorem dX4_sew_52 : decode cX4_sew 52 = .ok (.aload_n 1, 1) := by decide +kernel
theorem dX4_sew_53 : decode cX4_sew 53 = .ok (.getfield 49, 3) := by decide +kernel
theorem dX4_sew_56 : decode cX4_sew 56 = .ok (.invokevirtual 52, 3) := by decide +kernel
theorem dX4_sew_59 : decode cX4_sew 59 = .ok (.aload_n 0, 1) := by decide +kernel
theorem dX4_sew_60 : decode cX4_sew 60 = .ok (.iload_n 2, 1) := by decide +kernel
theorem dX4_sew_61 : decode cX4_sew 61 = .ok (.iconst 1, 1) := by decide +kernel
theorem dX4_sew_62 : decode cX4_sew 62 = .ok (.aload_n 1, 1) := by decide +kernel
theorem dX4_sew_63 : decode cX4_sew 63 = .ok (.getfield 49, 3) := by decide +kernel
theorem dX4_sew_66 : decode cX4_sew 66 = .ok (.ishl, 1) := by decide +kernel
theorem dX4_sew_67 : decode cX4_sew 67 = .ok (.invokevirtual 56, 3) := by decide +kernel
theorem dX4_sew_70 : decode cX4_sew 70 = .ok (.istore 4, 2) := by decide +kernel
theorem dX4_sew_72 : decode cX4_sew 72 = .ok (.iconst 0, 1) := by decide +kernel
theorem dX4_sew_73 : decode cX4_sew 73 = .ok (.istore 5, 2) := by decide +kernel
theorem dX4_sew_75 : decode cX4_sew 75 = .ok (.iload 5, 2) := by decide +kernel
theorem dX4_sew_77 : decode cX4_sew 77 = .ok (.iload_n 2, 1) := by decide +kernel
theorem dX4_sew_78 : decode cX4_sew 78 = .ok (.if_icmp .gt 27, 3) := by decide +kernel
theorem dX4_sew_81 : decode cX4_sew 81 = .ok (.aload_n 0, 1) := by decide +kernel
theorem dX4_sew_82 : decode cX4_sew 82 = .ok (.getfield 20, 3) := by decide +kernel
theorem dX4_sew_85 : decode cX4_sew 85 = .ok (.iload_n 3, 1) := by decide +kernel
theorem dX4_sew_86 : decode cX4_sew 86 = .ok (.aaload, 1) := by decide +kernel
theorem dX4_sew_87 : decode cX4_sew 87 = .ok (.iload 5, 2) := by decide +kernel
theorem dX4_sew_89 : decode cX4_sew 89 = .ok (.aload_n 0, 1) := by decide +kernel
theorem dX4_sew_90 : decode cX4_sew 90 = .ok (.iload_n 3, 1) := by decide +kernel
theorem dX4_sew_91 : decode cX4_sew 91 = .ok (.iload 5, 2) := by decide +kernel
theorem dX4_sew_93 : decode cX4_sew 93 = .ok (.iload 4, 2) := by decide +kernel
theorem dX4_sew_95 : decode cX4_sew 95 = .ok (.invokevirtual 60, 3) := by decide +kernel
theorem dX4_sew_98 : decode cX4_sew 98 = .ok (.iastore, 1) := by decide +kernel
theorem dX4_sew_99 : decode cX4_sew 99 = .ok (.iinc 5 1, 3) := by decide +kernel
theorem dX4_sew_102 : decode cX4_sew 102 = .ok (.goto (-27), 3) := by decide +kernel
theorem dX4_sew_105 : decode cX4_sew 105 = .ok (.iinc 3 (-1), 3) := by decide +kernel
theorem dX4_sew_108 : decode cX4_sew 108 = .ok (.goto (-62), 3) := by decide +kernel
theorem dX4_sew_111 : decode cX4_sew 111 = .ok (.aload_n 0, 1) := by decide +kernel
theorem dX4_sew_112 : decode cX4_sew 112 = .ok (.aload_n 0, 1) := by decide +kernel
theorem dX4_sew_113 : decode cX4_sew 113 = .ok (.getfield 20, 3) := by decide +kernel
theorem dX4_sew_116 : decode cX4_sew 116 = .ok (.iconst 0, 1) := by decide +kernel
theorem dX4_sew_117 : decode cX4_sew 117 = .ok (.aaload, 1) := by decide +kernel
theorem dX4_sew_118 : decode cX4_sew 118 = .ok (.iload_n 2, 1) := by decide +kernel
theorem dX4_sew_119 : decode cX4_sew 119 = .ok (.iaload, 1) := by decide +kernel
theorem dX4_sew_120 : decode cX4_sew 120 = .ok (.putfield 64, 3) := by decide +kernel
theorem dX4_sew_123 : decode cX4_sew 123 = .ok (.aload_n 0, 1) := by decide +kernel
theorem dX4_sew_124 : decode cX4_sew 124 = .ok (.getfield 64, 3) := by decide +kernel
theorem dX4_sew_127 : decode cX4_sew 127 = .ok (.ldc 48, 2) := by decide +kernel
theorem dX4_sew_129 : decode cX4_sew 129 = .ok (.if_icmp .lt 5, 3) := by decide +kernel
theorem dX4_sew_132 : decode cX4_sew 132 = .ok (.iconst 0, 1) := by decide +kernel
theorem dX4_sew_133 : decode cX4_sew 133 = .ok (.ireturn, 1) := by decide +kernel
theorem dX4_sew_134 : decode cX4_sew 134 = .ok (.aload_n 0, 1) := by decide +kernel
theorem dX4_sew_135 : decode cX4_sew 135 = .ok (.aload_n 1, 1) := by decide +kernel
theorem dX4_sew_136 : decode cX4_sew 136 = .ok (.iload_n 2, 1) := by decide +kernel
theorem dX4_sew_137 : decode cX4_sew 137 = .ok (.invokevirtual 67, 3) := by decide +kernel
theorem dX4_sew_140 : decode cX4_sew 140 = .ok (.iconst 1, 1) := by decide +kernel
theorem dX4_sew_141 : decode cX4_sew 141 = .ok (.ireturn, 1) := by decide +kernel
theorem dX4_choose_0 : decode cX4_choose 0 = .ok (.iload_n 2, 1) := by decide +kernel
theorem dX4_choose_1 : decode cX4_choose 1 = .ok (.istore_n 3, 1) := by decide +kernel
theorem dX4_choose_2 : decode cX4_choose 2 = .ok (.aload_n 0, 1) := by decide +kernel
theorem dX4_choose_3 : decode cX4_choose 3 = .ok (.iconst 0, 1) := by decide +kernel
theorem dX4_choose_4 : decode cX4_choose 4 = .ok (.putfield 71, 3) := by decide +kernel
theorem dX4_choose_7 : decode cX4_choose 7 = .ok (.iconst 0, 1) := by decide +kernel
theorem dX4_choose_8 : decode cX4_choose 8 = .ok (.istore 4, 2) := by decide +kernel
theorem dX4_choose_10 : decode cX4_choose 10 = .ok (.iload 4, 2) := by decide +kernel
theorem dX4_choose_12 : decode cX4_choose 12 = .ok (.aload_n 1, 1) := by decide +kernel
theorem dX4_choose_13 : decode cX4_choose 13 = .ok (.getfield 42, 3) := by decide +kernel
theorem dX4_choose_16 : decode cX4_choose 16 = .ok (.if_icmp .ge 73, 3) := by decide +kernel
theorem dX4_choose_19 : decode cX4_choose 19 = .ok (.aload_n 0, 1) := by decide +kernel
theorem dX4_choose_20 : decode cX4_choose 20 = .ok (.iload 4, 2) := by decide +kernel
theorem dX4_choose_22 : decode cX4_choose 22 = .ok (.aload_n 1, 1) := by decide +kernel
theorem dX4_choose_23 : decode cX4_choose 23 = .ok (.getfield 49, 3) := by decide +kernel
theorem dX4_choose_26 : decode cX4_choose 26 = .ok (.invokevirtual 52, 3) := by decide +kernel
theorem dX4_choose_29 : decode cX4_choose 29 = .ok (.aload_n 0, 1) := by decide +kernel
theorem dX4_choose_30 : decode cX4_choose 30 = .ok (.iload 4, 2) := by decide +kernel
theorem dX4_choose_32 : decode cX4_choose 32 = .ok (.iload_n 3, 1) := by decide +kernel
theorem dX4_choose_33 : decode cX4_choose 33 = .ok (.iconst 1, 1) := by decide +kernel
theorem dX4_choose_34 : decode cX4_choose 34 = .ok (.aload_n 1, 1) := by decide +kernel
theorem dX4_choose_35 : decode cX4_choose 35 = .ok (.getfield 49, 3) := by decide +kernel
theorem dX4_choose_38 : decode cX4_choose 38 = .ok (.ishl, 1) := by decide +kernel
theorem dX4_choose_39 : decode cX4_choose 39 = .ok (.invokevirtual 74, 3) := by decide +kernel
theorem dX4_choose_42 : decode cX4_choose 42 = .ok (.istore 5, 2) := by decide +kernel
theorem dX4_choose_44 : decode cX4_choose 44 = .ok (.aload_n 0, 1) := by decide +kernel
theorem dX4_choose_45 : decode cX4_choose 45 = .ok (.getfield 35, 3) := by decide +kernel
theorem dX4_choose_48 : decode cX4_choose 48 = .ok (.iload 4, 2) := by decide +kernel
theorem dX4_choose_50 : decode cX4_choose 50 = .ok (.iload 5, 2) := by decide +kernel
theorem dX4_choose_52 : decode cX4_choose 52 = .ok (.iastore, 1) := by decide +kernel
theorem dX4_choose_53 : decode cX4_choose 53 = .ok (.aload_n 0, 1) := by decide +kernel
theorem dX4_choose_54 : decode cX4_choose 54 = .ok (.dup, 1) := by decide +kernel
theorem dX4_choose_55 : decode cX4_choose 55 = .ok (.getfield 71, 3) := by decide +kernel
theorem dX4_choose_58 : decode cX4_choose 58 = .ok (.aload_n 0, 1) := by decide +kernel
theorem dX4_choose_59 : decode cX4_choose 59 = .ok (.getfield 26, 3) := by decide +kernel
theorem dX4_choose_62 : decode cX4_choose 62 = .ok (.iload 5, 2) := by decide +kernel
theorem dX4_choose_64 : decode cX4_choose 64 = .ok (.iaload, 1) := by decide +kernel
theorem dX4_choose_65 : decode cX4_choose 65 = .ok (.iadd, 1) := by decide +kernel
theorem dX4_choose_66 : decode cX4_choose 66 = .ok (.putfield 71, 3) := by decide +kernel
theorem dX4_choose_69 : decode cX4_choose 69 = .ok (.iconst 0, 1) := by decide +kernel
theorem dX4_choose_70 : decode cX4_choose 70 = .ok (.iload_n 3, 1) := by decide +kernel
theorem dX4_choose_71 : decode cX4_choose 71 = .ok (.aload_n 0, 1) := by decide +kernel
theorem dX4_choose_72 : decode cX4_choose 72 = .ok (.getfield 26, 3) := by decide +kernel
theorem dX4_choose_75 : decode cX4_choose 75 = .ok (.iload 5, 2) := by decide +kernel
theorem dX4_choose_77 : decode cX4_choose 77 = .ok (.iaload, 1) := by decide +kernel
theorem dX4_choose_78 : decode cX4_choose 78 = .ok (.isub, 1) := by decide +kernel
theorem dX4_choose_79 : decode cX4_choose 79 = .ok (.invokestatic 77, 3) := by decide +kernel
theorem dX4_choose_82 : decode cX4_choose 82 = .ok (.istore_n 3, 1) := by decide +kernel
theorem dX4_choose_83 : decode cX4_choose 83 = .ok (.iinc 4 1, 3) := by decide +kernel
theorem dX4_choose_86 : decode cX4_choose 86 = .ok (.goto (-76), 3) := by decide +kernel
theorem dX4_choose_89 : decode cX4_choose 89 = .ok (.return_, 1) := by decide +kernel
theorem dX4_sumGuilt_0 : decode cX4_sumGuilt 0 = .ok (.iconst 0, 1) := by decide +kernel
theorem dX4_sumGuilt_1 : decode cX4_sumGuilt 1 = .ok (.istore_n 2, 1) := by decide +kernel
theorem dX4_sumGuilt_2 : decode cX4_sumGuilt 2 = .ok (.iload_n 2, 1) := by decide +kernel
theorem dX4_sumGuilt_3 : decode cX4_sumGuilt 3 = .ok (.aload_n 1, 1) := by decide +kernel
theorem dX4_sumGuilt_4 : decode cX4_sumGuilt 4 = .ok (.getfield 49, 3) := by decide +kernel
theorem dX4_sumGuilt_7 : decode cX4_sumGuilt 7 = .ok (.if_icmp .ge 47, 3) := by decide +kernel
theorem dX4_sumGuilt_10 : decode cX4_sumGuilt 10 = .ok (.iconst 0, 1) := by decide +kernel
theorem dX4_sumGuilt_11 : decode cX4_sumGuilt 11 = .ok (.istore_n 3, 1) := by decide +kernel
theorem dX4_sumGuilt_12 : decode cX4_sumGuilt 12 = .ok (.iload_n 3, 1) := by decide +kernel
theorem dX4_sumGuilt_13 : decode cX4_sumGuilt 13 = .ok (.iconst 1, 1) := by decide +kernel
theorem dX4_sumGuilt_14 : decode cX4_sumGuilt 14 = .ok (.iload_n 2, 1) := by decide +kernel
theorem dX4_sumGuilt_15 : decode cX4_sumGuilt 15 = .ok (.ishl, 1) := by decide +kernel
theorem dX4_sumGuilt_16 : decode cX4_sumGuilt 16 = .ok (.if_icmp .ge 32, 3) := by decide +kernel
theorem dX4_sumGuilt_19 : decode cX4_sumGuilt 19 = .ok (.aload_n 0, 1) := by decide +kernel
theorem dX4_sumGuilt_20 : decode cX4_sumGuilt 20 = .ok (.getfield 23, 3) := by decide +kernel
theorem dX4_sumGuilt_23 : decode cX4_sumGuilt 23 = .ok (.iload_n 3, 1) := by decide +kernel
theorem dX4_sumGuilt_24 : decode cX4_sumGuilt 24 = .ok (.iconst 1, 1) := by decide +kernel
theorem dX4_sumGuilt_25 : decode cX4_sumGuilt 25 = .ok (.iload_n 2, 1) := by decide +kernel
theorem dX4_sumGuilt_26 : decode cX4_sumGuilt 26 = .ok (.ishl, 1) := by decide +kernel
theorem dX4_sumGuilt_27 : decode cX4_sumGuilt 27 = .ok (.ior, 1) := by decide +kernel
theorem dX4_sumGuilt_28 : decode cX4_sumGuilt 28 = .ok (.aload_n 0, 1) := by decide +kernel
theorem dX4_sumGuilt_29 : decode cX4_sumGuilt 29 = .ok (.getfield 23, 3) := by decide +kernel
theorem dX4_sumGuilt_32 : decode cX4_sumGuilt 32 = .ok (.iload_n 3, 1) := by decide +kernel
theorem dX4_sumGuilt_33 : decode cX4_sumGuilt 33 = .ok (.iaload, 1) := by decide +kernel
theorem dX4_sumGuilt_34 : decode cX4_sumGuilt 34 = .ok (.aload_n 1, 1) := by decide +kernel
theorem dX4_sumGuilt_35 : decode cX4_sumGuilt 35 = .ok (.getfield 82, 3) := by decide +kernel
theorem dX4_sumGuilt_38 : decode cX4_sumGuilt 38 = .ok (.iload_n 2, 1) := by decide +kernel
theorem dX4_sumGuilt_39 : decode cX4_sumGuilt 39 = .ok (.iaload, 1) := by decide +kernel
theorem dX4_sumGuilt_40 : decode cX4_sumGuilt 40 = .ok (.iadd, 1) := by decide +kernel
theorem dX4_sumGuilt_41 : decode cX4_sumGuilt 41 = .ok (.iastore, 1) := by decide +kernel
theorem dX4_sumGuilt_42 : decode cX4_sumGuilt 42 = .ok (.iinc 3 1, 3) := by decide +kernel
theorem dX4_sumGuilt_45 : decode cX4_sumGuilt 45 = .ok (.goto (-33), 3) := by decide +kernel
theorem dX4_sumGuilt_48 : decode cX4_sumGuilt 48 = .ok (.iinc 2 1, 3) := by decide +kernel
theorem dX4_sumGuilt_51 : decode cX4_sumGuilt 51 = .ok (.goto (-49), 3) := by decide +kernel
theorem dX4_sumGuilt_54 : decode cX4_sumGuilt 54 = .ok (.return_, 1) := by decide +kernel
theorem dX4_sumFines_0 : decode cX4_sumFines 0 = .ok (.iconst 0, 1) := by decide +kernel
theorem dX4_sumFines_1 : decode cX4_sumFines 1 = .ok (.istore_n 3, 1) := by decide +kernel
theorem dX4_sumFines_2 : decode cX4_sumFines 2 = .ok (.iload_n 3, 1) := by decide +kernel
theorem dX4_sumFines_3 : decode cX4_sumFines 3 = .ok (.iload_n 2, 1) := by decide +kernel
theorem dX4_sumFines_4 : decode cX4_sumFines 4 = .ok (.if_icmp .ge 69, 3) := by decide +kernel
theorem dX4_sumFines_7 : decode cX4_sumFines 7 = .ok (.iconst 0, 1) := by decide +kernel
theorem dX4_sumFines_8 : decode cX4_sumFines 8 = .ok (.istore 4, 2) := by decide +kernel
theorem dX4_sumFines_10 : decode cX4_sumFines 10 = .ok (.iload 4, 2) := by decide +kernel
theorem dX4_sumFines_12 : decode cX4_sumFines 12 = .ok (.iconst 1, 1) := by decide +kernel
theorem dX4_sumFines_13 : decode cX4_sumFines 13 = .ok (.iload_n 3, 1) := by decide +kernel
theorem dX4_sumFines_14 : decode cX4_sumFines 14 = .ok (.ishl, 1) := by decide +kernel
theorem dX4_sumFines_15 : decode cX4_sumFines 15 = .ok (.if_icmp .ge 52, 3) := by decide +kernel
theorem dX4_sumFines_18 : decode cX4_sumFines 18 = .ok (.aload_n 0, 1) := by decide +kernel
theorem dX4_sumFines_19 : decode cX4_sumFines 19 = .ok (.getfield 26, 3) := by decide +kernel
theorem dX4_sumFines_22 : decode cX4_sumFines 22 = .ok (.iload 4, 2) := by decide +kernel
theorem dX4_sumFines_24 : decode cX4_sumFines 24 = .ok (.iaload, 1) := by decide +kernel
theorem dX4_sumFines_25 : decode cX4_sumFines 25 = .ok (.aload_n 0, 1) := by decide +kernel
theorem dX4_sumFines_26 : decode cX4_sumFines 26 = .ok (.getfield 9, 3) := by decide +kernel
theorem dX4_sumFines_29 : decode cX4_sumFines 29 = .ok (.iload_n 1, 1) := by decide +kernel
theorem dX4_sumFines_30 : decode cX4_sumFines 30 = .ok (.bipush 8, 2) := by decide +kernel
theorem dX4_sumFines_32 : decode cX4_sumFines 32 = .ok (.imul, 1) := by decide +kernel
theorem dX4_sumFines_33 : decode cX4_sumFines 33 = .ok (.iload_n 3, 1) := by decide +kernel
theorem dX4_sumFines_34 : decode cX4_sumFines 34 = .ok (.iadd, 1) := by decide +kernel
theorem dX4_sumFines_35 : decode cX4_sumFines 35 = .ok (.iaload, 1) := by decide +kernel
theorem dX4_sumFines_36 : decode cX4_sumFines 36 = .ok (.iadd, 1) := by decide +kernel
theorem dX4_sumFines_37 : decode cX4_sumFines 37 = .ok (.istore 5, 2) := by decide +kernel
theorem dX4_sumFines_39 : decode cX4_sumFines 39 = .ok (.aload_n 0, 1) := by decide +kernel
theorem dX4_sumFines_40 : decode cX4_sumFines 40 = .ok (.getfield 26, 3) := by decide +kernel
theorem dX4_sumFines_43 : decode cX4_sumFines 43 = .ok (.iload 4, 2) := by decide +kernel
theorem dX4_sumFines_45 : decode cX4_sumFines 45 = .ok (.iconst 1, 1) := by decide +kernel
theorem dX4_sumFines_46 : decode cX4_sumFines 46 = .ok (.iload_n 3, 1) := by decide +kernel
theorem dX4_sumFines_47 : decode cX4_sumFines 47 = .ok (.ishl, 1) := by decide +kernel
theorem dX4_sumFines_48 : decode cX4_sumFines 48 = .ok (.ior, 1) := by decide +kernel
theorem dX4_sumFines_49 : decode cX4_sumFines 49 = .ok (.iload 5, 2) := by decide +kernel
theorem dX4_sumFines_51 : decode cX4_sumFines 51 = .ok (.aload_n 0, 1) := by decide +kernel
theorem dX4_sumFines_52 : decode cX4_sumFines 52 = .ok (.getfield 15, 3) := by decide +kernel
theorem dX4_sumFines_55 : decode cX4_sumFines 55 = .ok (.iload_n 1, 1) := by decide +kernel
theorem dX4_sumFines_56 : decode cX4_sumFines 56 = .ok (.iaload, 1) := by decide +kernel
theorem dX4_sumFines_57 : decode cX4_sumFines 57 = .ok (.invokestatic 84, 3) := by decide +kernel
theorem dX4_sumFines_60 : decode cX4_sumFines 60 = .ok (.iastore, 1) := by decide +kernel
theorem dX4_sumFines_61 : decode cX4_sumFines 61 = .ok (.iinc 4 1, 3) := by decide +kernel
theorem dX4_sumFines_64 : decode cX4_sumFines 64 = .ok (.goto (-54), 3) := by decide +kernel
theorem dX4_sumFines_67 : decode cX4_sumFines 67 = .ok (.iinc 3 1, 3) := by decide +kernel
theorem dX4_sumFines_70 : decode cX4_sumFines 70 = .ok (.goto (-68), 3) := by decide +kernel
theorem dX4_sumFines_73 : decode cX4_sumFines 73 = .ok (.return_, 1) := by decide +kernel
theorem dX4_gatherOffers_0 : decode cX4_gatherOffers 0 = .ok (.iconst 0, 1) := by decide +kernel
theorem dX4_gatherOffers_1 : decode cX4_gatherOffers 1 = .ok (.istore_n 3, 1) := by decide +kernel
theorem dX4_gatherOffers_2 : decode cX4_gatherOffers 2 = .ok (.iload_n 3, 1) := by decide +kernel
theorem dX4_gatherOffers_3 : decode cX4_gatherOffers 3 = .ok (.iload_n 1, 1) := by decide +kernel
theorem dX4_gatherOffers_4 : decode cX4_gatherOffers 4 = .ok (.if_icmp .gt 17, 3) := by decide +kernel
theorem dX4_gatherOffers_7 : decode cX4_gatherOffers 7 = .ok (.aload_n 0, 1) := by decide +kernel
theorem dX4_gatherOffers_8 : decode cX4_gatherOffers 8 = .ok (.getfield 32, 3) := by decide +kernel
theorem dX4_gatherOffers_11 : decode cX4_gatherOffers 11 = .ok (.iload_n 3, 1) := by decide +kernel
theorem dX4_gatherOffers_12 : decode cX4_gatherOffers 12 = .ok (.ldc 48, 2) := by decide +kernel
theorem dX4_gatherOffers_14 : decode cX4_gatherOffers 14 = .ok (.iastore, 1) := by decide +kernel
theorem dX4_gatherOffers_15 : decode cX4_gatherOffers 15 = .ok (.iinc 3 1, 3) := by decide +kernel
theorem dX4_gatherOffers_18 : decode cX4_gatherOffers 18 = .ok (.goto (-16), 3) := by decide +kernel
theorem dX4_gatherOffers_21 : decode cX4_gatherOffers 21 = .ok (.iconst 0, 1) := by decide +kernel
theorem dX4_gatherOffers_22 : decode cX4_gatherOffers 22 = .ok (.istore_n 3, 1) := by decide +kernel
theorem dX4_gatherOffers_23 : decode cX4_gatherOffers 23 = .ok (.iload_n 3, 1) := by decide +kernel
theorem dX4_gatherOffers_24 : decode cX4_gatherOffers 24 = .ok (.iload_n 2, 1) := by decide +kernel
theorem dX4_gatherOffers_25 : decode cX4_gatherOffers 25 = .ok (.if_icmp .ge 44, 3) := by decide +kernel
theorem dX4_gatherOffers_28 : decode cX4_gatherOffers 28 = .ok (.iload_n 1, 1) := by decide +kernel
theorem dX4_gatherOffers_29 : decode cX4_gatherOffers 29 = .ok (.aload_n 0, 1) := by decide +kernel
theorem dX4_gatherOffers_30 : decode cX4_gatherOffers 30 = .ok (.getfield 26, 3) := by decide +kernel
theorem dX4_gatherOffers_33 : decode cX4_gatherOffers 33 = .ok (.iload_n 3, 1) := by decide +kernel
theorem dX4_gatherOffers_34 : decode cX4_gatherOffers 34 = .ok (.iaload, 1) := by decide +kernel
theorem dX4_gatherOffers_35 : decode cX4_gatherOffers 35 = .ok (.invokestatic 84, 3) := by decide +kernel
theorem dX4_gatherOffers_38 : decode cX4_gatherOffers 38 = .ok (.istore 4, 2) := by decide +kernel
theorem dX4_gatherOffers_40 : decode cX4_gatherOffers 40 = .ok (.aload_n 0, 1) := by decide +kernel
theorem dX4_gatherOffers_41 : decode cX4_gatherOffers 41 = .ok (.getfield 32, 3) := by decide +kernel
theorem dX4_gatherOffers_44 : decode cX4_gatherOffers 44 = .ok (.iload 4, 2) := by decide +kernel
theorem dX4_gatherOffers_46 : decode cX4_gatherOffers 46 = .ok (.aload_n 0, 1) := by decide +kernel
theorem dX4_gatherOffers_47 : decode cX4_gatherOffers 47 = .ok (.getfield 32, 3) := by decide +kernel
theorem dX4_gatherOffers_50 : decode cX4_gatherOffers 50 = .ok (.iload 4, 2) := by decide +kernel
theorem dX4_gatherOffers_52 : decode cX4_gatherOffers 52 = .ok (.iaload, 1) := by decide +kernel
theorem dX4_gatherOffers_53 : decode cX4_gatherOffers 53 = .ok (.aload_n 0, 1) := by decide +kernel
theorem dX4_gatherOffers_54 : decode cX4_gatherOffers 54 = .ok (.getfield 23, 3) := by decide +kernel
theorem dX4_gatherOffers_57 : decode cX4_gatherOffers 57 = .ok (.iload_n 3, 1) := by decide +kernel
theorem dX4_gatherOffers_58 : decode cX4_gatherOffers 58 = .ok (.iaload, 1) := by decide +kernel
theorem dX4_gatherOffers_59 : decode cX4_gatherOffers 59 = .ok (.invokestatic 84, 3) := by decide +kernel
theorem dX4_gatherOffers_62 : decode cX4_gatherOffers 62 = .ok (.iastore, 1) := by decide +kernel
theorem dX4_gatherOffers_63 : decode cX4_gatherOffers 63 = .ok (.iinc 3 1, 3) := by decide +kernel
theorem dX4_gatherOffers_66 : decode cX4_gatherOffers 66 = .ok (.goto (-43), 3) := by decide +kernel
theorem dX4_gatherOffers_69 : decode cX4_gatherOffers 69 = .ok (.iload_n 1, 1) := by decide +kernel
theorem dX4_gatherOffers_70 : decode cX4_gatherOffers 70 = .ok (.iconst 1, 1) := by decide +kernel
theorem dX4_gatherOffers_71 : decode cX4_gatherOffers 71 = .ok (.isub, 1) := by decide +kernel
theorem dX4_gatherOffers_72 : decode cX4_gatherOffers 72 = .ok (.istore_n 3, 1) := by decide +kernel
theorem dX4_gatherOffers_73 : decode cX4_gatherOffers 73 = .ok (.iload_n 3, 1) := by decide +kernel
theorem dX4_gatherOffers_74 : decode cX4_gatherOffers 74 = .ok (.ifCond .lt 32, 3) := by decide +kernel
theorem dX4_gatherOffers_77 : decode cX4_gatherOffers 77 = .ok (.aload_n 0, 1) := by decide +kernel
theorem dX4_gatherOffers_78 : decode cX4_gatherOffers 78 = .ok (.getfield 32, 3) := by decide +kernel
theorem dX4_gatherOffers_81 : decode cX4_gatherOffers 81 = .ok (.iload_n 3, 1) := by decide +kernel
theorem dX4_gatherOffers_82 : decode cX4_gatherOffers 82 = .ok (.aload_n 0, 1) := by decide +kernel
theorem dX4_gatherOffers_83 : decode cX4_gatherOffers 83 = .ok (.getfield 32, 3) := by decide +kernel
theorem dX4_gatherOffers_86 : decode cX4_gatherOffers 86 = .ok (.iload_n 3, 1) := by decide +kernel
theorem dX4_gatherOffers_87 : decode cX4_gatherOffers 87 = .ok (.iaload, 1) := by decide +kernel
theorem dX4_gatherOffers_88 : decode cX4_gatherOffers 88 = .ok (.aload_n 0, 1) := by decide +kernel
theorem dX4_gatherOffers_89 : decode cX4_gatherOffers 89 = .ok (.getfield 32, 3) := by decide +kernel
theorem dX4_gatherOffers_92 : decode cX4_gatherOffers 92 = .ok (.iload_n 3, 1) := by decide +kernel
theorem dX4_gatherOffers_93 : decode cX4_gatherOffers 93 = .ok (.iconst 1, 1) := by decide +kernel
theorem dX4_gatherOffers_94 : decode cX4_gatherOffers 94 = .ok (.iadd, 1) := by decide +kernel
theorem dX4_gatherOffers_95 : decode cX4_gatherOffers 95 = .ok (.iaload, 1) := by decide +kernel
theorem dX4_gatherOffers_96 : decode cX4_gatherOffers 96 = .ok (.invokestatic 84, 3) := by decide +kernel
theorem dX4_gatherOffers_99 : decode cX4_gatherOffers 99 = .ok (.iastore, 1) := by decide +kernel
theorem dX4_gatherOffers_100 : decode cX4_gatherOffers 100 = .ok (.iinc 3 (-1), 3) := by decide +kernel
theorem dX4_gatherOffers_103 : decode cX4_gatherOffers 103 = .ok (.goto (-30), 3) := by decide +kernel
theorem dX4_gatherOffers_106 : decode cX4_gatherOffers 106 = .ok (.iconst 0, 1) := by decide +kernel
theorem dX4_gatherOffers_107 : decode cX4_gatherOffers 107 = .ok (.istore_n 3, 1) := by decide +kernel
theorem dX4_gatherOffers_108 : decode cX4_gatherOffers 108 = .ok (.iconst 0, 1) := by decide +kernel
theorem dX4_gatherOffers_109 : decode cX4_gatherOffers 109 = .ok (.istore 4, 2) := by decide +kernel
theorem dX4_gatherOffers_111 : decode cX4_gatherOffers 111 = .ok (.iload 4, 2) := by decide +kernel
theorem dX4_gatherOffers_113 : decode cX4_gatherOffers 113 = .ok (.iload_n 1, 1) := by decide +kernel
theorem dX4_gatherOffers_114 : decode cX4_gatherOffers 114 = .ok (.if_icmp .gt 58, 3) := by decide +kernel
theorem dX4_gatherOffers_117 : decode cX4_gatherOffers 117 = .ok (.iload 4, 2) := by decide +kernel
theorem dX4_gatherOffers_119 : decode cX4_gatherOffers 119 = .ok (.iload_n 1, 1) := by decide +kernel
theorem dX4_gatherOffers_120 : decode cX4_gatherOffers 120 = .ok (.if_icmp .eq 22, 3) := by decide +kernel
theorem dX4_gatherOffers_123 : decode cX4_gatherOffers 123 = .ok (.aload_n 0, 1) := by decide +kernel
theorem dX4_gatherOffers_124 : decode cX4_gatherOffers 124 = .ok (.getfield 32, 3) := by decide +kernel
theorem dX4_gatherOffers_127 : decode cX4_gatherOffers 127 = .ok (.iload 4, 2) := by decide +kernel
theorem dX4_gatherOffers_129 : decode cX4_gatherOffers 129 = .ok (.iaload, 1) := by decide +kernel
theorem dX4_gatherOffers_130 : decode cX4_gatherOffers 130 = .ok (.aload_n 0, 1) := by decide +kernel
theorem dX4_gatherOffers_131 : decode cX4_gatherOffers 131 = .ok (.getfield 32, 3) := by decide +kernel
theorem dX4_gatherOffers_134 : decode cX4_gatherOffers 134 = .ok (.iload 4, 2) := by decide +kernel
theorem dX4_gatherOffers_136 : decode cX4_gatherOffers 136 = .ok (.iconst 1, 1) := by decide +kernel
theorem dX4_gatherOffers_137 : decode cX4_gatherOffers 137 = .ok (.iadd, 1) := by decide +kernel
theorem dX4_gatherOffers_138 : decode cX4_gatherOffers 138 = .ok (.iaload, 1) := by decide +kernel
theorem dX4_gatherOffers_139 : decode cX4_gatherOffers 139 = .ok (.if_icmp .ge 27, 3) := by decide +kernel
theorem dX4_gatherOffers_142 : decode cX4_gatherOffers 142 = .ok (.aload_n 0, 1) := by decide +kernel
theorem dX4_gatherOffers_143 : decode cX4_gatherOffers 143 = .ok (.getfield 29, 3) := by decide +kernel
theorem dX4_gatherOffers_146 : decode cX4_gatherOffers 146 = .ok (.iload_n 3, 1) := by decide +kernel
theorem dX4_gatherOffers_147 : decode cX4_gatherOffers 147 = .ok (.iload 4, 2) := by decide +kernel
theorem dX4_gatherOffers_149 : decode cX4_gatherOffers 149 = .ok (.iastore, 1) := by decide +kernel
theorem dX4_gatherOffers_150 : decode cX4_gatherOffers 150 = .ok (.aload_n 0, 1) := by decide +kernel
theorem dX4_gatherOffers_151 : decode cX4_gatherOffers 151 = .ok (.getfield 32, 3) := by decide +kernel
theorem dX4_gatherOffers_154 : decode cX4_gatherOffers 154 = .ok (.iload_n 3, 1) := by decide +kernel
theorem dX4_gatherOffers_155 : decode cX4_gatherOffers 155 = .ok (.aload_n 0, 1) := by decide +kernel
theorem dX4_gatherOffers_156 : decode cX4_gatherOffers 156 = .ok (.getfield 32, 3) := by decide +kernel
theorem dX4_gatherOffers_159 : decode cX4_gatherOffers 159 = .ok (.iload 4, 2) := by decide +kernel
theorem dX4_gatherOffers_161 : decode cX4_gatherOffers 161 = .ok (.iaload, 1) := by decide +kernel
theorem dX4_gatherOffers_162 : decode cX4_gatherOffers 162 = .ok (.iastore, 1) := by decide +kernel
theorem dX4_gatherOffers_163 : decode cX4_gatherOffers 163 = .ok (.iinc 3 1, 3) := by decide +kernel
theorem dX4_gatherOffers_166 : decode cX4_gatherOffers 166 = .ok (.iinc 4 1, 3) := by decide +kernel
theorem dX4_gatherOffers_169 : decode cX4_gatherOffers 169 = .ok (.goto (-58), 3) := by decide +kernel
theorem dX4_gatherOffers_172 : decode cX4_gatherOffers 172 = .ok (.iload_n 3, 1) := by decide +kernel
theorem dX4_gatherOffers_173 : decode cX4_gatherOffers 173 = .ok (.ireturn, 1) := by decide +kernel
theorem dX4_leastGuilt_0 : decode cX4_leastGuilt 0 = .ok (.ldc 48, 2) := by decide +kernel
theorem dX4_leastGuilt_2 : decode cX4_leastGuilt 2 = .ok (.istore 4, 2) := by decide +kernel
theorem dX4_leastGuilt_4 : decode cX4_leastGuilt 4 = .ok (.iconst 0, 1) := by decide +kernel
theorem dX4_leastGuilt_5 : decode cX4_leastGuilt 5 = .ok (.istore 5, 2) := by decide +kernel
theorem dX4_leastGuilt_7 : decode cX4_leastGuilt 7 = .ok (.iload 5, 2) := by decide +kernel
theorem dX4_leastGuilt_9 : decode cX4_leastGuilt 9 = .ok (.iload_n 3, 1) := by decide +kernel
theorem dX4_leastGuilt_10 : decode cX4_leastGuilt 10 = .ok (.if_icmp .ge 50, 3) := by decide +kernel
theorem dX4_leastGuilt_13 : decode cX4_leastGuilt 13 = .ok (.iconst 0, 1) := by decide +kernel
theorem dX4_leastGuilt_14 : decode cX4_leastGuilt 14 = .ok (.iload_n 2, 1) := by decide +kernel
theorem dX4_leastGuilt_15 : decode cX4_leastGuilt 15 = .ok (.aload_n 0, 1) := by decide +kernel
theorem dX4_leastGuilt_16 : decode cX4_leastGuilt 16 = .ok (.getfield 29, 3) := by decide +kernel
theorem dX4_leastGuilt_19 : decode cX4_leastGuilt 19 = .ok (.iload 5, 2) := by decide +kernel
theorem dX4_leastGuilt_21 : decode cX4_leastGuilt 21 = .ok (.iaload, 1) := by decide +kernel
theorem dX4_leastGuilt_22 : decode cX4_leastGuilt 22 = .ok (.isub, 1) := by decide +kernel
theorem dX4_leastGuilt_23 : decode cX4_leastGuilt 23 = .ok (.invokestatic 77, 3) := by decide +kernel
theorem dX4_leastGuilt_26 : decode cX4_leastGuilt 26 = .ok (.istore 6, 2) := by decide +kernel
theorem dX4_leastGuilt_28 : decode cX4_leastGuilt 28 = .ok (.iload 4, 2) := by decide +kernel
theorem dX4_leastGuilt_30 : decode cX4_leastGuilt 30 = .ok (.aload_n 0, 1) := by decide +kernel
theorem dX4_leastGuilt_31 : decode cX4_leastGuilt 31 = .ok (.getfield 32, 3) := by decide +kernel
theorem dX4_leastGuilt_34 : decode cX4_leastGuilt 34 = .ok (.iload 5, 2) := by decide +kernel
theorem dX4_leastGuilt_36 : decode cX4_leastGuilt 36 = .ok (.iaload, 1) := by decide +kernel
theorem dX4_leastGuilt_37 : decode cX4_leastGuilt 37 = .ok (.aload_n 0, 1) := by decide +kernel
theorem dX4_leastGuilt_38 : decode cX4_leastGuilt 38 = .ok (.getfield 20, 3) := by decide +kernel
theorem dX4_leastGuilt_41 : decode cX4_leastGuilt 41 = .ok (.iload_n 1, 1) := by decide +kernel
theorem dX4_leastGuilt_42 : decode cX4_leastGuilt 42 = .ok (.iconst 1, 1) := by decide +kernel
theorem dX4_leastGuilt_43 : decode cX4_leastGuilt 43 = .ok (.iadd, 1) := by decide +kernel
theorem dX4_leastGuilt_44 : decode cX4_leastGuilt 44 = .ok (.aaload, 1) := by decide +kernel
theorem dX4_leastGuilt_45 : decode cX4_leastGuilt 45 = .ok (.iload 6, 2) := by decide +kernel
theorem dX4_leastGuilt_47 : decode cX4_leastGuilt 47 = .ok (.iaload, 1) := by decide +kernel
theorem dX4_leastGuilt_48 : decode cX4_leastGuilt 48 = .ok (.iadd, 1) := by decide +kernel
theorem dX4_leastGuilt_49 : decode cX4_leastGuilt 49 = .ok (.invokestatic 84, 3) := by decide +kernel
theorem dX4_leastGuilt_52 : decode cX4_leastGuilt 52 = .ok (.istore 4, 2) := by decide +kernel
theorem dX4_leastGuilt_54 : decode cX4_leastGuilt 54 = .ok (.iinc 5 1, 3) := by decide +kernel
theorem dX4_leastGuilt_57 : decode cX4_leastGuilt 57 = .ok (.goto (-50), 3) := by decide +kernel
theorem dX4_leastGuilt_60 : decode cX4_leastGuilt 60 = .ok (.iload 4, 2) := by decide +kernel
theorem dX4_leastGuilt_62 : decode cX4_leastGuilt 62 = .ok (.ireturn, 1) := by decide +kernel
theorem dX4_firstOfLeast_0 : decode cX4_firstOfLeast 0 = .ok (.iconst 0, 1) := by decide +kernel
theorem dX4_firstOfLeast_1 : decode cX4_firstOfLeast 1 = .ok (.istore 4, 2) := by decide +kernel
theorem dX4_firstOfLeast_3 : decode cX4_firstOfLeast 3 = .ok (.iload 4, 2) := by decide +kernel
theorem dX4_firstOfLeast_5 : decode cX4_firstOfLeast 5 = .ok (.iload_n 3, 1) := by decide +kernel
theorem dX4_firstOfLeast_6 : decode cX4_firstOfLeast 6 = .ok (.if_icmp .ge 57, 3) := by decide +kernel
theorem dX4_firstOfLeast_9 : decode cX4_firstOfLeast 9 = .ok (.iconst 0, 1) := by decide +kernel
theorem dX4_firstOfLeast_10 : decode cX4_firstOfLeast 10 = .ok (.iload_n 2, 1) := by decide +kernel
theorem dX4_firstOfLeast_11 : decode cX4_firstOfLeast 11 = .ok (.aload_n 0, 1) := by decide +kernel
theorem dX4_firstOfLeast_12 : decode cX4_firstOfLeast 12 = .ok (.getfield 26, 3) := by decide +kernel
theorem dX4_firstOfLeast_15 : decode cX4_firstOfLeast 15 = .ok (.iload 4, 2) := by decide +kernel
theorem dX4_firstOfLeast_17 : decode cX4_firstOfLeast 17 = .ok (.iaload, 1) := by decide +kernel
theorem dX4_firstOfLeast_18 : decode cX4_firstOfLeast 18 = .ok (.isub, 1) := by decide +kernel
theorem dX4_firstOfLeast_19 : decode cX4_firstOfLeast 19 = .ok (.invokestatic 77, 3) := by decide +kernel
theorem dX4_firstOfLeast_22 : decode cX4_firstOfLeast 22 = .ok (.istore 5, 2) := by decide +kernel
theorem dX4_firstOfLeast_24 : decode cX4_firstOfLeast 24 = .ok (.aload_n 0, 1) := by decide +kernel
theorem dX4_firstOfLeast_25 : decode cX4_firstOfLeast 25 = .ok (.getfield 23, 3) := by decide +kernel
theorem dX4_firstOfLeast_28 : decode cX4_firstOfLeast 28 = .ok (.iload 4, 2) := by decide +kernel
theorem dX4_firstOfLeast_30 : decode cX4_firstOfLeast 30 = .ok (.iaload, 1) := by decide +kernel
theorem dX4_firstOfLeast_31 : decode cX4_firstOfLeast 31 = .ok (.aload_n 0, 1) := by decide +kernel
theorem dX4_firstOfLeast_32 : decode cX4_firstOfLeast 32 = .ok (.getfield 20, 3) := by decide +kernel
theorem dX4_firstOfLeast_35 : decode cX4_firstOfLeast 35 = .ok (.iload_n 1, 1) := by decide +kernel
theorem dX4_firstOfLeast_36 : decode cX4_firstOfLeast 36 = .ok (.iconst 1, 1) := by decide +kernel
theorem dX4_firstOfLeast_37 : decode cX4_firstOfLeast 37 = .ok (.iadd, 1) := by decide +kernel
theorem dX4_firstOfLeast_38 : decode cX4_firstOfLeast 38 = .ok (.aaload, 1) := by decide +kernel
theorem dX4_firstOfLeast_39 : decode cX4_firstOfLeast 39 = .ok (.iload 5, 2) := by decide +kernel
theorem dX4_firstOfLeast_41 : decode cX4_firstOfLeast 41 = .ok (.iaload, 1) := by decide +kernel
theorem dX4_firstOfLeast_42 : decode cX4_firstOfLeast 42 = .ok (.iadd, 1) := by decide +kernel
theorem dX4_firstOfLeast_43 : decode cX4_firstOfLeast 43 = .ok (.aload_n 0, 1) := by decide +kernel
theorem dX4_firstOfLeast_44 : decode cX4_firstOfLeast 44 = .ok (.getfield 20, 3) := by decide +kernel
theorem dX4_firstOfLeast_47 : decode cX4_firstOfLeast 47 = .ok (.iload_n 1, 1) := by decide +kernel
theorem dX4_firstOfLeast_48 : decode cX4_firstOfLeast 48 = .ok (.aaload, 1) := by decide +kernel
theorem dX4_firstOfLeast_49 : decode cX4_firstOfLeast 49 = .ok (.iload_n 2, 1) := by decide +kernel
theorem dX4_firstOfLeast_50 : decode cX4_firstOfLeast 50 = .ok (.iaload, 1) := by decide +kernel
theorem dX4_firstOfLeast_51 : decode cX4_firstOfLeast 51 = .ok (.if_icmp .ne 6, 3) := by decide +kernel
theorem dX4_firstOfLeast_54 : decode cX4_firstOfLeast 54 = .ok (.iload 4, 2) := by decide +kernel
theorem dX4_firstOfLeast_56 : decode cX4_firstOfLeast 56 = .ok (.ireturn, 1) := by decide +kernel
theorem dX4_firstOfLeast_57 : decode cX4_firstOfLeast 57 = .ok (.iinc 4 1, 3) := by decide +kernel
theorem dX4_firstOfLeast_60 : decode cX4_firstOfLeast 60 = .ok (.goto (-57), 3) := by decide +kernel
theorem dX4_firstOfLeast_63 : decode cX4_firstOfLeast 63 = .ok (.iconst 0, 1) := by decide +kernel
theorem dX4_firstOfLeast_64 : decode cX4_firstOfLeast 64 = .ok (.ireturn, 1) := by decide +kernel
theorem dX5_init_0 : decode cX5_init 0 = .ok (.aload_n 0, 1) := by decide +kernel
theorem dX5_init_1 : decode cX5_init 1 = .ok (.invokespecial 9, 3) := by decide +kernel
theorem dX5_init_4 : decode cX5_init 4 = .ok (.aload_n 0, 1) := by decide +kernel
theorem dX5_init_5 : decode cX5_init 5 = .ok (.bipush 8, 2) := by decide +kernel
theorem dX5_init_7 : decode cX5_init 7 = .ok (.newarray .long, 2) := by decide +kernel
theorem dX5_init_9 : decode cX5_init 9 = .ok (.putfield 15, 3) := by decide +kernel
theorem dX5_init_12 : decode cX5_init 12 = .ok (.aload_n 0, 1) := by decide +kernel
theorem dX5_init_13 : decode cX5_init 13 = .ok (.bipush 8, 2) := by decide +kernel
theorem dX5_init_15 : decode cX5_init 15 = .ok (.newarray .long, 2) := by decide +kernel
theorem dX5_init_17 : decode cX5_init 17 = .ok (.putfield 19, 3) := by decide +kernel
theorem dX5_init_20 : decode cX5_init 20 = .ok (.return_, 1) := by decide +kernel
theorem dX5_parse_0 : decode cX5_parse 0 = .ok (.aload_n 0, 1) := by decide +kernel
theorem dX5_parse_1 : decode cX5_parse 1 = .ok (.aload_n 1, 1) := by decide +kernel
theorem dX5_parse_2 : decode cX5_parse 2 = .ok (.putfield 22, 3) := by decide +kernel
theorem dX5_parse_5 : decode cX5_parse 5 = .ok (.aload_n 0, 1) := by decide +kernel
theorem dX5_parse_6 : decode cX5_parse 6 = .ok (.aload_n 2, 1) := by decide +kernel
theorem dX5_parse_7 : decode cX5_parse 7 = .ok (.putfield 26, 3) := by decide +kernel
theorem dX5_parse_10 : decode cX5_parse 10 = .ok (.aload_n 0, 1) := by decide +kernel
theorem dX5_parse_11 : decode cX5_parse 11 = .ok (.getfield 26, 3) := by decide +kernel
theorem dX5_parse_14 : decode cX5_parse 14 = .ok (.invokevirtual 30, 3) := by decide +kernel
theorem dX5_parse_17 : decode cX5_parse 17 = .ok (.aload_n 0, 1) := by decide +kernel
theorem dX5_parse_18 : decode cX5_parse 18 = .ok (.iconst 0, 1) := by decide +kernel
theorem dX5_parse_19 : decode cX5_parse 19 = .ok (.putfield 33, 3) := by decide +kernel
theorem dX5_parse_22 : decode cX5_parse 22 = .ok (.aload_n 0, 1) := by decide +kernel
theorem dX5_parse_23 : decode cX5_parse 23 = .ok (.aload_n 1, 1) := by decide +kernel
theorem dX5_parse_24 : decode cX5_parse 24 = .ok (.getfield 37, 3) := by decide +kernel
theorem dX5_parse_27 : decode cX5_parse 27 = .ok (.iconst 0, 1) := by decide +kernel
theorem dX5_parse_28 : decode cX5_parse 28 = .ok (.iaload, 1) := by decide +kernel
theorem dX5_parse_29 : decode cX5_parse 29 = .ok (.putfield 41, 3) := by decide +kernel
theorem dX5_parse_32 : decode cX5_parse 32 = .ok (.aload_n 0, 1) := by decide +kernel
theorem dX5_parse_33 : decode cX5_parse 33 = .ok (.iconst 0, 1) := by decide +kernel
theorem dX5_parse_34 : decode cX5_parse 34 = .ok (.putfield 44, 3) := by decide +kernel
theorem dX5_parse_37 : decode cX5_parse 37 = .ok (.aload_n 0, 1) := by decide +kernel
theorem dX5_parse_38 : decode cX5_parse 38 = .ok (.iconst 0, 1) := by decide +kernel
theorem dX5_parse_39 : decode cX5_parse 39 = .ok (.putfield 47, 3) := by decide +kernel
theorem dX5_parse_42 : decode cX5_parse 42 = .ok (.iconst 1, 1) := by decide +kernel
theorem dX5_parse_43 : decode cX5_parse 43 = .ok (.istore_n 3, 1) := by decide +kernel
theorem dX5_parse_44 : decode cX5_parse 44 = .ok (.iconst 0, 1) := by decide +kernel
theorem dX5_parse_45 : decode cX5_parse 45 = .ok (.istore 4, 2) := by decide +kernel
theorem dX5_parse_47 : decode cX5_parse 47 = .ok (.iload 4, 2) := by decide +kernel
theorem dX5_parse_49 : decode cX5_parse 49 = .ok (.sipush 400, 3) := by decide +kernel
theorem dX5_parse_52 : decode cX5_parse 52 = .ok (.if_icmp .ge 25, 3) := by decide +kernel
theorem dX5_parse_55 : decode cX5_parse 55 = .ok (.iload_n 3, 1) := by decide +kernel
theorem dX5_parse_56 : decode cX5_parse 56 = .ok (.ifCond .eq 21, 3) := by decide +kernel
theorem dX5_parse_59 : decode cX5_parse 59 = .ok (.aload_n 0, 1) := by decide +kernel
theorem dX5_parse_60 : decode cX5_parse 60 = .ok (.getfield 41, 3) := by decide +kernel
theorem dX5_parse_63 : decode cX5_parse 63 = .ok (.ifCond .eq 14, 3) := by decide +kernel
theorem dX5_parse_66 : decode cX5_parse 66 = .ok (.aload_n 0, 1) := by decide +kernel
theorem dX5_parse_67 : decode cX5_parse 67 = .ok (.invokevirtual 50, 3) := by decide +kernel
theorem dX5_parse_70 : decode cX5_parse 70 = .ok (.istore_n 3, 1) := by decide +kernel
theorem dX5_parse_71 : decode cX5_parse 71 = .ok (.iinc 4 1, 3) := by decide +kernel
theorem dX5_parse_74 : decode cX5_parse 74 = .ok (.goto (-27), 3) := by decide +kernel
theorem dX5_parse_77 : decode cX5_parse 77 = .ok (.iload_n 3, 1) := by decide +kernel
theorem dX5_parse_78 : decode cX5_parse 78 = .ok (.ifCond .eq 26, 3) := by decide +kernel
theorem dX5_parse_81 : decode cX5_parse 81 = .ok (.aload_n 0, 1) := by decide +kernel
theorem dX5_parse_82 : decode cX5_parse 82 = .ok (.getfield 47, 3) := by decide +kernel
theorem dX5_parse_85 : decode cX5_parse 85 = .ok (.ifCond .eq 19, 3) := by decide +kernel
theorem dX5_parse_88 : decode cX5_parse 88 = .ok (.aload_n 0, 1) := by decide +kernel
theorem dX5_parse_89 : decode cX5_parse 89 = .ok (.aload_n 0, 1) := by decide +kernel
theorem dX5_parse_90 : decode cX5_parse 90 = .ok (.getfield 47, 3) := by decide +kernel
theorem dX5_parse_93 : decode cX5_parse 93 = .ok (.putfield 44, 3) := by decide +kernel
theorem dX5_parse_96 : decode cX5_parse 96 = .ok (.aload_n 0, 1) := by decide +kernel
theorem dX5_parse_97 : decode cX5_parse 97 = .ok (.aload_n 0, 1) := by decide +kernel
theorem dX5_parse_98 : decode cX5_parse 98 = .ok (.getfield 54, 3) := by decide +kernel
theorem dX5_parse_101 : decode cX5_parse 101 = .ok (.putfield 57, 3) := by decide +kernel
theorem dX5_parse_104 : decode cX5_parse 104 = .ok (.return_, 1) := by decide +kernel
theorem dX5_fail_0 : decode cX5_fail 0 = .ok (.aload_n 0, 1) := by decide +kernel
theorem dX5_fail_1 : decode cX5_fail 1 = .ok (.iload_n 1, 1) := by decide +kernel
theorem dX5_fail_2 : decode cX5_fail 2 = .ok (.putfield 44, 3) := by decide +kernel
theorem dX5_fail_5 : decode cX5_fail 5 = .ok (.aload_n 0, 1) := by decide +kernel
theorem dX5_fail_6 : decode cX5_fail 6 = .ok (.aload_n 0, 1) := by decide +kernel
theorem dX5_fail_7 : decode cX5_fail 7 = .ok (.getfield 22, 3) := by decide +kernel
theorem dX5_fail_10 : decode cX5_fail 10 = .ok (.getfield 60, 3) := by decide +kernel
theorem dX5_fail_13 : decode cX5_fail 13 = .ok (.aload_n 0, 1) := by decide +kernel
theorem dX5_fail_14 : decode cX5_fail 14 = .ok (.getfield 33, 3) := by decide +kernel
theorem dX5_fail_17 : decode cX5_fail 17 = .ok (.iaload, 1) := by decide +kernel
theorem dX5_fail_18 : decode cX5_fail 18 = .ok (.putfield 57, 3) := by decide +kernel
theorem dX5_fail_21 : decode cX5_fail 21 = .ok (.iconst 0, 1) := by decide +kernel
theorem dX5_fail_22 : decode cX5_fail 22 = .ok (.ireturn, 1) := by decide +kernel
theorem dX5_failLater_0 : decode cX5_failLater 0 = .ok (.aload_n 0, 1) := by decide +kernel
theorem dX5_failLater_1 : decode cX5_failLater 1 = .ok (.getfield 47, 3) := by decide +kernel
theorem dX5_failLater_4 : decode cX5_failLater 4 = .ok (.ifCond .ne 21, 3) := by decide +kernel
theorem dX5_failLater_7 : decode cX5_failLater 7 = .ok (.aload_n 0, 1) := by decide +kernel
theorem dX5_failLater_8 : decode cX5_failLater 8 = .ok (.iload_n 1, 1) := by decide +kernel
theorem dX5_failLater_9 : decode cX5_failLater 9 = .ok (.putfield 47, 3) := by decide +kernel
theorem dX5_failLater_12 : decode cX5_failLater 12 = .ok (.aload_n 0, 1) := by decide +kernel
theorem dX5_failLater_13 : decode cX5_failLater 13 = .ok (.aload_n 0, 1) := by decide +kernel
theorem dX5_failLater_14 : decode cX5_failLater 14 = .ok (.getfield 22, 3) := by decide +kernel
theorem dX5_failLater_17 : decode cX5_failLater 17 = .ok (.getfield 60, 3) := by decide +kernel
theorem dX5_failLater_20 : decode cX5_failLater 20 = .ok (.iload_n 2, 1) := by decide +kernel
theorem dX5_failLater_21 : decode cX5_failLater 21 = .ok (.iaload, 1) := by decide +kernel
theorem dX5_failLater_22 : decode cX5_failLater 22 = .ok (.putfield 54, 3) := by decide +kernel
theorem dX5_failLater_25 : decode cX5_failLater 25 = .ok (.return_, 1) := by decide +kernel
theorem dX5_take_0 : decode cX5_take 0 = .ok (.aload_n 0, 1) := by decide +kernel
theorem dX5_take_1 : decode cX5_take 1 = .ok (.getfield 41, 3) := by decide +kernel
theorem dX5_take_4 : decode cX5_take 4 = .ok (.iload_n 1, 1) := by decide +kernel
theorem dX5_take_5 : decode cX5_take 5 = .ok (.if_icmp .ne 7, 3) := by decide +kernel
theorem dX5_take_8 : decode cX5_take 8 = .ok (.iconst 1, 1) := by decide +kernel
theorem dX5_take_9 : decode cX5_take 9 = .ok (.goto 4, 3) := by decide +kernel
theorem dX5_take_12 : decode cX5_take 12 = .ok (.iconst 0, 1) := by decide +kernel
theorem dX5_take_13 : decode cX5_take 13 = .ok (.istore_n 2, 1) := by decide +kernel
theorem dX5_take_14 : decode cX5_take 14 = .ok (.iload_n 2, 1) := by decide +kernel
theorem dX5_take_15 : decode cX5_take 15 = .ok (.ifCond .eq 13, 3) := by decide +kernel
theorem dX5_take_18 : decode cX5_take 18 = .ok (.aload_n 0, 1) := by decide +kernel
theorem dX5_take_19 : decode cX5_take 19 = .ok (.getfield 33, 3) := by decide +kernel
theorem dX5_take_22 : decode cX5_take 22 = .ok (.sipush 400, 3) := by decide +kernel
theorem dX5_take_25 : decode cX5_take 25 = .ok (.if_icmp .lt 34, 3) := by decide +kernel
theorem dX5_take_28 : decode cX5_take 28 = .ok (.aload_n 0, 1) := by decide +kernel
theorem dX5_take_29 : decode cX5_take 29 = .ok (.iload_n 2, 1) := by decide +kernel
theorem dX5_take_30 : decode cX5_take 30 = .ok (.ifCond .eq 7, 3) := by decide +kernel
theorem dX5_take_33 : decode cX5_take 33 = .ok (.iconst 2, 1) := by decide +kernel
theorem dX5_take_34 : decode cX5_take 34 = .ok (.goto 4, 3) := by decide +kernel
theorem dX5_take_37 : decode cX5_take 37 = .ok (.iconst 1, 1) := by decide +kernel
theorem dX5_take_38 : decode cX5_take 38 = .ok (.putfield 44, 3) := by decide +kernel
theorem dX5_take_41 : decode cX5_take 41 = .ok (.aload_n 0, 1) := by decide +kernel
theorem dX5_take_42 : decode cX5_take 42 = .ok (.aload_n 0, 1) := by decide +kernel
theorem dX5_take_43 : decode cX5_take 43 = .ok (.getfield 22, 3) := by decide +kernel
theorem dX5_take_46 : decode cX5_take 46 = .ok (.getfield 60, 3) := by decide +kernel
theorem dX5_take_49 : decode cX5_take 49 = .ok (.aload_n 0, 1) := by decide +kernel
theorem dX5_take_50 : decode cX5_take 50 = .ok (.getfield 33, 3) := by decide +kernel
theorem dX5_take_53 : decode cX5_take 53 = .ok (.iaload, 1) := by decide +kernel
theorem dX5_take_54 : decode cX5_take 54 = .ok (.putfield 57, 3) := by decide +kernel
theorem dX5_take_57 : decode cX5_take 57 = .ok (.iconst 0, 1) := by decide +kernel
theorem dX5_take_58 : decode cX5_take 58 = .ok (.ireturn, 1) := by decide +kernel
theorem dX5_take_59 : decode cX5_take 59 = .ok (.aload_n 0, 1) := by decide +kernel
theorem dX5_take_60 : decode cX5_take 60 = .ok (.dup, 1) := by decide +kernel
theorem dX5_take_61 : decode cX5_take 61 = .ok (.getfield 33, 3) := by decide +kernel
theorem dX5_take_64 : decode cX5_take 64 = .ok (.iconst 1, 1) := by decide +kernel
theorem dX5_take_65 : decode cX5_take 65 = .ok (.iadd, 1) := by decide +kernel
theorem dX5_take_66 : decode cX5_take 66 = .ok (.putfield 33, 3) := by decide +kernel
theorem dX5_take_69 : decode cX5_take 69 = .ok (.aload_n 0, 1) := by decide +kernel
theorem dX5_take_70 : decode cX5_take 70 = .ok (.aload_n 0, 1) := by decide +kernel
theorem dX5_take_71 : decode cX5_take 71 = .ok (.getfield 22, 3) := by decide +kernel
theorem dX5_take_74 : decode cX5_take 74 = .ok (.getfield 37, 3) := by decide +kernel
theorem dX5_take_77 : decode cX5_take 77 = .ok (.aload_n 0, 1) := by decide +kernel
theorem dX5_take_78 : decode cX5_take 78 = .ok (.getfield 33, 3) := by decide +kernel
theorem dX5_take_81 : decode cX5_take 81 = .ok (.iaload, 1) := by decide +kernel
theorem dX5_take_82 : decode cX5_take 82 = .ok (.putfield 41, 3) := by decide +kernel
theorem dX5_take_85 : decode cX5_take 85 = .ok (.iconst 1, 1) := by decide +kernel
theorem dX5_take_86 : decode cX5_take 86 = .ok (.ireturn, 1) := by decide +kernel
theorem dX5_takeInt_0 : decode cX5_takeInt 0 = .ok (.aload_n 0, 1) := by decide +kernel
theorem dX5_takeInt_1 : decode cX5_takeInt 1 = .ok (.getfield 33, 3) := by decide +kernel
theorem dX5_takeInt_4 : decode cX5_takeInt 4 = .ok (.istore_n 3, 1) := by decide +kernel
theorem dX5_takeInt_5 : decode cX5_takeInt 5 = .ok (.aload_n 0, 1) := by decide +kernel
theorem dX5_takeInt_6 : decode cX5_takeInt 6 = .ok (.iconst 2, 1) := by decide +kernel
theorem dX5_takeInt_7 : decode cX5_takeInt 7 = .ok (.invokevirtual 63, 3) := by decide +kernel
theorem dX5_takeInt_10 : decode cX5_takeInt 10 = .ok (.ifCond .ne 5, 3) := by decide +kernel
theorem dX5_takeInt_13 : decode cX5_takeInt 13 = .ok (.iconst 0, 1) := by decide +kernel
theorem dX5_takeInt_14 : decode cX5_takeInt 14 = .ok (.ireturn, 1) := by decide +kernel
theorem dX5_takeInt_15 : decode cX5_takeInt 15 = .ok (.aload_n 0, 1) := by decide +kernel
theorem dX5_takeInt_16 : decode cX5_takeInt 16 = .ok (.aload_n 0, 1) := by decide +kernel
theorem dX5_takeInt_17 : decode cX5_takeInt 17 = .ok (.getfield 22, 3) := by decide +kernel
theorem dX5_takeInt_20 : decode cX5_takeInt 20 = .ok (.getfield 67, 3) := by decide +kernel
theorem dX5_takeInt_23 : decode cX5_takeInt 23 = .ok (.iload_n 3, 1) := by decide +kernel
theorem dX5_takeInt_24 : decode cX5_takeInt 24 = .ok (.laload, 1) := by decide +kernel
theorem dX5_takeInt_25 : decode cX5_takeInt 25 = .ok (.l2i, 1) := by decide +kernel
theorem dX5_takeInt_26 : decode cX5_takeInt 26 = .ok (.putfield 70, 3) := by decide +kernel
theorem dX5_takeInt_29 : decode cX5_takeInt 29 = .ok (.aload_n 0, 1) := by decide +kernel
theorem dX5_takeInt_30 : decode cX5_takeInt 30 = .ok (.getfield 70, 3) := by decide +kernel
theorem dX5_takeInt_33 : decode cX5_takeInt 33 = .ok (.iload_n 1, 1) := by decide +kernel
theorem dX5_takeInt_34 : decode cX5_takeInt 34 = .ok (.if_icmp .lt 11, 3) := by decide +kernel
theorem dX5_takeInt_37 : decode cX5_takeInt 37 = .ok (.aload_n 0, 1) := by decide +kernel
theorem dX5_takeInt_38 : decode cX5_takeInt 38 = .ok (.getfield 70, 3) := by decide +kernel
theorem dX5_takeInt_41 : decode cX5_takeInt 41 = .ok (.iload_n 2, 1) := by decide +kernel
theorem dX5_takeInt_42 : decode cX5_takeInt 42 = .ok (.if_icmp .le 9, 3) := by decide +kernel
theorem dX5_takeInt_45 : decode cX5_takeInt 45 = .ok (.aload_n 0, 1) := by decide +kernel
theorem dX5_takeInt_46 : decode cX5_takeInt 46 = .ok (.iconst 5, 1) := by decide +kernel
theorem dX5_takeInt_47 : decode cX5_takeInt 47 = .ok (.iload_n 3, 1) := by decide +kernel
theorem dX5_takeInt_48 : decode cX5_takeInt 48 = .ok (.invokevirtual 73, 3) := by decide +kernel
theorem dX5_takeInt_51 : decode cX5_takeInt 51 = .ok (.iconst 1, 1) := by decide +kernel
theorem dX5_takeInt_52 : decode cX5_takeInt 52 = .ok (.ireturn, 1) := by decide +kernel
theorem dX5_takeNewName_0 : decode cX5_takeNewName 0 = .ok (.aload_n 0, 1) := by decide +kernel
theorem dX5_takeNewName_1 : decode cX5_takeNewName 1 = .ok (.getfield 33, 3) := by decide +kernel
theorem dX5_takeNewName_4 : decode cX5_takeNewName 4 = .ok (.istore_n 3, 1) := by decide +kernel
theorem dX5_takeNewName_5 : decode cX5_takeNewName 5 = .ok (.aload_n 0, 1) := by decide +kernel
theorem dX5_takeNewName_6 : decode cX5_takeNewName 6 = .ok (.iconst 1, 1) := by decide +kernel
theorem dX5_takeNewName_7 : decode cX5_takeNewName 7 = .ok (.invokevirtual 63, 3) := by decide +kernel
theorem dX5_takeNewName_10 : decode cX5_takeNewName 10 = .ok (.ifCond .ne 5, 3) := by decide +kernel
theorem dX5_takeNewName_13 : decode cX5_takeNewName 13 = .ok (.iconst 0, 1) := by decide +kernel
theorem dX5_takeNewName_14 : decode cX5_takeNewName 14 = .ok (.ireturn, 1) := by decide +kernel
theorem dX5_takeNewName_15 : decode cX5_takeNewName 15 = .ok (.aload_n 0, 1) := by decide +kernel
theorem dX5_takeNewName_16 : decode cX5_takeNewName 16 = .ok (.getfield 22, 3) := by decide +kernel
theorem dX5_takeNewName_19 : decode cX5_takeNewName 19 = .ok (.getfield 67, 3) := by decide +kernel
theorem dX5_takeNewName_22 : decode cX5_takeNewName 22 = .ok (.iload_n 3, 1) := by decide +kernel
theorem dX5_takeNewName_23 : decode cX5_takeNewName 23 = .ok (.laload, 1) := by decide +kernel
theorem dX5_takeNewName_24 : decode cX5_takeNewName 24 = .ok (.lstore 4, 2) := by decide +kernel
theorem dX5_takeNewName_26 : decode cX5_takeNewName 26 = .ok (.aload_n 0, 1) := by decide +kernel
theorem dX5_takeNewName_27 : decode cX5_takeNewName 27 = .ok (.getfield 15, 3) := by decide +kernel
theorem dX5_takeNewName_30 : decode cX5_takeNewName 30 = .ok (.aload_n 0, 1) := by decide +kernel
theorem dX5_takeNewName_31 : decode cX5_takeNewName 31 = .ok (.getfield 26, 3) := by decide +kernel
theorem dX5_takeNewName_34 : decode cX5_takeNewName 34 = .ok (.getfield 77, 3) := by decide +kernel
theorem dX5_takeNewName_37 : decode cX5_takeNewName 37 = .ok (.lload 4, 2) := by decide +kernel
theorem dX5_takeNewName_39 : decode cX5_takeNewName 39 = .ok (.invokestatic 80, 3) := by decide +kernel
theorem dX5_takeNewName_42 : decode cX5_takeNewName 42 = .ok (.iconst (-1), 1) := by decide +kernel
theorem dX5_takeNewName_43 : decode cX5_takeNewName 43 = .ok (.if_icmp .ne 23, 3) := by decide +kernel
theorem dX5_takeNewName_46 : decode cX5_takeNewName 46 = .ok (.aload_n 0, 1) := by decide +kernel
theorem dX5_takeNewName_47 : decode cX5_takeNewName 47 = .ok (.getfield 19, 3) := by decide +kernel
theorem dX5_takeNewName_50 : decode cX5_takeNewName 50 = .ok (.aload_n 0, 1) := by decide +kernel
theorem dX5_takeNewName_51 : decode cX5_takeNewName 51 = .ok (.getfield 26, 3) := by decide +kernel
theorem dX5_takeNewName_54 : decode cX5_takeNewName 54 = .ok (.getfield 84, 3) := by decide +kernel
theorem dX5_takeNewName_57 : decode cX5_takeNewName 57 = .ok (.lload 4, 2) := by decide +kernel
theorem dX5_takeNewName_59 : decode cX5_takeNewName 59 = .ok (.invokestatic 80, 3) := by decide +kernel
theorem dX5_takeNewName_62 : decode cX5_takeNewName 62 = .ok (.iconst (-1), 1) := by decide +kernel
theorem dX5_takeNewName_63 : decode cX5_takeNewName 63 = .ok (.if_icmp .eq 9, 3) := by decide +kernel
theorem dX5_takeNewName_66 : decode cX5_takeNewName 66 = .ok (.aload_n 0, 1) := by decide +kernel
theorem dX5_takeNewName_67 : decode cX5_takeNewName 67 = .ok (.iconst 3, 1) := by decide +kernel
theorem dX5_takeNewName_68 : decode cX5_takeNewName 68 = .ok (.iload_n 3, 1) := by decide +kernel
theorem dX5_takeNewName_69 : decode cX5_takeNewName 69 = .ok (.invokevirtual 73, 3) := by decide +kernel
