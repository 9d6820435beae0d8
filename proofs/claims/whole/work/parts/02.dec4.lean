theorem dX7_isCart_8 : decode cX7_isCart 8 = .ok (.iaload, 1) := by decide +kernel
theorem dX7_isCart_9 : decode cX7_isCart 9 = .ok (.iconst 1, 1) := by decide +kernel
theorem dX7_isCart_10 : decode cX7_isCart 10 = .ok (.isub, 1) := by decide +kernel
theorem dX7_isCart_11 : decode cX7_isCart 11 = .ok (.invokestatic 46, 3) := by decide +kernel
theorem dX7_isCart_14 : decode cX7_isCart 14 = .ok (.ireturn, 1) := by decide +kernel
theorem dX7_isAxle_0 : decode cX7_isAxle 0 = .ok (.aload_n 0, 1) := by decide +kernel
theorem dX7_isAxle_1 : decode cX7_isAxle 1 = .ok (.iload_n 1, 1) := by decide +kernel
theorem dX7_isAxle_2 : decode cX7_isAxle 2 = .ok (.invokevirtual 50, 3) := by decide +kernel
theorem dX7_isAxle_5 : decode cX7_isAxle 5 = .ok (.ifCond .eq 23, 3) := by decide +kernel
theorem dX7_isAxle_8 : decode cX7_isAxle 8 = .ok (.iload_n 2, 1) := by decide +kernel
theorem dX7_isAxle_9 : decode cX7_isAxle 9 = .ok (.iconst 0, 1) := by decide +kernel
theorem dX7_isAxle_10 : decode cX7_isAxle 10 = .ok (.aload_n 0, 1) := by decide +kernel
theorem dX7_isAxle_11 : decode cX7_isAxle 11 = .ok (.iload_n 1, 1) := by decide +kernel
theorem dX7_isAxle_12 : decode cX7_isAxle 12 = .ok (.iconst 0, 1) := by decide +kernel
theorem dX7_isAxle_13 : decode cX7_isAxle 13 = .ok (.invokevirtual 54, 3) := by decide +kernel
theorem dX7_isAxle_16 : decode cX7_isAxle 16 = .ok (.iconst 1, 1) := by decide +kernel
theorem dX7_isAxle_17 : decode cX7_isAxle 17 = .ok (.isub, 1) := by decide +kernel
theorem dX7_isAxle_18 : decode cX7_isAxle 18 = .ok (.invokestatic 46, 3) := by decide +kernel
theorem dX7_isAxle_21 : decode cX7_isAxle 21 = .ok (.ifCond .eq 7, 3) := by decide +kernel
theorem dX7_isAxle_24 : decode cX7_isAxle 24 = .ok (.iconst 1, 1) := by decide +kernel
theorem dX7_isAxle_25 : decode cX7_isAxle 25 = .ok (.goto 4, 3) := by decide +kernel
theorem dX7_isAxle_28 : decode cX7_isAxle 28 = .ok (.iconst 0, 1) := by decide +kernel
theorem dX7_isAxle_29 : decode cX7_isAxle 29 = .ok (.ireturn, 1) := by decide +kernel
theorem dX7_copyState_0 : decode cX7_copyState 0 = .ok (.iconst 0, 1) := by decide +kernel
theorem dX7_copyState_1 : decode cX7_copyState 1 = .ok (.istore 4, 2) := by decide +kernel
theorem dX7_copyState_3 : decode cX7_copyState 3 = .ok (.iload 4, 2) := by decide +kernel
theorem dX7_copyState_5 : decode cX7_copyState 5 = .ok (.sipush 129, 3) := by decide +kernel
theorem dX7_copyState_8 : decode cX7_copyState 8 = .ok (.if_icmp .ge 21, 3) := by decide +kernel
theorem dX7_copyState_11 : decode cX7_copyState 11 = .ok (.aload_n 2, 1) := by decide +kernel
theorem dX7_copyState_12 : decode cX7_copyState 12 = .ok (.iload_n 3, 1) := by decide +kernel
theorem dX7_copyState_13 : decode cX7_copyState 13 = .ok (.iload 4, 2) := by decide +kernel
theorem dX7_copyState_15 : decode cX7_copyState 15 = .ok (.iadd, 1) := by decide +kernel
theorem dX7_copyState_16 : decode cX7_copyState 16 = .ok (.aload_n 0, 1) := by decide +kernel
theorem dX7_copyState_17 : decode cX7_copyState 17 = .ok (.iload_n 1, 1) := by decide +kernel
theorem dX7_copyState_18 : decode cX7_copyState 18 = .ok (.iload 4, 2) := by decide +kernel
theorem dX7_copyState_20 : decode cX7_copyState 20 = .ok (.iadd, 1) := by decide +kernel
theorem dX7_copyState_21 : decode cX7_copyState 21 = .ok (.iaload, 1) := by decide +kernel
theorem dX7_copyState_22 : decode cX7_copyState 22 = .ok (.iastore, 1) := by decide +kernel
theorem dX7_copyState_23 : decode cX7_copyState 23 = .ok (.iinc 4 1, 3) := by decide +kernel
theorem dX7_copyState_26 : decode cX7_copyState 26 = .ok (.goto (-23), 3) := by decide +kernel
theorem dX7_copyState_29 : decode cX7_copyState 29 = .ok (.return_, 1) := by decide +kernel
theorem dX7_record_0 : decode cX7_record 0 = .ok (.aload_n 0, 1) := by decide +kernel
theorem dX7_record_1 : decode cX7_record 1 = .ok (.getfield 58, 3) := by decide +kernel
theorem dX7_record_4 : decode cX7_record 4 = .ok (.iconst 4, 1) := by decide +kernel
theorem dX7_record_5 : decode cX7_record 5 = .ok (.if_icmp .ne 44, 3) := by decide +kernel
theorem dX7_record_8 : decode cX7_record 8 = .ok (.iconst 0, 1) := by decide +kernel
theorem dX7_record_9 : decode cX7_record 9 = .ok (.istore_n 1, 1) := by decide +kernel
theorem dX7_record_10 : decode cX7_record 10 = .ok (.iload_n 1, 1) := by decide +kernel
theorem dX7_record_11 : decode cX7_record 11 = .ok (.sipush 387, 3) := by decide +kernel
theorem dX7_record_14 : decode cX7_record 14 = .ok (.if_icmp .ge 25, 3) := by decide +kernel
theorem dX7_record_17 : decode cX7_record 17 = .ok (.aload_n 0, 1) := by decide +kernel
theorem dX7_record_18 : decode cX7_record 18 = .ok (.getfield 13, 3) := by decide +kernel
theorem dX7_record_21 : decode cX7_record 21 = .ok (.iload_n 1, 1) := by decide +kernel
theorem dX7_record_22 : decode cX7_record 22 = .ok (.aload_n 0, 1) := by decide +kernel
theorem dX7_record_23 : decode cX7_record 23 = .ok (.getfield 13, 3) := by decide +kernel
theorem dX7_record_26 : decode cX7_record 26 = .ok (.iload_n 1, 1) := by decide +kernel
theorem dX7_record_27 : decode cX7_record 27 = .ok (.sipush 129, 3) := by decide +kernel
theorem dX7_record_30 : decode cX7_record 30 = .ok (.iadd, 1) := by decide +kernel
theorem dX7_record_31 : decode cX7_record 31 = .ok (.iaload, 1) := by decide +kernel
theorem dX7_record_32 : decode cX7_record 32 = .ok (.iastore, 1) := by decide +kernel
theorem dX7_record_33 : decode cX7_record 33 = .ok (.iinc 1 1, 3) := by decide +kernel
theorem dX7_record_36 : decode cX7_record 36 = .ok (.goto (-26), 3) := by decide +kernel
theorem dX7_record_39 : decode cX7_record 39 = .ok (.aload_n 0, 1) := by decide +kernel
theorem dX7_record_40 : decode cX7_record 40 = .ok (.dup, 1) := by decide +kernel
theorem dX7_record_41 : decode cX7_record 41 = .ok (.getfield 58, 3) := by decide +kernel
theorem dX7_record_44 : decode cX7_record 44 = .ok (.iconst 1, 1) := by decide +kernel
theorem dX7_record_45 : decode cX7_record 45 = .ok (.isub, 1) := by decide +kernel
theorem dX7_record_46 : decode cX7_record 46 = .ok (.putfield 58, 3) := by decide +kernel
theorem dX7_record_49 : decode cX7_record 49 = .ok (.aload_n 0, 1) := by decide +kernel
theorem dX7_record_50 : decode cX7_record 50 = .ok (.getfield 7, 3) := by decide +kernel
theorem dX7_record_53 : decode cX7_record 53 = .ok (.iconst 0, 1) := by decide +kernel
theorem dX7_record_54 : decode cX7_record 54 = .ok (.aload_n 0, 1) := by decide +kernel
theorem dX7_record_55 : decode cX7_record 55 = .ok (.getfield 13, 3) := by decide +kernel
theorem dX7_record_58 : decode cX7_record 58 = .ok (.sipush 129, 3) := by decide +kernel
theorem dX7_record_61 : decode cX7_record 61 = .ok (.aload_n 0, 1) := by decide +kernel
theorem dX7_record_62 : decode cX7_record 62 = .ok (.getfield 58, 3) := by decide +kernel
theorem dX7_record_65 : decode cX7_record 65 = .ok (.imul, 1) := by decide +kernel
theorem dX7_record_66 : decode cX7_record 66 = .ok (.invokestatic 62, 3) := by decide +kernel
theorem dX7_record_69 : decode cX7_record 69 = .ok (.aload_n 0, 1) := by decide +kernel
theorem dX7_record_70 : decode cX7_record 70 = .ok (.dup, 1) := by decide +kernel
theorem dX7_record_71 : decode cX7_record 71 = .ok (.getfield 58, 3) := by decide +kernel
theorem dX7_record_74 : decode cX7_record 74 = .ok (.iconst 1, 1) := by decide +kernel
theorem dX7_record_75 : decode cX7_record 75 = .ok (.iadd, 1) := by decide +kernel
theorem dX7_record_76 : decode cX7_record 76 = .ok (.putfield 58, 3) := by decide +kernel
theorem dX7_record_79 : decode cX7_record 79 = .ok (.return_, 1) := by decide +kernel
theorem dX7_undo_0 : decode cX7_undo 0 = .ok (.aload_n 0, 1) := by decide +kernel
theorem dX7_undo_1 : decode cX7_undo 1 = .ok (.getfield 58, 3) := by decide +kernel
theorem dX7_undo_4 : decode cX7_undo 4 = .ok (.ifCond .ne 6, 3) := by decide +kernel
theorem dX7_undo_7 : decode cX7_undo 7 = .ok (.bipush (-5), 2) := by decide +kernel
theorem dX7_undo_9 : decode cX7_undo 9 = .ok (.ireturn, 1) := by decide +kernel
theorem dX7_undo_10 : decode cX7_undo 10 = .ok (.aload_n 0, 1) := by decide +kernel
theorem dX7_undo_11 : decode cX7_undo 11 = .ok (.dup, 1) := by decide +kernel
theorem dX7_undo_12 : decode cX7_undo 12 = .ok (.getfield 58, 3) := by decide +kernel
theorem dX7_undo_15 : decode cX7_undo 15 = .ok (.iconst 1, 1) := by decide +kernel
theorem dX7_undo_16 : decode cX7_undo 16 = .ok (.isub, 1) := by decide +kernel
theorem dX7_undo_17 : decode cX7_undo 17 = .ok (.putfield 58, 3) := by decide +kernel
theorem dX7_undo_20 : decode cX7_undo 20 = .ok (.aload_n 0, 1) := by decide +kernel
theorem dX7_undo_21 : decode cX7_undo 21 = .ok (.getfield 13, 3) := by decide +kernel
theorem dX7_undo_24 : decode cX7_undo 24 = .ok (.sipush 129, 3) := by decide +kernel
theorem dX7_undo_27 : decode cX7_undo 27 = .ok (.aload_n 0, 1) := by decide +kernel
theorem dX7_undo_28 : decode cX7_undo 28 = .ok (.getfield 58, 3) := by decide +kernel
theorem dX7_undo_31 : decode cX7_undo 31 = .ok (.imul, 1) := by decide +kernel
theorem dX7_undo_32 : decode cX7_undo 32 = .ok (.aload_n 0, 1) := by decide +kernel
theorem dX7_undo_33 : decode cX7_undo 33 = .ok (.getfield 7, 3) := by decide +kernel
theorem dX7_undo_36 : decode cX7_undo 36 = .ok (.iconst 0, 1) := by decide +kernel
theorem dX7_undo_37 : decode cX7_undo 37 = .ok (.invokestatic 62, 3) := by decide +kernel
theorem dX7_undo_40 : decode cX7_undo 40 = .ok (.aload_n 0, 1) := by decide +kernel
theorem dX7_undo_41 : decode cX7_undo 41 = .ok (.getfield 58, 3) := by decide +kernel
theorem dX7_undo_44 : decode cX7_undo 44 = .ok (.ireturn, 1) := by decide +kernel
theorem dX7_keep_0 : decode cX7_keep 0 = .ok (.aload_n 0, 1) := by decide +kernel
theorem dX7_keep_1 : decode cX7_keep 1 = .ok (.getfield 7, 3) := by decide +kernel
theorem dX7_keep_4 : decode cX7_keep 4 = .ok (.iconst 0, 1) := by decide +kernel
theorem dX7_keep_5 : decode cX7_keep 5 = .ok (.aload_n 0, 1) := by decide +kernel
theorem dX7_keep_6 : decode cX7_keep 6 = .ok (.getfield 16, 3) := by decide +kernel
theorem dX7_keep_9 : decode cX7_keep 9 = .ok (.iconst 0, 1) := by decide +kernel
theorem dX7_keep_10 : decode cX7_keep 10 = .ok (.invokestatic 62, 3) := by decide +kernel
theorem dX7_keep_13 : decode cX7_keep 13 = .ok (.aload_n 0, 1) := by decide +kernel
theorem dX7_keep_14 : decode cX7_keep 14 = .ok (.iconst 1, 1) := by decide +kernel
theorem dX7_keep_15 : decode cX7_keep 15 = .ok (.putfield 66, 3) := by decide +kernel
theorem dX7_keep_18 : decode cX7_keep 18 = .ok (.aload_n 0, 1) := by decide +kernel
theorem dX7_keep_19 : decode cX7_keep 19 = .ok (.getfield 7, 3) := by decide +kernel
theorem dX7_keep_22 : decode cX7_keep 22 = .ok (.bipush 6, 2) := by decide +kernel
theorem dX7_keep_24 : decode cX7_keep 24 = .ok (.iaload, 1) := by decide +kernel
theorem dX7_keep_25 : decode cX7_keep 25 = .ok (.ireturn, 1) := by decide +kernel
theorem dX7_restore_0 : decode cX7_restore 0 = .ok (.aload_n 0, 1) := by decide +kernel
theorem dX7_restore_1 : decode cX7_restore 1 = .ok (.getfield 66, 3) := by decide +kernel
theorem dX7_restore_4 : decode cX7_restore 4 = .ok (.ifCond .ne 6, 3) := by decide +kernel
theorem dX7_restore_7 : decode cX7_restore 7 = .ok (.bipush (-5), 2) := by decide +kernel
theorem dX7_restore_9 : decode cX7_restore 9 = .ok (.ireturn, 1) := by decide +kernel
theorem dX7_restore_10 : decode cX7_restore 10 = .ok (.aload_n 0, 1) := by decide +kernel
theorem dX7_restore_11 : decode cX7_restore 11 = .ok (.invokevirtual 70, 3) := by decide +kernel
theorem dX7_restore_14 : decode cX7_restore 14 = .ok (.aload_n 0, 1) := by decide +kernel
theorem dX7_restore_15 : decode cX7_restore 15 = .ok (.getfield 16, 3) := by decide +kernel
theorem dX7_restore_18 : decode cX7_restore 18 = .ok (.iconst 0, 1) := by decide +kernel
theorem dX7_restore_19 : decode cX7_restore 19 = .ok (.aload_n 0, 1) := by decide +kernel
theorem dX7_restore_20 : decode cX7_restore 20 = .ok (.getfield 7, 3) := by decide +kernel
theorem dX7_restore_23 : decode cX7_restore 23 = .ok (.iconst 0, 1) := by decide +kernel
theorem dX7_restore_24 : decode cX7_restore 24 = .ok (.invokestatic 62, 3) := by decide +kernel
theorem dX7_restore_27 : decode cX7_restore 27 = .ok (.aload_n 0, 1) := by decide +kernel
theorem dX7_restore_28 : decode cX7_restore 28 = .ok (.getfield 7, 3) := by decide +kernel
theorem dX7_restore_31 : decode cX7_restore 31 = .ok (.bipush 6, 2) := by decide +kernel
theorem dX7_restore_33 : decode cX7_restore 33 = .ok (.iaload, 1) := by decide +kernel
theorem dX7_restore_34 : decode cX7_restore 34 = .ok (.ireturn, 1) := by decide +kernel
theorem dX7_newCart_0 : decode cX7_newCart 0 = .ok (.aload_n 0, 1) := by decide +kernel
theorem dX7_newCart_1 : decode cX7_newCart 1 = .ok (.getfield 7, 3) := by decide +kernel
theorem dX7_newCart_4 : decode cX7_newCart 4 = .ok (.bipush 6, 2) := by decide +kernel
theorem dX7_newCart_6 : decode cX7_newCart 6 = .ok (.iaload, 1) := by decide +kernel
theorem dX7_newCart_7 : decode cX7_newCart 7 = .ok (.istore_n 2, 1) := by decide +kernel
theorem dX7_newCart_8 : decode cX7_newCart 8 = .ok (.iconst 0, 1) := by decide +kernel
theorem dX7_newCart_9 : decode cX7_newCart 9 = .ok (.istore_n 3, 1) := by decide +kernel
theorem dX7_newCart_10 : decode cX7_newCart 10 = .ok (.iload_n 3, 1) := by decide +kernel
theorem dX7_newCart_11 : decode cX7_newCart 11 = .ok (.bipush 20, 2) := by decide +kernel
theorem dX7_newCart_13 : decode cX7_newCart 13 = .ok (.if_icmp .ge 16, 3) := by decide +kernel
theorem dX7_newCart_16 : decode cX7_newCart 16 = .ok (.aload_n 0, 1) := by decide +kernel
theorem dX7_newCart_17 : decode cX7_newCart 17 = .ok (.iload_n 2, 1) := by decide +kernel
theorem dX7_newCart_18 : decode cX7_newCart 18 = .ok (.iload_n 3, 1) := by decide +kernel
theorem dX7_newCart_19 : decode cX7_newCart 19 = .ok (.iconst 0, 1) := by decide +kernel
theorem dX7_newCart_20 : decode cX7_newCart 20 = .ok (.invokevirtual 73, 3) := by decide +kernel
theorem dX7_newCart_23 : decode cX7_newCart 23 = .ok (.iinc 3 1, 3) := by decide +kernel
theorem dX7_newCart_26 : decode cX7_newCart 26 = .ok (.goto (-16), 3) := by decide +kernel
theorem dX7_newCart_29 : decode cX7_newCart 29 = .ok (.aload_n 0, 1) := by decide +kernel
theorem dX7_newCart_30 : decode cX7_newCart 30 = .ok (.iload_n 2, 1) := by decide +kernel
theorem dX7_newCart_31 : decode cX7_newCart 31 = .ok (.iconst 1, 1) := by decide +kernel
theorem dX7_newCart_32 : decode cX7_newCart 32 = .ok (.bipush (-5), 2) := by decide +kernel
theorem dX7_newCart_34 : decode cX7_newCart 34 = .ok (.invokevirtual 73, 3) := by decide +kernel
theorem dX7_newCart_37 : decode cX7_newCart 37 = .ok (.aload_n 0, 1) := by decide +kernel
theorem dX7_newCart_38 : decode cX7_newCart 38 = .ok (.iload_n 2, 1) := by decide +kernel
theorem dX7_newCart_39 : decode cX7_newCart 39 = .ok (.iconst 2, 1) := by decide +kernel
theorem dX7_newCart_40 : decode cX7_newCart 40 = .ok (.bipush (-5), 2) := by decide +kernel
theorem dX7_newCart_42 : decode cX7_newCart 42 = .ok (.invokevirtual 73, 3) := by decide +kernel
theorem dX7_newCart_45 : decode cX7_newCart 45 = .ok (.aload_n 0, 1) := by decide +kernel
theorem dX7_newCart_46 : decode cX7_newCart 46 = .ok (.iload_n 2, 1) := by decide +kernel
theorem dX7_newCart_47 : decode cX7_newCart 47 = .ok (.iconst 3, 1) := by decide +kernel
theorem dX7_newCart_48 : decode cX7_newCart 48 = .ok (.bipush (-5), 2) := by decide +kernel
theorem dX7_newCart_50 : decode cX7_newCart 50 = .ok (.invokevirtual 73, 3) := by decide +kernel
theorem dX7_newCart_53 : decode cX7_newCart 53 = .ok (.aload_n 0, 1) := by decide +kernel
theorem dX7_newCart_54 : decode cX7_newCart 54 = .ok (.iload_n 2, 1) := by decide +kernel
theorem dX7_newCart_55 : decode cX7_newCart 55 = .ok (.iconst 4, 1) := by decide +kernel
theorem dX7_newCart_56 : decode cX7_newCart 56 = .ok (.bipush (-5), 2) := by decide +kernel
theorem dX7_newCart_58 : decode cX7_newCart 58 = .ok (.invokevirtual 73, 3) := by decide +kernel
theorem dX7_newCart_61 : decode cX7_newCart 61 = .ok (.aload_n 0, 1) := by decide +kernel
theorem dX7_newCart_62 : decode cX7_newCart 62 = .ok (.iload_n 2, 1) := by decide +kernel
theorem dX7_newCart_63 : decode cX7_newCart 63 = .ok (.iconst 0, 1) := by decide +kernel
theorem dX7_newCart_64 : decode cX7_newCart 64 = .ok (.iconst 1, 1) := by decide +kernel
theorem dX7_newCart_65 : decode cX7_newCart 65 = .ok (.invokevirtual 73, 3) := by decide +kernel
theorem dX7_newCart_68 : decode cX7_newCart 68 = .ok (.aload_n 0, 1) := by decide +kernel
theorem dX7_newCart_69 : decode cX7_newCart 69 = .ok (.iload_n 2, 1) := by decide +kernel
theorem dX7_newCart_70 : decode cX7_newCart 70 = .ok (.iconst 5, 1) := by decide +kernel
theorem dX7_newCart_71 : decode cX7_newCart 71 = .ok (.iload_n 1, 1) := by decide +kernel
theorem dX7_newCart_72 : decode cX7_newCart 72 = .ok (.invokevirtual 73, 3) := by decide +kernel
theorem dX7_newCart_75 : decode cX7_newCart 75 = .ok (.aload_n 0, 1) := by decide +kernel
theorem dX7_newCart_76 : decode cX7_newCart 76 = .ok (.getfield 7, 3) := by decide +kernel
theorem dX7_newCart_79 : decode cX7_newCart 79 = .ok (.bipush 6, 2) := by decide +kernel
theorem dX7_newCart_81 : decode cX7_newCart 81 = .ok (.dup2, 1) := by decide +kernel
theorem dX7_newCart_82 : decode cX7_newCart 82 = .ok (.iaload, 1) := by decide +kernel
theorem dX7_newCart_83 : decode cX7_newCart 83 = .ok (.iconst 1, 1) := by decide +kernel
theorem dX7_newCart_84 : decode cX7_newCart 84 = .ok (.iadd, 1) := by decide +kernel
theorem dX7_newCart_85 : decode cX7_newCart 85 = .ok (.iastore, 1) := by decide +kernel
theorem dX7_newCart_86 : decode cX7_newCart 86 = .ok (.return_, 1) := by decide +kernel
theorem dX7_newAxle_0 : decode cX7_newAxle 0 = .ok (.aload_n 0, 1) := by decide +kernel
theorem dX7_newAxle_1 : decode cX7_newAxle 1 = .ok (.iload_n 1, 1) := by decide +kernel
theorem dX7_newAxle_2 : decode cX7_newAxle 2 = .ok (.iconst 0, 1) := by decide +kernel
theorem dX7_newAxle_3 : decode cX7_newAxle 3 = .ok (.invokevirtual 54, 3) := by decide +kernel
theorem dX7_newAxle_6 : decode cX7_newAxle 6 = .ok (.istore 4, 2) := by decide +kernel
theorem dX7_newAxle_8 : decode cX7_newAxle 8 = .ok (.aload_n 0, 1) := by decide +kernel
theorem dX7_newAxle_9 : decode cX7_newAxle 9 = .ok (.iload_n 1, 1) := by decide +kernel
theorem dX7_newAxle_10 : decode cX7_newAxle 10 = .ok (.iconst 5, 1) := by decide +kernel
theorem dX7_newAxle_11 : decode cX7_newAxle 11 = .ok (.iload 4, 2) := by decide +kernel
theorem dX7_newAxle_13 : decode cX7_newAxle 13 = .ok (.iadd, 1) := by decide +kernel
theorem dX7_newAxle_14 : decode cX7_newAxle 14 = .ok (.iload_n 3, 1) := by decide +kernel
theorem dX7_newAxle_15 : decode cX7_newAxle 15 = .ok (.invokevirtual 73, 3) := by decide +kernel
theorem dX7_newAxle_18 : decode cX7_newAxle 18 = .ok (.aload_n 0, 1) := by decide +kernel
theorem dX7_newAxle_19 : decode cX7_newAxle 19 = .ok (.iload_n 1, 1) := by decide +kernel
theorem dX7_newAxle_20 : decode cX7_newAxle 20 = .ok (.bipush 10, 2) := by decide +kernel
theorem dX7_newAxle_22 : decode cX7_newAxle 22 = .ok (.iload 4, 2) := by decide +kernel
theorem dX7_newAxle_24 : decode cX7_newAxle 24 = .ok (.iadd, 1) := by decide +kernel
theorem dX7_newAxle_25 : decode cX7_newAxle 25 = .ok (.iload_n 2, 1) := by decide +kernel
theorem dX7_newAxle_26 : decode cX7_newAxle 26 = .ok (.invokevirtual 73, 3) := by decide +kernel
theorem dX7_newAxle_29 : decode cX7_newAxle 29 = .ok (.aload_n 0, 1) := by decide +kernel
theorem dX7_newAxle_30 : decode cX7_newAxle 30 = .ok (.iload_n 1, 1) := by decide +kernel
theorem dX7_newAxle_31 : decode cX7_newAxle 31 = .ok (.bipush 15, 2) := by decide +kernel
theorem dX7_newAxle_33 : decode cX7_newAxle 33 = .ok (.iload 4, 2) := by decide +kernel
theorem dX7_newAxle_35 : decode cX7_newAxle 35 = .ok (.iadd, 1) := by decide +kernel
theorem dX7_newAxle_36 : decode cX7_newAxle 36 = .ok (.iconst 0, 1) := by decide +kernel
theorem dX7_newAxle_37 : decode cX7_newAxle 37 = .ok (.invokevirtual 73, 3) := by decide +kernel
theorem dX7_newAxle_40 : decode cX7_newAxle 40 = .ok (.aload_n 0, 1) := by decide +kernel
theorem dX7_newAxle_41 : decode cX7_newAxle 41 = .ok (.iload_n 1, 1) := by decide +kernel
theorem dX7_newAxle_42 : decode cX7_newAxle 42 = .ok (.iconst 0, 1) := by decide +kernel
theorem dX7_newAxle_43 : decode cX7_newAxle 43 = .ok (.iload 4, 2) := by decide +kernel
theorem dX7_newAxle_45 : decode cX7_newAxle 45 = .ok (.iconst 1, 1) := by decide +kernel
theorem dX7_newAxle_46 : decode cX7_newAxle 46 = .ok (.iadd, 1) := by decide +kernel
theorem dX7_newAxle_47 : decode cX7_newAxle 47 = .ok (.invokevirtual 73, 3) := by decide +kernel
theorem dX7_newAxle_50 : decode cX7_newAxle 50 = .ok (.return_, 1) := by decide +kernel
theorem dX7_cart_0 : decode cX7_cart 0 = .ok (.iload_n 1, 1) := by decide +kernel
theorem dX7_cart_1 : decode cX7_cart 1 = .ok (.iconst 1, 1) := by decide +kernel
theorem dX7_cart_2 : decode cX7_cart 2 = .ok (.sipush 200, 3) := by decide +kernel
theorem dX7_cart_5 : decode cX7_cart 5 = .ok (.invokestatic 46, 3) := by decide +kernel
theorem dX7_cart_8 : decode cX7_cart 8 = .ok (.ifCond .ne 6, 3) := by decide +kernel
theorem dX7_cart_11 : decode cX7_cart 11 = .ok (.bipush (-2), 2) := by decide +kernel
theorem dX7_cart_13 : decode cX7_cart 13 = .ok (.ireturn, 1) := by decide +kernel
theorem dX7_cart_14 : decode cX7_cart 14 = .ok (.aload_n 0, 1) := by decide +kernel
theorem dX7_cart_15 : decode cX7_cart 15 = .ok (.getfield 7, 3) := by decide +kernel
theorem dX7_cart_18 : decode cX7_cart 18 = .ok (.bipush 6, 2) := by decide +kernel
theorem dX7_cart_20 : decode cX7_cart 20 = .ok (.iaload, 1) := by decide +kernel
theorem dX7_cart_21 : decode cX7_cart 21 = .ok (.bipush 6, 2) := by decide +kernel
theorem dX7_cart_23 : decode cX7_cart 23 = .ok (.if_icmp .ne 6, 3) := by decide +kernel
theorem dX7_cart_26 : decode cX7_cart 26 = .ok (.bipush (-3), 2) := by decide +kernel
theorem dX7_cart_28 : decode cX7_cart 28 = .ok (.ireturn, 1) := by decide +kernel
theorem dX7_cart_29 : decode cX7_cart 29 = .ok (.aload_n 0, 1) := by decide +kernel
theorem dX7_cart_30 : decode cX7_cart 30 = .ok (.invokevirtual 70, 3) := by decide +kernel
theorem dX7_cart_33 : decode cX7_cart 33 = .ok (.aload_n 0, 1) := by decide +kernel
theorem dX7_cart_34 : decode cX7_cart 34 = .ok (.iload_n 1, 1) := by decide +kernel
theorem dX7_cart_35 : decode cX7_cart 35 = .ok (.invokevirtual 77, 3) := by decide +kernel
theorem dX7_cart_38 : decode cX7_cart 38 = .ok (.aload_n 0, 1) := by decide +kernel
theorem dX7_cart_39 : decode cX7_cart 39 = .ok (.getfield 7, 3) := by decide +kernel
theorem dX7_cart_42 : decode cX7_cart 42 = .ok (.bipush 6, 2) := by decide +kernel
theorem dX7_cart_44 : decode cX7_cart 44 = .ok (.iaload, 1) := by decide +kernel
theorem dX7_cart_45 : decode cX7_cart 45 = .ok (.iconst 1, 1) := by decide +kernel
theorem dX7_cart_46 : decode cX7_cart 46 = .ok (.isub, 1) := by decide +kernel
theorem dX7_cart_47 : decode cX7_cart 47 = .ok (.ireturn, 1) := by decide +kernel
theorem dX7_axle_0 : decode cX7_axle 0 = .ok (.aload_n 0, 1) := by decide +kernel
theorem dX7_axle_1 : decode cX7_axle 1 = .ok (.iload_n 1, 1) := by decide +kernel
theorem dX7_axle_2 : decode cX7_axle 2 = .ok (.invokevirtual 50, 3) := by decide +kernel
theorem dX7_axle_5 : decode cX7_axle 5 = .ok (.ifCond .ne 5, 3) := by decide +kernel
theorem dX7_axle_8 : decode cX7_axle 8 = .ok (.iconst (-1), 1) := by decide +kernel
theorem dX7_axle_9 : decode cX7_axle 9 = .ok (.ireturn, 1) := by decide +kernel
theorem dX7_axle_10 : decode cX7_axle 10 = .ok (.iload_n 2, 1) := by decide +kernel
theorem dX7_axle_11 : decode cX7_axle 11 = .ok (.iconst 2, 1) := by decide +kernel
theorem dX7_axle_12 : decode cX7_axle 12 = .ok (.bipush 40, 2) := by decide +kernel
theorem dX7_axle_14 : decode cX7_axle 14 = .ok (.invokestatic 46, 3) := by decide +kernel
theorem dX7_axle_17 : decode cX7_axle 17 = .ok (.ifCond .eq 14, 3) := by decide +kernel
theorem dX7_axle_20 : decode cX7_axle 20 = .ok (.iload_n 3, 1) := by decide +kernel
theorem dX7_axle_21 : decode cX7_axle 21 = .ok (.iconst 1, 1) := by decide +kernel
theorem dX7_axle_22 : decode cX7_axle 22 = .ok (.sipush 200, 3) := by decide +kernel
theorem dX7_axle_25 : decode cX7_axle 25 = .ok (.invokestatic 46, 3) := by decide +kernel
theorem dX7_axle_28 : decode cX7_axle 28 = .ok (.ifCond .ne 6, 3) := by decide +kernel
theorem dX7_axle_31 : decode cX7_axle 31 = .ok (.bipush (-2), 2) := by decide +kernel
theorem dX7_axle_33 : decode cX7_axle 33 = .ok (.ireturn, 1) := by decide +kernel
theorem dX7_axle_34 : decode cX7_axle 34 = .ok (.aload_n 0, 1) := by decide +kernel
theorem dX7_axle_35 : decode cX7_axle 35 = .ok (.iload_n 1, 1) := by decide +kernel
theorem dX7_axle_36 : decode cX7_axle 36 = .ok (.iconst 0, 1) := by decide +kernel
theorem dX7_axle_37 : decode cX7_axle 37 = .ok (.invokevirtual 54, 3) := by decide +kernel
theorem dX7_axle_40 : decode cX7_axle 40 = .ok (.iconst 5, 1) := by decide +kernel
theorem dX7_axle_41 : decode cX7_axle 41 = .ok (.if_icmp .ne 6, 3) := by decide +kernel
theorem dX7_axle_44 : decode cX7_axle 44 = .ok (.bipush (-3), 2) := by decide +kernel
theorem dX7_axle_46 : decode cX7_axle 46 = .ok (.ireturn, 1) := by decide +kernel
theorem dX7_axle_47 : decode cX7_axle 47 = .ok (.aload_n 0, 1) := by decide +kernel
theorem dX7_axle_48 : decode cX7_axle 48 = .ok (.invokevirtual 70, 3) := by decide +kernel
theorem dX7_axle_51 : decode cX7_axle 51 = .ok (.aload_n 0, 1) := by decide +kernel
theorem dX7_axle_52 : decode cX7_axle 52 = .ok (.iload_n 1, 1) := by decide +kernel
theorem dX7_axle_53 : decode cX7_axle 53 = .ok (.iload_n 2, 1) := by decide +kernel
theorem dX7_axle_54 : decode cX7_axle 54 = .ok (.iload_n 3, 1) := by decide +kernel
theorem dX7_axle_55 : decode cX7_axle 55 = .ok (.invokevirtual 81, 3) := by decide +kernel
theorem dX7_axle_58 : decode cX7_axle 58 = .ok (.aload_n 0, 1) := by decide +kernel
theorem dX7_axle_59 : decode cX7_axle 59 = .ok (.iload_n 1, 1) := by decide +kernel
theorem dX7_axle_60 : decode cX7_axle 60 = .ok (.iconst 0, 1) := by decide +kernel
theorem dX7_axle_61 : decode cX7_axle 61 = .ok (.invokevirtual 54, 3) := by decide +kernel
theorem dX7_axle_64 : decode cX7_axle 64 = .ok (.ireturn, 1) := by decide +kernel
theorem dX7_load_0 : decode cX7_load 0 = .ok (.aload_n 0, 1) := by decide +kernel
theorem dX7_load_1 : decode cX7_load 1 = .ok (.iload_n 1, 1) := by decide +kernel
theorem dX7_load_2 : decode cX7_load 2 = .ok (.iload_n 2, 1) := by decide +kernel
theorem dX7_load_3 : decode cX7_load 3 = .ok (.invokevirtual 84, 3) := by decide +kernel
theorem dX7_load_6 : decode cX7_load 6 = .ok (.ifCond .ne 5, 3) := by decide +kernel
theorem dX7_load_9 : decode cX7_load 9 = .ok (.iconst (-1), 1) := by decide +kernel
theorem dX7_load_10 : decode cX7_load 10 = .ok (.ireturn, 1) := by decide +kernel
theorem dX7_load_11 : decode cX7_load 11 = .ok (.iload_n 3, 1) := by decide +kernel
theorem dX7_load_12 : decode cX7_load 12 = .ok (.iconst 1, 1) := by decide +kernel
theorem dX7_load_13 : decode cX7_load 13 = .ok (.sipush 200, 3) := by decide +kernel
theorem dX7_load_16 : decode cX7_load 16 = .ok (.invokestatic 46, 3) := by decide +kernel
theorem dX7_load_19 : decode cX7_load 19 = .ok (.ifCond .ne 6, 3) := by decide +kernel
theorem dX7_load_22 : decode cX7_load 22 = .ok (.bipush (-2), 2) := by decide +kernel
theorem dX7_load_24 : decode cX7_load 24 = .ok (.ireturn, 1) := by decide +kernel
theorem dX7_load_25 : decode cX7_load 25 = .ok (.aload_n 0, 1) := by decide +kernel
theorem dX7_load_26 : decode cX7_load 26 = .ok (.iload_n 1, 1) := by decide +kernel
theorem dX7_load_27 : decode cX7_load 27 = .ok (.iconst 5, 1) := by decide +kernel
theorem dX7_load_28 : decode cX7_load 28 = .ok (.iload_n 2, 1) := by decide +kernel
theorem dX7_load_29 : decode cX7_load 29 = .ok (.iadd, 1) := by decide +kernel
theorem dX7_load_30 : decode cX7_load 30 = .ok (.invokevirtual 54, 3) := by decide +kernel
theorem dX7_load_33 : decode cX7_load 33 = .ok (.istore 4, 2) := by decide +kernel
theorem dX7_load_35 : decode cX7_load 35 = .ok (.iload 4, 2) := by decide +kernel
theorem dX7_load_37 : decode cX7_load 37 = .ok (.iload_n 3, 1) := by decide +kernel
theorem dX7_load_38 : decode cX7_load 38 = .ok (.if_icmp .ne 6, 3) := by decide +kernel
theorem dX7_load_41 : decode cX7_load 41 = .ok (.bipush (-5), 2) := by decide +kernel
theorem dX7_load_43 : decode cX7_load 43 = .ok (.ireturn, 1) := by decide +kernel
theorem dX7_load_44 : decode cX7_load 44 = .ok (.aload_n 0, 1) := by decide +kernel
theorem dX7_load_45 : decode cX7_load 45 = .ok (.invokevirtual 70, 3) := by decide +kernel
theorem dX7_load_48 : decode cX7_load 48 = .ok (.aload_n 0, 1) := by decide +kernel
theorem dX7_load_49 : decode cX7_load 49 = .ok (.iload_n 1, 1) := by decide +kernel
theorem dX7_load_50 : decode cX7_load 50 = .ok (.iconst 5, 1) := by decide +kernel
theorem dX7_load_51 : decode cX7_load 51 = .ok (.iload_n 2, 1) := by decide +kernel
theorem dX7_load_52 : decode cX7_load 52 = .ok (.iadd, 1) := by decide +kernel
theorem dX7_load_53 : decode cX7_load 53 = .ok (.iload_n 3, 1) := by decide +kernel
theorem dX7_load_54 : decode cX7_load 54 = .ok (.invokevirtual 73, 3) := by decide +kernel
theorem dX7_load_57 : decode cX7_load 57 = .ok (.iload 4, 2) := by decide +kernel
theorem dX7_load_59 : decode cX7_load 59 = .ok (.ireturn, 1) := by decide +kernel
theorem dX7_isDown_0 : decode cX7_isDown 0 = .ok (.aload_n 0, 1) := by decide +kernel
theorem dX7_isDown_1 : decode cX7_isDown 1 = .ok (.iload_n 1, 1) := by decide +kernel
theorem dX7_isDown_2 : decode cX7_isDown 2 = .ok (.bipush 15, 2) := by decide +kernel
theorem dX7_isDown_4 : decode cX7_isDown 4 = .ok (.iload_n 2, 1) := by decide +kernel
theorem dX7_isDown_5 : decode cX7_isDown 5 = .ok (.iadd, 1) := by decide +kernel
theorem dX7_isDown_6 : decode cX7_isDown 6 = .ok (.invokevirtual 54, 3) := by decide +kernel
theorem dX7_isDown_9 : decode cX7_isDown 9 = .ok (.ifCond .ne 7, 3) := by decide +kernel
theorem dX7_isDown_12 : decode cX7_isDown 12 = .ok (.iconst 1, 1) := by decide +kernel
theorem dX7_isDown_13 : decode cX7_isDown 13 = .ok (.goto 4, 3) := by decide +kernel
theorem dX7_isDown_16 : decode cX7_isDown 16 = .ok (.iconst 0, 1) := by decide +kernel
theorem dX7_isDown_17 : decode cX7_isDown 17 = .ok (.ireturn, 1) := by decide +kernel
theorem dX7_down_0 : decode cX7_down 0 = .ok (.iconst 0, 1) := by decide +kernel
theorem dX7_down_1 : decode cX7_down 1 = .ok (.istore_n 2, 1) := by decide +kernel
theorem dX7_down_2 : decode cX7_down 2 = .ok (.iconst 0, 1) := by decide +kernel
theorem dX7_down_3 : decode cX7_down 3 = .ok (.istore_n 3, 1) := by decide +kernel
theorem dX7_down_4 : decode cX7_down 4 = .ok (.iload_n 3, 1) := by decide +kernel
theorem dX7_down_5 : decode cX7_down 5 = .ok (.aload_n 0, 1) := by decide +kernel
theorem dX7_down_6 : decode cX7_down 6 = .ok (.iload_n 1, 1) := by decide +kernel
theorem dX7_down_7 : decode cX7_down 7 = .ok (.iconst 0, 1) := by decide +kernel
theorem dX7_down_8 : decode cX7_down 8 = .ok (.invokevirtual 54, 3) := by decide +kernel
theorem dX7_down_11 : decode cX7_down 11 = .ok (.if_icmp .ge 26, 3) := by decide +kernel
theorem dX7_down_14 : decode cX7_down 14 = .ok (.iload_n 2, 1) := by decide +kernel
theorem dX7_down_15 : decode cX7_down 15 = .ok (.aload_n 0, 1) := by decide +kernel
theorem dX7_down_16 : decode cX7_down 16 = .ok (.iload_n 1, 1) := by decide +kernel
theorem dX7_down_17 : decode cX7_down 17 = .ok (.iload_n 3, 1) := by decide +kernel
theorem dX7_down_18 : decode cX7_down 18 = .ok (.invokevirtual 88, 3) := by decide +kernel
theorem dX7_down_21 : decode cX7_down 21 = .ok (.ifCond .eq 7, 3) := by decide +kernel
theorem dX7_down_24 : decode cX7_down 24 = .ok (.iconst 1, 1) := by decide +kernel
theorem dX7_down_25 : decode cX7_down 25 = .ok (.goto 4, 3) := by decide +kernel
theorem dX7_down_28 : decode cX7_down 28 = .ok (.iconst 0, 1) := by decide +kernel
theorem dX7_down_29 : decode cX7_down 29 = .ok (.iadd, 1) := by decide +kernel
theorem dX7_down_30 : decode cX7_down 30 = .ok (.istore_n 2, 1) := by decide +kernel
theorem dX7_down_31 : decode cX7_down 31 = .ok (.iinc 3 1, 3) := by decide +kernel
theorem dX7_down_34 : decode cX7_down 34 = .ok (.goto (-30), 3) := by decide +kernel
theorem dX7_down_37 : decode cX7_down 37 = .ok (.iload_n 2, 1) := by decide +kernel
theorem dX7_down_38 : decode cX7_down 38 = .ok (.ireturn, 1) := by decide +kernel
theorem dX7_lift_0 : decode cX7_lift 0 = .ok (.aload_n 0, 1) := by decide +kernel
theorem dX7_lift_1 : decode cX7_lift 1 = .ok (.iload_n 1, 1) := by decide +kernel
theorem dX7_lift_2 : decode cX7_lift 2 = .ok (.iload_n 2, 1) := by decide +kernel
theorem dX7_lift_3 : decode cX7_lift 3 = .ok (.invokevirtual 84, 3) := by decide +kernel
theorem dX7_lift_6 : decode cX7_lift 6 = .ok (.ifCond .ne 5, 3) := by decide +kernel
theorem dX7_lift_9 : decode cX7_lift 9 = .ok (.iconst (-1), 1) := by decide +kernel
theorem dX7_lift_10 : decode cX7_lift 10 = .ok (.ireturn, 1) := by decide +kernel
theorem dX7_lift_11 : decode cX7_lift 11 = .ok (.iload_n 3, 1) := by decide +kernel
theorem dX7_lift_12 : decode cX7_lift 12 = .ok (.ifCond .eq 24, 3) := by decide +kernel
theorem dX7_lift_15 : decode cX7_lift 15 = .ok (.aload_n 0, 1) := by decide +kernel
theorem dX7_lift_16 : decode cX7_lift 16 = .ok (.iload_n 1, 1) := by decide +kernel
theorem dX7_lift_17 : decode cX7_lift 17 = .ok (.iload_n 2, 1) := by decide +kernel
theorem dX7_lift_18 : decode cX7_lift 18 = .ok (.invokevirtual 88, 3) := by decide +kernel
theorem dX7_lift_21 : decode cX7_lift 21 = .ok (.ifCond .eq 15, 3) := by decide +kernel
theorem dX7_lift_24 : decode cX7_lift 24 = .ok (.aload_n 0, 1) := by decide +kernel
theorem dX7_lift_25 : decode cX7_lift 25 = .ok (.iload_n 1, 1) := by decide +kernel
theorem dX7_lift_26 : decode cX7_lift 26 = .ok (.invokevirtual 91, 3) := by decide +kernel
theorem dX7_lift_29 : decode cX7_lift 29 = .ok (.iconst 1, 1) := by decide +kernel
theorem dX7_lift_30 : decode cX7_lift 30 = .ok (.if_icmp .ne 6, 3) := by decide +kernel
theorem dX7_lift_33 : decode cX7_lift 33 = .ok (.bipush (-4), 2) := by decide +kernel
theorem dX7_lift_35 : decode cX7_lift 35 = .ok (.ireturn, 1) := by decide +kernel
theorem dX7_lift_36 : decode cX7_lift 36 = .ok (.iload_n 3, 1) := by decide +kernel
theorem dX7_lift_37 : decode cX7_lift 37 = .ok (.aload_n 0, 1) := by decide +kernel
theorem dX7_lift_38 : decode cX7_lift 38 = .ok (.iload_n 1, 1) := by decide +kernel
theorem dX7_lift_39 : decode cX7_lift 39 = .ok (.iload_n 2, 1) := by decide +kernel
theorem dX7_lift_40 : decode cX7_lift 40 = .ok (.invokevirtual 88, 3) := by decide +kernel
theorem dX7_lift_43 : decode cX7_lift 43 = .ok (.if_icmp .eq 6, 3) := by decide +kernel
theorem dX7_lift_46 : decode cX7_lift 46 = .ok (.bipush (-5), 2) := by decide +kernel
theorem dX7_lift_48 : decode cX7_lift 48 = .ok (.ireturn, 1) := by decide +kernel
theorem dX7_lift_49 : decode cX7_lift 49 = .ok (.aload_n 0, 1) := by decide +kernel
theorem dX7_lift_50 : decode cX7_lift 50 = .ok (.invokevirtual 70, 3) := by decide +kernel
theorem dX7_lift_53 : decode cX7_lift 53 = .ok (.aload_n 0, 1) := by decide +kernel
theorem dX7_lift_54 : decode cX7_lift 54 = .ok (.iload_n 1, 1) := by decide +kernel
theorem dX7_lift_55 : decode cX7_lift 55 = .ok (.bipush 15, 2) := by decide +kernel
theorem dX7_lift_57 : decode cX7_lift 57 = .ok (.iload_n 2, 1) := by decide +kernel
theorem dX7_lift_58 : decode cX7_lift 58 = .ok (.iadd, 1) := by decide +kernel
theorem dX7_lift_59 : decode cX7_lift 59 = .ok (.iload_n 3, 1) := by decide +kernel
theorem dX7_lift_60 : decode cX7_lift 60 = .ok (.ifCond .eq 7, 3) := by decide +kernel
theorem dX7_lift_63 : decode cX7_lift 63 = .ok (.iconst 1, 1) := by decide +kernel
theorem dX7_lift_64 : decode cX7_lift 64 = .ok (.goto 4, 3) := by decide +kernel
theorem dX7_lift_67 : decode cX7_lift 67 = .ok (.iconst 0, 1) := by decide +kernel
theorem dX7_lift_68 : decode cX7_lift 68 = .ok (.invokevirtual 73, 3) := by decide +kernel
theorem dX7_lift_71 : decode cX7_lift 71 = .ok (.aload_n 0, 1) := by decide +kernel
theorem dX7_lift_72 : decode cX7_lift 72 = .ok (.iload_n 1, 1) := by decide +kernel
theorem dX7_lift_73 : decode cX7_lift 73 = .ok (.invokevirtual 91, 3) := by decide +kernel
theorem dX7_lift_76 : decode cX7_lift 76 = .ok (.ireturn, 1) := by decide +kernel
theorem dX7_bearer_0 : decode cX7_bearer 0 = .ok (.iload_n 2, 1) := by decide +kernel
theorem dX7_bearer_1 : decode cX7_bearer 1 = .ok (.istore_n 3, 1) := by decide +kernel
theorem dX7_bearer_2 : decode cX7_bearer 2 = .ok (.iload_n 3, 1) := by decide +kernel
theorem dX7_bearer_3 : decode cX7_bearer 3 = .ok (.aload_n 0, 1) := by decide +kernel
theorem dX7_bearer_4 : decode cX7_bearer 4 = .ok (.iload_n 1, 1) := by decide +kernel
theorem dX7_bearer_5 : decode cX7_bearer 5 = .ok (.iconst 0, 1) := by decide +kernel
theorem dX7_bearer_6 : decode cX7_bearer 6 = .ok (.invokevirtual 54, 3) := by decide +kernel
theorem dX7_bearer_9 : decode cX7_bearer 9 = .ok (.if_icmp .ge 18, 3) := by decide +kernel
theorem dX7_bearer_12 : decode cX7_bearer 12 = .ok (.aload_n 0, 1) := by decide +kernel
theorem dX7_bearer_13 : decode cX7_bearer 13 = .ok (.iload_n 1, 1) := by decide +kernel
theorem dX7_bearer_14 : decode cX7_bearer 14 = .ok (.iload_n 3, 1) := by decide +kernel
theorem dX7_bearer_15 : decode cX7_bearer 15 = .ok (.invokevirtual 88, 3) := by decide +kernel
theorem dX7_bearer_18 : decode cX7_bearer 18 = .ok (.ifCond .ne 9, 3) := by decide +kernel
theorem dX7_bearer_21 : decode cX7_bearer 21 = .ok (.iinc 3 1, 3) := by decide +kernel
theorem dX7_bearer_24 : decode cX7_bearer 24 = .ok (.goto (-22), 3) := by decide +kernel
theorem dX7_bearer_27 : decode cX7_bearer 27 = .ok (.iload_n 3, 1) := by decide +kernel
theorem dX7_bearer_28 : decode cX7_bearer 28 = .ok (.aload_n 0, 1) := by decide +kernel
theorem dX7_bearer_29 : decode cX7_bearer 29 = .ok (.iload_n 1, 1) := by decide +kernel
theorem dX7_bearer_30 : decode cX7_bearer 30 = .ok (.iconst 0, 1) := by decide +kernel
theorem dX7_bearer_31 : decode cX7_bearer 31 = .ok (.invokevirtual 54, 3) := by decide +kernel
theorem dX7_bearer_34 : decode cX7_bearer 34 = .ok (.if_icmp .ne 20, 3) := by decide +kernel
theorem dX7_bearer_37 : decode cX7_bearer 37 = .ok (.iload_n 2, 1) := by decide +kernel
theorem dX7_bearer_38 : decode cX7_bearer 38 = .ok (.istore_n 3, 1) := by decide +kernel
theorem dX7_bearer_39 : decode cX7_bearer 39 = .ok (.aload_n 0, 1) := by decide +kernel
theorem dX7_bearer_40 : decode cX7_bearer 40 = .ok (.iload_n 1, 1) := by decide +kernel
theorem dX7_bearer_41 : decode cX7_bearer 41 = .ok (.iload_n 3, 1) := by decide +kernel
theorem dX7_bearer_42 : decode cX7_bearer 42 = .ok (.invokevirtual 88, 3) := by decide +kernel
theorem dX7_bearer_45 : decode cX7_bearer 45 = .ok (.ifCond .ne 9, 3) := by decide +kernel
theorem dX7_bearer_48 : decode cX7_bearer 48 = .ok (.iinc 3 (-1), 3) := by decide +kernel
theorem dX7_bearer_51 : decode cX7_bearer 51 = .ok (.goto (-12), 3) := by decide +kernel
theorem dX7_bearer_54 : decode cX7_bearer 54 = .ok (.iload_n 3, 1) := by decide +kernel
theorem dX7_bearer_55 : decode cX7_bearer 55 = .ok (.ireturn, 1) := by decide +kernel
theorem dX7_bears_0 : decode cX7_bears 0 = .ok (.iconst 0, 1) := by decide +kernel
theorem dX7_bears_1 : decode cX7_bears 1 = .ok (.istore_n 3, 1) := by decide +kernel
theorem dX7_bears_2 : decode cX7_bears 2 = .ok (.iconst 0, 1) := by decide +kernel
theorem dX7_bears_3 : decode cX7_bears 3 = .ok (.istore 4, 2) := by decide +kernel
theorem dX7_bears_5 : decode cX7_bears 5 = .ok (.iload 4, 2) := by decide +kernel
theorem dX7_bears_7 : decode cX7_bears 7 = .ok (.aload_n 0, 1) := by decide +kernel
theorem dX7_bears_8 : decode cX7_bears 8 = .ok (.iload_n 1, 1) := by decide +kernel
theorem dX7_bears_9 : decode cX7_bears 9 = .ok (.iconst 0, 1) := by decide +kernel
theorem dX7_bears_10 : decode cX7_bears 10 = .ok (.invokevirtual 54, 3) := by decide +kernel
theorem dX7_bears_13 : decode cX7_bears 13 = .ok (.if_icmp .ge 36, 3) := by decide +kernel
theorem dX7_bears_16 : decode cX7_bears 16 = .ok (.iload_n 3, 1) := by decide +kernel
theorem dX7_bears_17 : decode cX7_bears 17 = .ok (.aload_n 0, 1) := by decide +kernel
theorem dX7_bears_18 : decode cX7_bears 18 = .ok (.iload_n 1, 1) := by decide +kernel
theorem dX7_bears_19 : decode cX7_bears 19 = .ok (.iload 4, 2) := by decide +kernel
theorem dX7_bears_21 : decode cX7_bears 21 = .ok (.invokevirtual 95, 3) := by decide +kernel
theorem dX7_bears_24 : decode cX7_bears 24 = .ok (.iload_n 2, 1) := by decide +kernel
theorem dX7_bears_25 : decode cX7_bears 25 = .ok (.if_icmp .ne 15, 3) := by decide +kernel
theorem dX7_bears_28 : decode cX7_bears 28 = .ok (.aload_n 0, 1) := by decide +kernel
theorem dX7_bears_29 : decode cX7_bears 29 = .ok (.iload_n 1, 1) := by decide +kernel
theorem dX7_bears_30 : decode cX7_bears 30 = .ok (.iconst 5, 1) := by decide +kernel
theorem dX7_bears_31 : decode cX7_bears 31 = .ok (.iload 4, 2) := by decide +kernel
theorem dX7_bears_33 : decode cX7_bears 33 = .ok (.iadd, 1) := by decide +kernel
theorem dX7_bears_34 : decode cX7_bears 34 = .ok (.invokevirtual 54, 3) := by decide +kernel
theorem dX7_bears_37 : decode cX7_bears 37 = .ok (.goto 4, 3) := by decide +kernel
theorem dX7_bears_40 : decode cX7_bears 40 = .ok (.iconst 0, 1) := by decide +kernel
theorem dX7_bears_41 : decode cX7_bears 41 = .ok (.iadd, 1) := by decide +kernel
theorem dX7_bears_42 : decode cX7_bears 42 = .ok (.istore_n 3, 1) := by decide +kernel
theorem dX7_bears_43 : decode cX7_bears 43 = .ok (.iinc 4 1, 3) := by decide +kernel
theorem dX7_bears_46 : decode cX7_bears 46 = .ok (.goto (-41), 3) := by decide +kernel
theorem dX7_bears_49 : decode cX7_bears 49 = .ok (.iload_n 3, 1) := by decide +kernel
theorem dX7_bears_50 : decode cX7_bears 50 = .ok (.ireturn, 1) := by decide +kernel
theorem dX7_sum_0 : decode cX7_sum 0 = .ok (.iconst 0, 1) := by decide +kernel
theorem dX7_sum_1 : decode cX7_sum 1 = .ok (.istore_n 3, 1) := by decide +kernel
theorem dX7_sum_2 : decode cX7_sum 2 = .ok (.iconst 0, 1) := by decide +kernel
theorem dX7_sum_3 : decode cX7_sum 3 = .ok (.istore 4, 2) := by decide +kernel
theorem dX7_sum_5 : decode cX7_sum 5 = .ok (.iload 4, 2) := by decide +kernel
theorem dX7_sum_7 : decode cX7_sum 7 = .ok (.aload_n 0, 1) := by decide +kernel
theorem dX7_sum_8 : decode cX7_sum 8 = .ok (.iload_n 1, 1) := by decide +kernel
theorem dX7_sum_9 : decode cX7_sum 9 = .ok (.iconst 0, 1) := by decide +kernel
theorem dX7_sum_10 : decode cX7_sum 10 = .ok (.invokevirtual 54, 3) := by decide +kernel
theorem dX7_sum_13 : decode cX7_sum 13 = .ok (.if_icmp .ge 21, 3) := by decide +kernel
theorem dX7_sum_16 : decode cX7_sum 16 = .ok (.iload_n 3, 1) := by decide +kernel
theorem dX7_sum_17 : decode cX7_sum 17 = .ok (.aload_n 0, 1) := by decide +kernel
theorem dX7_sum_18 : decode cX7_sum 18 = .ok (.iload_n 1, 1) := by decide +kernel
theorem dX7_sum_19 : decode cX7_sum 19 = .ok (.iload_n 2, 1) := by decide +kernel
theorem dX7_sum_20 : decode cX7_sum 20 = .ok (.iload 4, 2) := by decide +kernel
theorem dX7_sum_22 : decode cX7_sum 22 = .ok (.iadd, 1) := by decide +kernel
theorem dX7_sum_23 : decode cX7_sum 23 = .ok (.invokevirtual 54, 3) := by decide +kernel
theorem dX7_sum_26 : decode cX7_sum 26 = .ok (.iadd, 1) := by decide +kernel
theorem dX7_sum_27 : decode cX7_sum 27 = .ok (.istore_n 3, 1) := by decide +kernel
theorem dX7_sum_28 : decode cX7_sum 28 = .ok (.iinc 4 1, 3) := by decide +kernel
theorem dX7_sum_31 : decode cX7_sum 31 = .ok (.goto (-26), 3) := by decide +kernel
theorem dX7_sum_34 : decode cX7_sum 34 = .ok (.iload_n 3, 1) := by decide +kernel
theorem dX7_sum_35 : decode cX7_sum 35 = .ok (.ireturn, 1) := by decide +kernel
theorem dX7_isOn_0 : decode cX7_isOn 0 = .ok (.iload_n 1, 1) := by decide +kernel
theorem dX7_isOn_1 : decode cX7_isOn 1 = .ok (.iconst 0, 1) := by decide +kernel
theorem dX7_isOn_2 : decode cX7_isOn 2 = .ok (.aload_n 0, 1) := by decide +kernel
theorem dX7_isOn_3 : decode cX7_isOn 3 = .ok (.getfield 7, 3) := by decide +kernel
theorem dX7_isOn_6 : decode cX7_isOn 6 = .ok (.iconst 0, 1) := by decide +kernel
theorem dX7_isOn_7 : decode cX7_isOn 7 = .ok (.iaload, 1) := by decide +kernel
theorem dX7_isOn_8 : decode cX7_isOn 8 = .ok (.iconst 1, 1) := by decide +kernel
theorem dX7_isOn_9 : decode cX7_isOn 9 = .ok (.isub, 1) := by decide +kernel
theorem dX7_isOn_10 : decode cX7_isOn 10 = .ok (.invokestatic 46, 3) := by decide +kernel
theorem dX7_isOn_13 : decode cX7_isOn 13 = .ok (.ireturn, 1) := by decide +kernel
theorem dX7_loadAt_0 : decode cX7_loadAt 0 = .ok (.iconst 0, 1) := by decide +kernel
theorem dX7_loadAt_1 : decode cX7_loadAt 1 = .ok (.istore 4, 2) := by decide +kernel
theorem dX7_loadAt_3 : decode cX7_loadAt 3 = .ok (.iconst 0, 1) := by decide +kernel
theorem dX7_loadAt_4 : decode cX7_loadAt 4 = .ok (.istore 5, 2) := by decide +kernel
theorem dX7_loadAt_6 : decode cX7_loadAt 6 = .ok (.iload 5, 2) := by decide +kernel
theorem dX7_loadAt_8 : decode cX7_loadAt 8 = .ok (.aload_n 0, 1) := by decide +kernel
theorem dX7_loadAt_9 : decode cX7_loadAt 9 = .ok (.iload_n 1, 1) := by decide +kernel
theorem dX7_loadAt_10 : decode cX7_loadAt 10 = .ok (.iconst 0, 1) := by decide +kernel
theorem dX7_loadAt_11 : decode cX7_loadAt 11 = .ok (.invokevirtual 54, 3) := by decide +kernel
theorem dX7_loadAt_14 : decode cX7_loadAt 14 = .ok (.if_icmp .ge 43, 3) := by decide +kernel
theorem dX7_loadAt_17 : decode cX7_loadAt 17 = .ok (.iload 4, 2) := by decide +kernel
theorem dX7_loadAt_19 : decode cX7_loadAt 19 = .ok (.aload_n 0, 1) := by decide +kernel
theorem dX7_loadAt_20 : decode cX7_loadAt 20 = .ok (.iload_n 2, 1) := by decide +kernel
theorem dX7_loadAt_21 : decode cX7_loadAt 21 = .ok (.iload_n 3, 1) := by decide +kernel
theorem dX7_loadAt_22 : decode cX7_loadAt 22 = .ok (.imul, 1) := by decide +kernel
theorem dX7_loadAt_23 : decode cX7_loadAt 23 = .ok (.aload_n 0, 1) := by decide +kernel
theorem dX7_loadAt_24 : decode cX7_loadAt 24 = .ok (.getfield 25, 3) := by decide +kernel
theorem dX7_loadAt_27 : decode cX7_loadAt 27 = .ok (.iload 5, 2) := by decide +kernel
theorem dX7_loadAt_29 : decode cX7_loadAt 29 = .ok (.iaload, 1) := by decide +kernel
theorem dX7_loadAt_30 : decode cX7_loadAt 30 = .ok (.isub, 1) := by decide +kernel
theorem dX7_loadAt_31 : decode cX7_loadAt 31 = .ok (.invokevirtual 98, 3) := by decide +kernel
theorem dX7_loadAt_34 : decode cX7_loadAt 34 = .ok (.ifCond .eq 13, 3) := by decide +kernel
theorem dX7_loadAt_37 : decode cX7_loadAt 37 = .ok (.aload_n 0, 1) := by decide +kernel
theorem dX7_loadAt_38 : decode cX7_loadAt 38 = .ok (.getfield 22, 3) := by decide +kernel
theorem dX7_loadAt_41 : decode cX7_loadAt 41 = .ok (.iload 5, 2) := by decide +kernel
theorem dX7_loadAt_43 : decode cX7_loadAt 43 = .ok (.iaload, 1) := by decide +kernel
theorem dX7_loadAt_44 : decode cX7_loadAt 44 = .ok (.goto 4, 3) := by decide +kernel
theorem dX7_loadAt_47 : decode cX7_loadAt 47 = .ok (.iconst 0, 1) := by decide +kernel
theorem dX7_loadAt_48 : decode cX7_loadAt 48 = .ok (.iadd, 1) := by decide +kernel
theorem dX7_loadAt_49 : decode cX7_loadAt 49 = .ok (.istore 4, 2) := by decide +kernel
theorem dX7_loadAt_51 : decode cX7_loadAt 51 = .ok (.iinc 5 1, 3) := by decide +kernel
theorem dX7_loadAt_54 : decode cX7_loadAt 54 = .ok (.goto (-48), 3) := by decide +kernel
theorem dX7_loadAt_57 : decode cX7_loadAt 57 = .ok (.iload 4, 2) := by decide +kernel
theorem dX7_loadAt_59 : decode cX7_loadAt 59 = .ok (.ireturn, 1) := by decide +kernel
theorem dX7_isSettled_0 : decode cX7_isSettled 0 = .ok (.aload_n 0, 1) := by decide +kernel
theorem dX7_isSettled_1 : decode cX7_isSettled 1 = .ok (.getfield 34, 3) := by decide +kernel
theorem dX7_isSettled_4 : decode cX7_isSettled 4 = .ok (.iload_n 1, 1) := by decide +kernel
theorem dX7_isSettled_5 : decode cX7_isSettled 5 = .ok (.iaload, 1) := by decide +kernel
theorem dX7_isSettled_6 : decode cX7_isSettled 6 = .ok (.istore_n 2, 1) := by decide +kernel
theorem dX7_isSettled_7 : decode cX7_isSettled 7 = .ok (.aload_n 0, 1) := by decide +kernel
theorem dX7_isSettled_8 : decode cX7_isSettled 8 = .ok (.getfield 34, 3) := by decide +kernel
theorem dX7_isSettled_11 : decode cX7_isSettled 11 = .ok (.iload_n 1, 1) := by decide +kernel
theorem dX7_isSettled_12 : decode cX7_isSettled 12 = .ok (.iaload, 1) := by decide +kernel
theorem dX7_isSettled_13 : decode cX7_isSettled 13 = .ok (.istore_n 3, 1) := by decide +kernel
theorem dX7_isSettled_14 : decode cX7_isSettled 14 = .ok (.iload_n 1, 1) := by decide +kernel
theorem dX7_isSettled_15 : decode cX7_isSettled 15 = .ok (.aload_n 0, 1) := by decide +kernel
theorem dX7_isSettled_16 : decode cX7_isSettled 16 = .ok (.getfield 7, 3) := by decide +kernel
theorem dX7_isSettled_19 : decode cX7_isSettled 19 = .ok (.iconst 3, 1) := by decide +kernel
theorem dX7_isSettled_20 : decode cX7_isSettled 20 = .ok (.iaload, 1) := by decide +kernel
theorem dX7_isSettled_21 : decode cX7_isSettled 21 = .ok (.isub, 1) := by decide +kernel
theorem dX7_isSettled_22 : decode cX7_isSettled 22 = .ok (.iconst 1, 1) := by decide +kernel
theorem dX7_isSettled_23 : decode cX7_isSettled 23 = .ok (.iadd, 1) := by decide +kernel
theorem dX7_isSettled_24 : decode cX7_isSettled 24 = .ok (.istore 4, 2) := by decide +kernel
theorem dX7_isSettled_26 : decode cX7_isSettled 26 = .ok (.iload 4, 2) := by decide +kernel
theorem dX7_isSettled_28 : decode cX7_isSettled 28 = .ok (.ifCond .lt 61, 3) := by decide +kernel
theorem dX7_isSettled_31 : decode cX7_isSettled 31 = .ok (.iload 4, 2) := by decide +kernel
theorem dX7_isSettled_33 : decode cX7_isSettled 33 = .ok (.iload_n 1, 1) := by decide +kernel
theorem dX7_isSettled_34 : decode cX7_isSettled 34 = .ok (.if_icmp .ge 55, 3) := by decide +kernel
theorem dX7_isSettled_37 : decode cX7_isSettled 37 = .ok (.aload_n 0, 1) := by decide +kernel
theorem dX7_isSettled_38 : decode cX7_isSettled 38 = .ok (.getfield 34, 3) := by decide +kernel
theorem dX7_isSettled_41 : decode cX7_isSettled 41 = .ok (.iload 4, 2) := by decide +kernel
theorem dX7_isSettled_43 : decode cX7_isSettled 43 = .ok (.iaload, 1) := by decide +kernel
theorem dX7_isSettled_44 : decode cX7_isSettled 44 = .ok (.iload_n 2, 1) := by decide +kernel
theorem dX7_isSettled_45 : decode cX7_isSettled 45 = .ok (.if_icmp .le 13, 3) := by decide +kernel
theorem dX7_isSettled_48 : decode cX7_isSettled 48 = .ok (.aload_n 0, 1) := by decide +kernel
theorem dX7_isSettled_49 : decode cX7_isSettled 49 = .ok (.getfield 34, 3) := by decide +kernel
theorem dX7_isSettled_52 : decode cX7_isSettled 52 = .ok (.iload 4, 2) := by decide +kernel
theorem dX7_isSettled_54 : decode cX7_isSettled 54 = .ok (.iaload, 1) := by decide +kernel
theorem dX7_isSettled_55 : decode cX7_isSettled 55 = .ok (.goto 4, 3) := by decide +kernel
theorem dX7_isSettled_58 : decode cX7_isSettled 58 = .ok (.iload_n 2, 1) := by decide +kernel
theorem dX7_isSettled_59 : decode cX7_isSettled 59 = .ok (.istore_n 2, 1) := by decide +kernel
theorem dX7_isSettled_60 : decode cX7_isSettled 60 = .ok (.aload_n 0, 1) := by decide +kernel
theorem dX7_isSettled_61 : decode cX7_isSettled 61 = .ok (.getfield 34, 3) := by decide +kernel
theorem dX7_isSettled_64 : decode cX7_isSettled 64 = .ok (.iload 4, 2) := by decide +kernel
theorem dX7_isSettled_66 : decode cX7_isSettled 66 = .ok (.iaload, 1) := by decide +kernel
theorem dX7_isSettled_67 : decode cX7_isSettled 67 = .ok (.iload_n 3, 1) := by decide +kernel
theorem dX7_isSettled_68 : decode cX7_isSettled 68 = .ok (.if_icmp .ge 13, 3) := by decide +kernel
theorem dX7_isSettled_71 : decode cX7_isSettled 71 = .ok (.aload_n 0, 1) := by decide +kernel
theorem dX7_isSettled_72 : decode cX7_isSettled 72 = .ok (.getfield 34, 3) := by decide +kernel
theorem dX7_isSettled_75 : decode cX7_isSettled 75 = .ok (.iload 4, 2) := by decide +kernel
theorem dX7_isSettled_77 : decode cX7_isSettled 77 = .ok (.iaload, 1) := by decide +kernel
theorem dX7_isSettled_78 : decode cX7_isSettled 78 = .ok (.goto 4, 3) := by decide +kernel
theorem dX7_isSettled_81 : decode cX7_isSettled 81 = .ok (.iload_n 3, 1) := by decide +kernel
theorem dX7_isSettled_82 : decode cX7_isSettled 82 = .ok (.istore_n 3, 1) := by decide +kernel
theorem dX7_isSettled_83 : decode cX7_isSettled 83 = .ok (.iinc 4 1, 3) := by decide +kernel
theorem dX7_isSettled_86 : decode cX7_isSettled 86 = .ok (.goto (-60), 3) := by decide +kernel
theorem dX7_isSettled_89 : decode cX7_isSettled 89 = .ok (.iload_n 1, 1) := by decide +kernel
theorem dX7_isSettled_90 : decode cX7_isSettled 90 = .ok (.iconst 1, 1) := by decide +kernel
theorem dX7_isSettled_91 : decode cX7_isSettled 91 = .ok (.iadd, 1) := by decide +kernel
theorem dX7_isSettled_92 : decode cX7_isSettled 92 = .ok (.aload_n 0, 1) := by decide +kernel
theorem dX7_isSettled_93 : decode cX7_isSettled 93 = .ok (.getfield 7, 3) := by decide +kernel
theorem dX7_isSettled_96 : decode cX7_isSettled 96 = .ok (.iconst 3, 1) := by decide +kernel
theorem dX7_isSettled_97 : decode cX7_isSettled 97 = .ok (.iaload, 1) := by decide +kernel
theorem dX7_isSettled_98 : decode cX7_isSettled 98 = .ok (.if_icmp .lt 19, 3) := by decide +kernel
theorem dX7_isSettled_101 : decode cX7_isSettled 101 = .ok (.iload_n 2, 1) := by decide +kernel
theorem dX7_isSettled_102 : decode cX7_isSettled 102 = .ok (.iload_n 3, 1) := by decide +kernel
theorem dX7_isSettled_103 : decode cX7_isSettled 103 = .ok (.isub, 1) := by decide +kernel
theorem dX7_isSettled_104 : decode cX7_isSettled 104 = .ok (.aload_n 0, 1) := by decide +kernel
theorem dX7_isSettled_105 : decode cX7_isSettled 105 = .ok (.getfield 7, 3) := by decide +kernel
theorem dX7_isSettled_108 : decode cX7_isSettled 108 = .ok (.iconst 4, 1) := by decide +kernel
theorem dX7_isSettled_109 : decode cX7_isSettled 109 = .ok (.iaload, 1) := by decide +kernel
theorem dX7_isSettled_110 : decode cX7_isSettled 110 = .ok (.if_icmp .gt 7, 3) := by decide +kernel
theorem dX7_isSettled_113 : decode cX7_isSettled 113 = .ok (.iconst 1, 1) := by decide +kernel
theorem dX7_isSettled_114 : decode cX7_isSettled 114 = .ok (.goto 4, 3) := by decide +kernel
theorem dX7_isSettled_117 : decode cX7_isSettled 117 = .ok (.iconst 0, 1) := by decide +kernel
theorem dX7_isSettled_118 : decode cX7_isSettled 118 = .ok (.ireturn, 1) := by decide +kernel
theorem dX7_mean_0 : decode cX7_mean 0 = .ok (.iconst 0, 1) := by decide +kernel
theorem dX7_mean_1 : decode cX7_mean 1 = .ok (.istore_n 2, 1) := by decide +kernel
theorem dX7_mean_2 : decode cX7_mean 2 = .ok (.iload_n 1, 1) := by decide +kernel
theorem dX7_mean_3 : decode cX7_mean 3 = .ok (.aload_n 0, 1) := by decide +kernel
theorem dX7_mean_4 : decode cX7_mean 4 = .ok (.getfield 7, 3) := by decide +kernel
theorem dX7_mean_7 : decode cX7_mean 7 = .ok (.iconst 3, 1) := by decide +kernel
theorem dX7_mean_8 : decode cX7_mean 8 = .ok (.iaload, 1) := by decide +kernel
theorem dX7_mean_9 : decode cX7_mean 9 = .ok (.isub, 1) := by decide +kernel
theorem dX7_mean_10 : decode cX7_mean 10 = .ok (.iconst 1, 1) := by decide +kernel
theorem dX7_mean_11 : decode cX7_mean 11 = .ok (.iadd, 1) := by decide +kernel
theorem dX7_mean_12 : decode cX7_mean 12 = .ok (.istore_n 3, 1) := by decide +kernel
theorem dX7_mean_13 : decode cX7_mean 13 = .ok (.iload_n 3, 1) := by decide +kernel
theorem dX7_mean_14 : decode cX7_mean 14 = .ok (.iload_n 1, 1) := by decide +kernel
theorem dX7_mean_15 : decode cX7_mean 15 = .ok (.if_icmp .gt 18, 3) := by decide +kernel
theorem dX7_mean_18 : decode cX7_mean 18 = .ok (.iload_n 2, 1) := by decide +kernel
theorem dX7_mean_19 : decode cX7_mean 19 = .ok (.aload_n 0, 1) := by decide +kernel
theorem dX7_mean_20 : decode cX7_mean 20 = .ok (.getfield 34, 3) := by decide +kernel
theorem dX7_mean_23 : decode cX7_mean 23 = .ok (.iload_n 3, 1) := by decide +kernel
theorem dX7_mean_24 : decode cX7_mean 24 = .ok (.iaload, 1) := by decide +kernel
theorem dX7_mean_25 : decode cX7_mean 25 = .ok (.iadd, 1) := by decide +kernel
theorem dX7_mean_26 : decode cX7_mean 26 = .ok (.istore_n 2, 1) := by decide +kernel
theorem dX7_mean_27 : decode cX7_mean 27 = .ok (.iinc 3 1, 3) := by decide +kernel
theorem dX7_mean_30 : decode cX7_mean 30 = .ok (.goto (-17), 3) := by decide +kernel
theorem dX7_mean_33 : decode cX7_mean 33 = .ok (.iload_n 2, 1) := by decide +kernel
theorem dX7_mean_34 : decode cX7_mean 34 = .ok (.aload_n 0, 1) := by decide +kernel
theorem dX7_mean_35 : decode cX7_mean 35 = .ok (.getfield 7, 3) := by decide +kernel
theorem dX7_mean_38 : decode cX7_mean 38 = .ok (.iconst 3, 1) := by decide +kernel
theorem dX7_mean_39 : decode cX7_mean 39 = .ok (.iaload, 1) := by decide +kernel
theorem dX7_mean_40 : decode cX7_mean 40 = .ok (.idiv, 1) := by decide +kernel
theorem dX7_mean_41 : decode cX7_mean 41 = .ok (.ireturn, 1) := by decide +kernel
theorem dX7_tell_0 : decode cX7_tell 0 = .ok (.aload_n 0, 1) := by decide +kernel
theorem dX7_tell_1 : decode cX7_tell 1 = .ok (.getfield 101, 3) := by decide +kernel
theorem dX7_tell_4 : decode cX7_tell 4 = .ok (.ifCond .ne 7, 3) := by decide +kernel
theorem dX7_tell_7 : decode cX7_tell 7 = .ok (.iconst 0, 1) := by decide +kernel
theorem dX7_tell_8 : decode cX7_tell 8 = .ok (.goto 4, 3) := by decide +kernel
theorem dX7_tell_11 : decode cX7_tell 11 = .ok (.iload_n 2, 1) := by decide +kernel
theorem dX7_tell_12 : decode cX7_tell 12 = .ok (.istore 4, 2) := by decide +kernel
theorem dX7_tell_14 : decode cX7_tell 14 = .ok (.aload_n 0, 1) := by decide +kernel
theorem dX7_tell_15 : decode cX7_tell 15 = .ok (.getfield 101, 3) := by decide +kernel
theorem dX7_tell_18 : decode cX7_tell 18 = .ok (.ifCond .eq 11, 3) := by decide +kernel
theorem dX7_tell_21 : decode cX7_tell 21 = .ok (.iload_n 1, 1) := by decide +kernel
theorem dX7_tell_22 : decode cX7_tell 22 = .ok (.aload_n 0, 1) := by decide +kernel
theorem dX7_tell_23 : decode cX7_tell 23 = .ok (.getfield 104, 3) := by decide +kernel
theorem dX7_tell_26 : decode cX7_tell 26 = .ok (.if_icmp .le 7, 3) := by decide +kernel
theorem dX7_tell_29 : decode cX7_tell 29 = .ok (.iconst 1, 1) := by decide +kernel
theorem dX7_tell_30 : decode cX7_tell 30 = .ok (.goto 4, 3) := by decide +kernel
theorem dX7_tell_33 : decode cX7_tell 33 = .ok (.iconst 0, 1) := by decide +kernel
theorem dX7_tell_34 : decode cX7_tell 34 = .ok (.istore 5, 2) := by decide +kernel
theorem dX7_tell_36 : decode cX7_tell 36 = .ok (.aload_n 0, 1) := by decide +kernel
theorem dX7_tell_37 : decode cX7_tell 37 = .ok (.iload 5, 2) := by decide +kernel
theorem dX7_tell_39 : decode cX7_tell 39 = .ok (.ifCond .eq 7, 3) := by decide +kernel
theorem dX7_tell_42 : decode cX7_tell 42 = .ok (.iload_n 1, 1) := by decide +kernel
theorem dX7_tell_43 : decode cX7_tell 43 = .ok (.goto 7, 3) := by decide +kernel
theorem dX7_tell_46 : decode cX7_tell 46 = .ok (.aload_n 0, 1) := by decide +kernel
theorem dX7_tell_47 : decode cX7_tell 47 = .ok (.getfield 104, 3) := by decide +kernel
theorem dX7_tell_50 : decode cX7_tell 50 = .ok (.putfield 104, 3) := by decide +kernel
theorem dX7_tell_53 : decode cX7_tell 53 = .ok (.aload_n 0, 1) := by decide +kernel
theorem dX7_tell_54 : decode cX7_tell 54 = .ok (.iload 5, 2) := by decide +kernel
theorem dX7_tell_56 : decode cX7_tell 56 = .ok (.ifCond .eq 7, 3) := by decide +kernel
theorem dX7_tell_59 : decode cX7_tell 59 = .ok (.iload_n 3, 1) := by decide +kernel
theorem dX7_tell_60 : decode cX7_tell 60 = .ok (.goto 7, 3) := by decide +kernel
theorem dX7_tell_63 : decode cX7_tell 63 = .ok (.aload_n 0, 1) := by decide +kernel
theorem dX7_tell_64 : decode cX7_tell 64 = .ok (.getfield 107, 3) := by decide +kernel
theorem dX7_tell_67 : decode cX7_tell 67 = .ok (.putfield 107, 3) := by decide +kernel
theorem dX7_tell_70 : decode cX7_tell 70 = .ok (.aload_n 0, 1) := by decide +kernel
theorem dX7_tell_71 : decode cX7_tell 71 = .ok (.dup, 1) := by decide +kernel
theorem dX7_tell_72 : decode cX7_tell 72 = .ok (.getfield 110, 3) := by decide +kernel
theorem dX7_tell_75 : decode cX7_tell 75 = .ok (.iload_n 1, 1) := by decide +kernel
theorem dX7_tell_76 : decode cX7_tell 76 = .ok (.iload 4, 2) := by decide +kernel
theorem dX7_tell_78 : decode cX7_tell 78 = .ok (.if_icmp .le 7, 3) := by decide +kernel
theorem dX7_tell_81 : decode cX7_tell 81 = .ok (.iconst 1, 1) := by decide +kernel
theorem dX7_tell_82 : decode cX7_tell 82 = .ok (.goto 4, 3) := by decide +kernel
theorem dX7_tell_85 : decode cX7_tell 85 = .ok (.iconst 0, 1) := by decide +kernel
theorem dX7_tell_86 : decode cX7_tell 86 = .ok (.iadd, 1) := by decide +kernel
theorem dX7_tell_87 : decode cX7_tell 87 = .ok (.putfield 110, 3) := by decide +kernel
theorem dX7_tell_90 : decode cX7_tell 90 = .ok (.aload_n 0, 1) := by decide +kernel
theorem dX7_tell_91 : decode cX7_tell 91 = .ok (.dup, 1) := by decide +kernel
theorem dX7_tell_92 : decode cX7_tell 92 = .ok (.getfield 113, 3) := by decide +kernel
theorem dX7_tell_95 : decode cX7_tell 95 = .ok (.iload_n 1, 1) := by decide +kernel
theorem dX7_tell_96 : decode cX7_tell 96 = .ok (.iload 4, 2) := by decide +kernel
theorem dX7_tell_98 : decode cX7_tell 98 = .ok (.if_icmp .le 10, 3) := by decide +kernel
theorem dX7_tell_101 : decode cX7_tell 101 = .ok (.iload_n 1, 1) := by decide +kernel
theorem dX7_tell_102 : decode cX7_tell 102 = .ok (.iload 4, 2) := by decide +kernel
theorem dX7_tell_104 : decode cX7_tell 104 = .ok (.isub, 1) := by decide +kernel
theorem dX7_tell_105 : decode cX7_tell 105 = .ok (.goto 4, 3) := by decide +kernel
theorem dX7_tell_108 : decode cX7_tell 108 = .ok (.iconst 0, 1) := by decide +kernel
theorem dX7_tell_109 : decode cX7_tell 109 = .ok (.iadd, 1) := by decide +kernel
theorem dX7_tell_110 : decode cX7_tell 110 = .ok (.putfield 113, 3) := by decide +kernel
theorem dX7_tell_113 : decode cX7_tell 113 = .ok (.aload_n 0, 1) := by decide +kernel
theorem dX7_tell_114 : decode cX7_tell 114 = .ok (.dup, 1) := by decide +kernel
theorem dX7_tell_115 : decode cX7_tell 115 = .ok (.getfield 101, 3) := by decide +kernel
theorem dX7_tell_118 : decode cX7_tell 118 = .ok (.iconst 1, 1) := by decide +kernel
theorem dX7_tell_119 : decode cX7_tell 119 = .ok (.iadd, 1) := by decide +kernel
theorem dX7_tell_120 : decode cX7_tell 120 = .ok (.putfield 101, 3) := by decide +kernel
theorem dX7_tell_123 : decode cX7_tell 123 = .ok (.aload_n 0, 1) := by decide +kernel
theorem dX7_tell_124 : decode cX7_tell 124 = .ok (.getfield 40, 3) := by decide +kernel
theorem dX7_tell_127 : decode cX7_tell 127 = .ok (.iload_n 3, 1) := by decide +kernel
theorem dX7_tell_128 : decode cX7_tell 128 = .ok (.iload_n 1, 1) := by decide +kernel
theorem dX7_tell_129 : decode cX7_tell 129 = .ok (.iastore, 1) := by decide +kernel
theorem dX7_tell_130 : decode cX7_tell 130 = .ok (.return_, 1) := by decide +kernel
theorem dX7_reckon_0 : decode cX7_reckon 0 = .ok (.iconst 0, 1) := by decide +kernel
theorem dX7_reckon_1 : decode cX7_reckon 1 = .ok (.istore_n 3, 1) := by decide +kernel
theorem dX7_reckon_2 : decode cX7_reckon 2 = .ok (.iconst 0, 1) := by decide +kernel
theorem dX7_reckon_3 : decode cX7_reckon 3 = .ok (.istore 4, 2) := by decide +kernel
theorem dX7_reckon_5 : decode cX7_reckon 5 = .ok (.iload 4, 2) := by decide +kernel
theorem dX7_reckon_7 : decode cX7_reckon 7 = .ok (.aload_n 0, 1) := by decide +kernel
theorem dX7_reckon_8 : decode cX7_reckon 8 = .ok (.iload_n 1, 1) := by decide +kernel
theorem dX7_reckon_9 : decode cX7_reckon 9 = .ok (.iconst 0, 1) := by decide +kernel
theorem dX7_reckon_10 : decode cX7_reckon 10 = .ok (.invokevirtual 54, 3) := by decide +kernel
theorem dX7_reckon_13 : decode cX7_reckon 13 = .ok (.if_icmp .ge 44, 3) := by decide +kernel
theorem dX7_reckon_16 : decode cX7_reckon 16 = .ok (.iload_n 3, 1) := by decide +kernel
theorem dX7_reckon_17 : decode cX7_reckon 17 = .ok (.aload_n 0, 1) := by decide +kernel
theorem dX7_reckon_18 : decode cX7_reckon 18 = .ok (.iload_n 1, 1) := by decide +kernel
theorem dX7_reckon_19 : decode cX7_reckon 19 = .ok (.bipush 10, 2) := by decide +kernel
theorem dX7_reckon_21 : decode cX7_reckon 21 = .ok (.iload 4, 2) := by decide +kernel
theorem dX7_reckon_23 : decode cX7_reckon 23 = .ok (.iadd, 1) := by decide +kernel
theorem dX7_reckon_24 : decode cX7_reckon 24 = .ok (.invokevirtual 54, 3) := by decide +kernel
theorem dX7_reckon_27 : decode cX7_reckon 27 = .ok (.iadd, 1) := by decide +kernel
theorem dX7_reckon_28 : decode cX7_reckon 28 = .ok (.istore_n 3, 1) := by decide +kernel
theorem dX7_reckon_29 : decode cX7_reckon 29 = .ok (.aload_n 0, 1) := by decide +kernel
theorem dX7_reckon_30 : decode cX7_reckon 30 = .ok (.getfield 25, 3) := by decide +kernel
theorem dX7_reckon_33 : decode cX7_reckon 33 = .ok (.iload 4, 2) := by decide +kernel
theorem dX7_reckon_35 : decode cX7_reckon 35 = .ok (.iload_n 3, 1) := by decide +kernel
theorem dX7_reckon_36 : decode cX7_reckon 36 = .ok (.iastore, 1) := by decide +kernel
theorem dX7_reckon_37 : decode cX7_reckon 37 = .ok (.aload_n 0, 1) := by decide +kernel
theorem dX7_reckon_38 : decode cX7_reckon 38 = .ok (.getfield 22, 3) := by decide +kernel
theorem dX7_reckon_41 : decode cX7_reckon 41 = .ok (.iload 4, 2) := by decide +kernel
theorem dX7_reckon_43 : decode cX7_reckon 43 = .ok (.aload_n 0, 1) := by decide +kernel
theorem dX7_reckon_44 : decode cX7_reckon 44 = .ok (.iload_n 1, 1) := by decide +kernel
theorem dX7_reckon_45 : decode cX7_reckon 45 = .ok (.iload 4, 2) := by decide +kernel
theorem dX7_reckon_47 : decode cX7_reckon 47 = .ok (.invokevirtual 116, 3) := by decide +kernel
theorem dX7_reckon_50 : decode cX7_reckon 50 = .ok (.iastore, 1) := by decide +kernel
theorem dX7_reckon_51 : decode cX7_reckon 51 = .ok (.iinc 4 1, 3) := by decide +kernel
theorem dX7_reckon_54 : decode cX7_reckon 54 = .ok (.goto (-49), 3) := by decide +kernel
theorem dX7_reckon_57 : decode cX7_reckon 57 = .ok (.aload_n 0, 1) := by decide +kernel
theorem dX7_reckon_58 : decode cX7_reckon 58 = .ok (.aload_n 0, 1) := by decide +kernel
theorem dX7_reckon_59 : decode cX7_reckon 59 = .ok (.getfield 7, 3) := by decide +kernel
theorem dX7_reckon_62 : decode cX7_reckon 62 = .ok (.iconst 0, 1) := by decide +kernel
theorem dX7_reckon_63 : decode cX7_reckon 63 = .ok (.iaload, 1) := by decide +kernel
theorem dX7_reckon_64 : decode cX7_reckon 64 = .ok (.iload_n 3, 1) := by decide +kernel
theorem dX7_reckon_65 : decode cX7_reckon 65 = .ok (.iadd, 1) := by decide +kernel
theorem dX7_reckon_66 : decode cX7_reckon 66 = .ok (.iload_n 2, 1) := by decide +kernel
theorem dX7_reckon_67 : decode cX7_reckon 67 = .ok (.iadd, 1) := by decide +kernel
theorem dX7_reckon_68 : decode cX7_reckon 68 = .ok (.iconst 1, 1) := by decide +kernel
theorem dX7_reckon_69 : decode cX7_reckon 69 = .ok (.isub, 1) := by decide +kernel
theorem dX7_reckon_70 : decode cX7_reckon 70 = .ok (.iload_n 2, 1) := by decide +kernel
theorem dX7_reckon_71 : decode cX7_reckon 71 = .ok (.idiv, 1) := by decide +kernel
theorem dX7_reckon_72 : decode cX7_reckon 72 = .ok (.iconst 1, 1) := by decide +kernel
theorem dX7_reckon_73 : decode cX7_reckon 73 = .ok (.iadd, 1) := by decide +kernel
theorem dX7_reckon_74 : decode cX7_reckon 74 = .ok (.putfield 118, 3) := by decide +kernel
theorem dX7_reckon_77 : decode cX7_reckon 77 = .ok (.aload_n 0, 1) := by decide +kernel
theorem dX7_reckon_78 : decode cX7_reckon 78 = .ok (.iconst 0, 1) := by decide +kernel
theorem dX7_reckon_79 : decode cX7_reckon 79 = .ok (.putfield 101, 3) := by decide +kernel
theorem dX7_reckon_82 : decode cX7_reckon 82 = .ok (.aload_n 0, 1) := by decide +kernel
theorem dX7_reckon_83 : decode cX7_reckon 83 = .ok (.bipush (-5), 2) := by decide +kernel
theorem dX7_reckon_85 : decode cX7_reckon 85 = .ok (.putfield 104, 3) := by decide +kernel
theorem dX7_reckon_88 : decode cX7_reckon 88 = .ok (.aload_n 0, 1) := by decide +kernel
theorem dX7_reckon_89 : decode cX7_reckon 89 = .ok (.bipush (-5), 2) := by decide +kernel
theorem dX7_reckon_91 : decode cX7_reckon 91 = .ok (.putfield 107, 3) := by decide +kernel
theorem dX7_reckon_94 : decode cX7_reckon 94 = .ok (.aload_n 0, 1) := by decide +kernel
theorem dX7_reckon_95 : decode cX7_reckon 95 = .ok (.iconst 0, 1) := by decide +kernel
theorem dX7_reckon_96 : decode cX7_reckon 96 = .ok (.putfield 110, 3) := by decide +kernel
theorem dX7_reckon_99 : decode cX7_reckon 99 = .ok (.aload_n 0, 1) := by decide +kernel
theorem dX7_reckon_100 : decode cX7_reckon 100 = .ok (.iconst 0, 1) := by decide +kernel
theorem dX7_reckon_101 : decode cX7_reckon 101 = .ok (.putfield 113, 3) := by decide +kernel
theorem dX7_reckon_104 : decode cX7_reckon 104 = .ok (.iconst 0, 1) := by decide +kernel
theorem dX7_reckon_105 : decode cX7_reckon 105 = .ok (.istore 4, 2) := by decide +kernel
theorem dX7_reckon_107 : decode cX7_reckon 107 = .ok (.iload 4, 2) := by decide +kernel
theorem dX7_reckon_109 : decode cX7_reckon 109 = .ok (.aload_n 0, 1) := by decide +kernel
theorem dX7_reckon_110 : decode cX7_reckon 110 = .ok (.invokevirtual 121, 3) := by decide +kernel
theorem dX7_reckon_113 : decode cX7_reckon 113 = .ok (.if_icmp .ge 276, 3) := by decide +kernel
theorem dX7_reckon_116 : decode cX7_reckon 116 = .ok (.iload 4, 2) := by decide +kernel
theorem dX7_reckon_118 : decode cX7_reckon 118 = .ok (.ifCond .ne 7, 3) := by decide +kernel
theorem dX7_reckon_121 : decode cX7_reckon 121 = .ok (.iconst 0, 1) := by decide +kernel
theorem dX7_reckon_122 : decode cX7_reckon 122 = .ok (.goto 22, 3) := by decide +kernel
theorem dX7_reckon_125 : decode cX7_reckon 125 = .ok (.aload_n 0, 1) := by decide +kernel
theorem dX7_reckon_126 : decode cX7_reckon 126 = .ok (.getfield 31, 3) := by decide +kernel
theorem dX7_reckon_129 : decode cX7_reckon 129 = .ok (.iload 4, 2) := by decide +kernel
theorem dX7_reckon_131 : decode cX7_reckon 131 = .ok (.iconst 1, 1) := by decide +kernel
theorem dX7_reckon_132 : decode cX7_reckon 132 = .ok (.isub, 1) := by decide +kernel
theorem dX7_reckon_133 : decode cX7_reckon 133 = .ok (.iaload, 1) := by decide +kernel
