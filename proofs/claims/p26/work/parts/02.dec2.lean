theorem dX4_isTooLong_1 : decode cX4_isTooLong 1 = .ok (.getfield 82, 3) := by decide +kernel
theorem dX4_isTooLong_4 : decode cX4_isTooLong 4 = .ok (.bipush 120, 2) := by decide +kernel
theorem dX4_isTooLong_6 : decode cX4_isTooLong 6 = .ok (.if_icmp .le 7, 3) := by decide +kernel
theorem dX4_isTooLong_9 : decode cX4_isTooLong 9 = .ok (.iconst 1, 1) := by decide +kernel
theorem dX4_isTooLong_10 : decode cX4_isTooLong 10 = .ok (.goto 4, 3) := by decide +kernel
theorem dX4_isTooLong_13 : decode cX4_isTooLong 13 = .ok (.iconst 0, 1) := by decide +kernel
theorem dX4_isTooLong_14 : decode cX4_isTooLong 14 = .ok (.ireturn, 1) := by decide +kernel
theorem dX4_readingCount_0 : decode cX4_readingCount 0 = .ok (.aload_n 0, 1) := by decide +kernel
theorem dX4_readingCount_1 : decode cX4_readingCount 1 = .ok (.getfield 82, 3) := by decide +kernel
theorem dX4_readingCount_4 : decode cX4_readingCount 4 = .ok (.bipush 120, 2) := by decide +kernel
theorem dX4_readingCount_6 : decode cX4_readingCount 6 = .ok (.invokestatic 85, 3) := by decide +kernel
theorem dX4_readingCount_9 : decode cX4_readingCount 9 = .ok (.ireturn, 1) := by decide +kernel
theorem dX4_rollOver_0 : decode cX4_rollOver 0 = .ok (.aload_n 0, 1) := by decide +kernel
theorem dX4_rollOver_1 : decode cX4_rollOver 1 = .ok (.getfield 31, 3) := by decide +kernel
theorem dX4_rollOver_4 : decode cX4_rollOver 4 = .ok (.invokevirtual 90, 3) := by decide +kernel
theorem dX4_rollOver_7 : decode cX4_rollOver 7 = .ok (.aload_n 0, 1) := by decide +kernel
theorem dX4_rollOver_8 : decode cX4_rollOver 8 = .ok (.invokevirtual 93, 3) := by decide +kernel
theorem dX4_rollOver_11 : decode cX4_rollOver 11 = .ok (.istore_n 1, 1) := by decide +kernel
theorem dX4_rollOver_12 : decode cX4_rollOver 12 = .ok (.iconst 0, 1) := by decide +kernel
theorem dX4_rollOver_13 : decode cX4_rollOver 13 = .ok (.istore_n 2, 1) := by decide +kernel
theorem dX4_rollOver_14 : decode cX4_rollOver 14 = .ok (.iload_n 2, 1) := by decide +kernel
theorem dX4_rollOver_15 : decode cX4_rollOver 15 = .ok (.iload_n 1, 1) := by decide +kernel
theorem dX4_rollOver_16 : decode cX4_rollOver 16 = .ok (.if_icmp .ge 66, 3) := by decide +kernel
theorem dX4_rollOver_19 : decode cX4_rollOver 19 = .ok (.aload_n 0, 1) := by decide +kernel
theorem dX4_rollOver_20 : decode cX4_rollOver 20 = .ok (.iload_n 2, 1) := by decide +kernel
theorem dX4_rollOver_21 : decode cX4_rollOver 21 = .ok (.invokevirtual 97, 3) := by decide +kernel
theorem dX4_rollOver_24 : decode cX4_rollOver 24 = .ok (.aload_n 0, 1) := by decide +kernel
theorem dX4_rollOver_25 : decode cX4_rollOver 25 = .ok (.getfield 21, 3) := by decide +kernel
theorem dX4_rollOver_28 : decode cX4_rollOver 28 = .ok (.iload_n 2, 1) := by decide +kernel
theorem dX4_rollOver_29 : decode cX4_rollOver 29 = .ok (.aload_n 0, 1) := by decide +kernel
theorem dX4_rollOver_30 : decode cX4_rollOver 30 = .ok (.iload_n 2, 1) := by decide +kernel
theorem dX4_rollOver_31 : decode cX4_rollOver 31 = .ok (.invokevirtual 101, 3) := by decide +kernel
theorem dX4_rollOver_34 : decode cX4_rollOver 34 = .ok (.bastore, 1) := by decide +kernel
theorem dX4_rollOver_35 : decode cX4_rollOver 35 = .ok (.aload_n 0, 1) := by decide +kernel
theorem dX4_rollOver_36 : decode cX4_rollOver 36 = .ok (.getfield 21, 3) := by decide +kernel
theorem dX4_rollOver_39 : decode cX4_rollOver 39 = .ok (.iload_n 2, 1) := by decide +kernel
theorem dX4_rollOver_40 : decode cX4_rollOver 40 = .ok (.baload, 1) := by decide +kernel
theorem dX4_rollOver_41 : decode cX4_rollOver 41 = .ok (.ifCond .eq 22, 3) := by decide +kernel
theorem dX4_rollOver_44 : decode cX4_rollOver 44 = .ok (.aload_n 0, 1) := by decide +kernel
theorem dX4_rollOver_45 : decode cX4_rollOver 45 = .ok (.getfield 31, 3) := by decide +kernel
theorem dX4_rollOver_48 : decode cX4_rollOver 48 = .ok (.aload_n 0, 1) := by decide +kernel
theorem dX4_rollOver_49 : decode cX4_rollOver 49 = .ok (.iload_n 2, 1) := by decide +kernel
theorem dX4_rollOver_50 : decode cX4_rollOver 50 = .ok (.invokevirtual 105, 3) := by decide +kernel
theorem dX4_rollOver_53 : decode cX4_rollOver 53 = .ok (.iload_n 2, 1) := by decide +kernel
theorem dX4_rollOver_54 : decode cX4_rollOver 54 = .ok (.aload_n 0, 1) := by decide +kernel
theorem dX4_rollOver_55 : decode cX4_rollOver 55 = .ok (.getfield 35, 3) := by decide +kernel
theorem dX4_rollOver_58 : decode cX4_rollOver 58 = .ok (.iconst 4, 1) := by decide +kernel
theorem dX4_rollOver_59 : decode cX4_rollOver 59 = .ok (.iaload, 1) := by decide +kernel
theorem dX4_rollOver_60 : decode cX4_rollOver 60 = .ok (.invokevirtual 108, 3) := by decide +kernel
theorem dX4_rollOver_63 : decode cX4_rollOver 63 = .ok (.aload_n 0, 1) := by decide +kernel
theorem dX4_rollOver_64 : decode cX4_rollOver 64 = .ok (.getfield 25, 3) := by decide +kernel
theorem dX4_rollOver_67 : decode cX4_rollOver 67 = .ok (.iload_n 2, 1) := by decide +kernel
theorem dX4_rollOver_68 : decode cX4_rollOver 68 = .ok (.aload_n 0, 1) := by decide +kernel
theorem dX4_rollOver_69 : decode cX4_rollOver 69 = .ok (.getfield 31, 3) := by decide +kernel
theorem dX4_rollOver_72 : decode cX4_rollOver 72 = .ok (.getfield 112, 3) := by decide +kernel
theorem dX4_rollOver_75 : decode cX4_rollOver 75 = .ok (.iastore, 1) := by decide +kernel
theorem dX4_rollOver_76 : decode cX4_rollOver 76 = .ok (.iinc 2 1, 3) := by decide +kernel
theorem dX4_rollOver_79 : decode cX4_rollOver 79 = .ok (.goto (-65), 3) := by decide +kernel
theorem dX4_rollOver_82 : decode cX4_rollOver 82 = .ok (.return_, 1) := by decide +kernel
theorem dX4_isOnPlate_0 : decode cX4_isOnPlate 0 = .ok (.aload_n 0, 1) := by decide +kernel
theorem dX4_isOnPlate_1 : decode cX4_isOnPlate 1 = .ok (.getfield 54, 3) := by decide +kernel
theorem dX4_isOnPlate_4 : decode cX4_isOnPlate 4 = .ok (.iload_n 2, 1) := by decide +kernel
theorem dX4_isOnPlate_5 : decode cX4_isOnPlate 5 = .ok (.imul, 1) := by decide +kernel
theorem dX4_isOnPlate_6 : decode cX4_isOnPlate 6 = .ok (.aload_n 0, 1) := by decide +kernel
theorem dX4_isOnPlate_7 : decode cX4_isOnPlate 7 = .ok (.getfield 38, 3) := by decide +kernel
theorem dX4_isOnPlate_10 : decode cX4_isOnPlate 10 = .ok (.iload_n 1, 1) := by decide +kernel
theorem dX4_isOnPlate_11 : decode cX4_isOnPlate 11 = .ok (.iaload, 1) := by decide +kernel
theorem dX4_isOnPlate_12 : decode cX4_isOnPlate 12 = .ok (.isub, 1) := by decide +kernel
theorem dX4_isOnPlate_13 : decode cX4_isOnPlate 13 = .ok (.istore_n 3, 1) := by decide +kernel
theorem dX4_isOnPlate_14 : decode cX4_isOnPlate 14 = .ok (.iload_n 3, 1) := by decide +kernel
theorem dX4_isOnPlate_15 : decode cX4_isOnPlate 15 = .ok (.ifCond .lt 17, 3) := by decide +kernel
theorem dX4_isOnPlate_18 : decode cX4_isOnPlate 18 = .ok (.iload_n 3, 1) := by decide +kernel
theorem dX4_isOnPlate_19 : decode cX4_isOnPlate 19 = .ok (.aload_n 0, 1) := by decide +kernel
theorem dX4_isOnPlate_20 : decode cX4_isOnPlate 20 = .ok (.getfield 35, 3) := by decide +kernel
theorem dX4_isOnPlate_23 : decode cX4_isOnPlate 23 = .ok (.iconst 0, 1) := by decide +kernel
theorem dX4_isOnPlate_24 : decode cX4_isOnPlate 24 = .ok (.iaload, 1) := by decide +kernel
theorem dX4_isOnPlate_25 : decode cX4_isOnPlate 25 = .ok (.if_icmp .ge 7, 3) := by decide +kernel
theorem dX4_isOnPlate_28 : decode cX4_isOnPlate 28 = .ok (.iconst 1, 1) := by decide +kernel
theorem dX4_isOnPlate_29 : decode cX4_isOnPlate 29 = .ok (.goto 4, 3) := by decide +kernel
theorem dX4_isOnPlate_32 : decode cX4_isOnPlate 32 = .ok (.iconst 0, 1) := by decide +kernel
theorem dX4_isOnPlate_33 : decode cX4_isOnPlate 33 = .ok (.ireturn, 1) := by decide +kernel
theorem dX4_loadAt_0 : decode cX4_loadAt 0 = .ok (.iconst 0, 1) := by decide +kernel
theorem dX4_loadAt_1 : decode cX4_loadAt 1 = .ok (.istore_n 2, 1) := by decide +kernel
theorem dX4_loadAt_2 : decode cX4_loadAt 2 = .ok (.iconst 0, 1) := by decide +kernel
theorem dX4_loadAt_3 : decode cX4_loadAt 3 = .ok (.istore_n 3, 1) := by decide +kernel
theorem dX4_loadAt_4 : decode cX4_loadAt 4 = .ok (.iload_n 3, 1) := by decide +kernel
theorem dX4_loadAt_5 : decode cX4_loadAt 5 = .ok (.aload_n 0, 1) := by decide +kernel
theorem dX4_loadAt_6 : decode cX4_loadAt 6 = .ok (.getfield 69, 3) := by decide +kernel
theorem dX4_loadAt_9 : decode cX4_loadAt 9 = .ok (.if_icmp .ge 27, 3) := by decide +kernel
theorem dX4_loadAt_12 : decode cX4_loadAt 12 = .ok (.aload_n 0, 1) := by decide +kernel
theorem dX4_loadAt_13 : decode cX4_loadAt 13 = .ok (.iload_n 3, 1) := by decide +kernel
theorem dX4_loadAt_14 : decode cX4_loadAt 14 = .ok (.iload_n 1, 1) := by decide +kernel
theorem dX4_loadAt_15 : decode cX4_loadAt 15 = .ok (.invokevirtual 115, 3) := by decide +kernel
theorem dX4_loadAt_18 : decode cX4_loadAt 18 = .ok (.ifCond .eq 12, 3) := by decide +kernel
theorem dX4_loadAt_21 : decode cX4_loadAt 21 = .ok (.iload_n 2, 1) := by decide +kernel
theorem dX4_loadAt_22 : decode cX4_loadAt 22 = .ok (.aload_n 0, 1) := by decide +kernel
theorem dX4_loadAt_23 : decode cX4_loadAt 23 = .ok (.getfield 41, 3) := by decide +kernel
theorem dX4_loadAt_26 : decode cX4_loadAt 26 = .ok (.iload_n 3, 1) := by decide +kernel
theorem dX4_loadAt_27 : decode cX4_loadAt 27 = .ok (.iaload, 1) := by decide +kernel
theorem dX4_loadAt_28 : decode cX4_loadAt 28 = .ok (.iadd, 1) := by decide +kernel
theorem dX4_loadAt_29 : decode cX4_loadAt 29 = .ok (.istore_n 2, 1) := by decide +kernel
theorem dX4_loadAt_30 : decode cX4_loadAt 30 = .ok (.iinc 3 1, 3) := by decide +kernel
theorem dX4_loadAt_33 : decode cX4_loadAt 33 = .ok (.goto (-29), 3) := by decide +kernel
theorem dX4_loadAt_36 : decode cX4_loadAt 36 = .ok (.iload_n 2, 1) := by decide +kernel
theorem dX4_loadAt_37 : decode cX4_loadAt 37 = .ok (.ireturn, 1) := by decide +kernel
theorem dX4_weigh_0 : decode cX4_weigh 0 = .ok (.aload_n 0, 1) := by decide +kernel
theorem dX4_weigh_1 : decode cX4_weigh 1 = .ok (.iload_n 1, 1) := by decide +kernel
theorem dX4_weigh_2 : decode cX4_weigh 2 = .ok (.invokevirtual 119, 3) := by decide +kernel
theorem dX4_weigh_5 : decode cX4_weigh 5 = .ok (.istore_n 2, 1) := by decide +kernel
theorem dX4_weigh_6 : decode cX4_weigh 6 = .ok (.iload_n 1, 1) := by decide +kernel
theorem dX4_weigh_7 : decode cX4_weigh 7 = .ok (.ifCond .le 14, 3) := by decide +kernel
theorem dX4_weigh_10 : decode cX4_weigh 10 = .ok (.aload_n 0, 1) := by decide +kernel
theorem dX4_weigh_11 : decode cX4_weigh 11 = .ok (.getfield 9, 3) := by decide +kernel
theorem dX4_weigh_14 : decode cX4_weigh 14 = .ok (.iload_n 1, 1) := by decide +kernel
theorem dX4_weigh_15 : decode cX4_weigh 15 = .ok (.iconst 1, 1) := by decide +kernel
theorem dX4_weigh_16 : decode cX4_weigh 16 = .ok (.isub, 1) := by decide +kernel
theorem dX4_weigh_17 : decode cX4_weigh 17 = .ok (.iaload, 1) := by decide +kernel
theorem dX4_weigh_18 : decode cX4_weigh 18 = .ok (.goto 4, 3) := by decide +kernel
theorem dX4_weigh_21 : decode cX4_weigh 21 = .ok (.iconst 0, 1) := by decide +kernel
theorem dX4_weigh_22 : decode cX4_weigh 22 = .ok (.istore_n 3, 1) := by decide +kernel
theorem dX4_weigh_23 : decode cX4_weigh 23 = .ok (.iload_n 1, 1) := by decide +kernel
theorem dX4_weigh_24 : decode cX4_weigh 24 = .ok (.ifCond .le 14, 3) := by decide +kernel
theorem dX4_weigh_27 : decode cX4_weigh 27 = .ok (.aload_n 0, 1) := by decide +kernel
theorem dX4_weigh_28 : decode cX4_weigh 28 = .ok (.getfield 15, 3) := by decide +kernel
theorem dX4_weigh_31 : decode cX4_weigh 31 = .ok (.iload_n 1, 1) := by decide +kernel
theorem dX4_weigh_32 : decode cX4_weigh 32 = .ok (.iconst 1, 1) := by decide +kernel
theorem dX4_weigh_33 : decode cX4_weigh 33 = .ok (.isub, 1) := by decide +kernel
theorem dX4_weigh_34 : decode cX4_weigh 34 = .ok (.iaload, 1) := by decide +kernel
theorem dX4_weigh_35 : decode cX4_weigh 35 = .ok (.goto 4, 3) := by decide +kernel
theorem dX4_weigh_38 : decode cX4_weigh 38 = .ok (.iconst 0, 1) := by decide +kernel
theorem dX4_weigh_39 : decode cX4_weigh 39 = .ok (.istore 4, 2) := by decide +kernel
theorem dX4_weigh_41 : decode cX4_weigh 41 = .ok (.iload_n 2, 1) := by decide +kernel
theorem dX4_weigh_42 : decode cX4_weigh 42 = .ok (.iload_n 3, 1) := by decide +kernel
theorem dX4_weigh_43 : decode cX4_weigh 43 = .ok (.isub, 1) := by decide +kernel
theorem dX4_weigh_44 : decode cX4_weigh 44 = .ok (.invokestatic 122, 3) := by decide +kernel
theorem dX4_weigh_47 : decode cX4_weigh 47 = .ok (.istore 5, 2) := by decide +kernel
theorem dX4_weigh_49 : decode cX4_weigh 49 = .ok (.iload 4, 2) := by decide +kernel
theorem dX4_weigh_51 : decode cX4_weigh 51 = .ok (.aload_n 0, 1) := by decide +kernel
theorem dX4_weigh_52 : decode cX4_weigh 52 = .ok (.getfield 35, 3) := by decide +kernel
theorem dX4_weigh_55 : decode cX4_weigh 55 = .ok (.iconst 2, 1) := by decide +kernel
theorem dX4_weigh_56 : decode cX4_weigh 56 = .ok (.iaload, 1) := by decide +kernel
theorem dX4_weigh_57 : decode cX4_weigh 57 = .ok (.imul, 1) := by decide +kernel
theorem dX4_weigh_58 : decode cX4_weigh 58 = .ok (.bipush 100, 2) := by decide +kernel
theorem dX4_weigh_60 : decode cX4_weigh 60 = .ok (.idiv, 1) := by decide +kernel
theorem dX4_weigh_61 : decode cX4_weigh 61 = .ok (.iload 5, 2) := by decide +kernel
theorem dX4_weigh_63 : decode cX4_weigh 63 = .ok (.aload_n 0, 1) := by decide +kernel
theorem dX4_weigh_64 : decode cX4_weigh 64 = .ok (.getfield 35, 3) := by decide +kernel
theorem dX4_weigh_67 : decode cX4_weigh 67 = .ok (.iconst 1, 1) := by decide +kernel
theorem dX4_weigh_68 : decode cX4_weigh 68 = .ok (.iaload, 1) := by decide +kernel
theorem dX4_weigh_69 : decode cX4_weigh 69 = .ok (.imul, 1) := by decide +kernel
theorem dX4_weigh_70 : decode cX4_weigh 70 = .ok (.bipush 100, 2) := by decide +kernel
theorem dX4_weigh_72 : decode cX4_weigh 72 = .ok (.idiv, 1) := by decide +kernel
theorem dX4_weigh_73 : decode cX4_weigh 73 = .ok (.iadd, 1) := by decide +kernel
theorem dX4_weigh_74 : decode cX4_weigh 74 = .ok (.istore 6, 2) := by decide +kernel
theorem dX4_weigh_76 : decode cX4_weigh 76 = .ok (.aload_n 0, 1) := by decide +kernel
theorem dX4_weigh_77 : decode cX4_weigh 77 = .ok (.getfield 9, 3) := by decide +kernel
theorem dX4_weigh_80 : decode cX4_weigh 80 = .ok (.iload_n 1, 1) := by decide +kernel
theorem dX4_weigh_81 : decode cX4_weigh 81 = .ok (.iload_n 2, 1) := by decide +kernel
theorem dX4_weigh_82 : decode cX4_weigh 82 = .ok (.iastore, 1) := by decide +kernel
theorem dX4_weigh_83 : decode cX4_weigh 83 = .ok (.aload_n 0, 1) := by decide +kernel
theorem dX4_weigh_84 : decode cX4_weigh 84 = .ok (.getfield 15, 3) := by decide +kernel
theorem dX4_weigh_87 : decode cX4_weigh 87 = .ok (.iload_n 1, 1) := by decide +kernel
theorem dX4_weigh_88 : decode cX4_weigh 88 = .ok (.iload 6, 2) := by decide +kernel
theorem dX4_weigh_90 : decode cX4_weigh 90 = .ok (.iastore, 1) := by decide +kernel
theorem dX4_weigh_91 : decode cX4_weigh 91 = .ok (.aload_n 0, 1) := by decide +kernel
theorem dX4_weigh_92 : decode cX4_weigh 92 = .ok (.getfield 18, 3) := by decide +kernel
theorem dX4_weigh_95 : decode cX4_weigh 95 = .ok (.iload_n 1, 1) := by decide +kernel
theorem dX4_weigh_96 : decode cX4_weigh 96 = .ok (.iload_n 2, 1) := by decide +kernel
theorem dX4_weigh_97 : decode cX4_weigh 97 = .ok (.iload 6, 2) := by decide +kernel
theorem dX4_weigh_99 : decode cX4_weigh 99 = .ok (.iload_n 1, 1) := by decide +kernel
theorem dX4_weigh_100 : decode cX4_weigh 100 = .ok (.invokestatic 125, 3) := by decide +kernel
theorem dX4_weigh_103 : decode cX4_weigh 103 = .ok (.iastore, 1) := by decide +kernel
theorem dX4_weigh_104 : decode cX4_weigh 104 = .ok (.return_, 1) := by decide +kernel
theorem dX4_readingOf_0 : decode cX4_readingOf 0 = .ok (.iload_n 2, 1) := by decide +kernel
theorem dX4_readingOf_1 : decode cX4_readingOf 1 = .ok (.iconst 4, 1) := by decide +kernel
theorem dX4_readingOf_2 : decode cX4_readingOf 2 = .ok (.irem, 1) := by decide +kernel
theorem dX4_readingOf_3 : decode cX4_readingOf 3 = .ok (.lookupswitch 37 #[(0, 25), (2, 29)], 25) := by decide +kernel
theorem dX4_readingOf_28 : decode cX4_readingOf 28 = .ok (.iload_n 0, 1) := by decide +kernel
theorem dX4_readingOf_29 : decode cX4_readingOf 29 = .ok (.iload_n 1, 1) := by decide +kernel
theorem dX4_readingOf_30 : decode cX4_readingOf 30 = .ok (.iadd, 1) := by decide +kernel
theorem dX4_readingOf_31 : decode cX4_readingOf 31 = .ok (.ireturn, 1) := by decide +kernel
theorem dX4_readingOf_32 : decode cX4_readingOf 32 = .ok (.iload_n 0, 1) := by decide +kernel
theorem dX4_readingOf_33 : decode cX4_readingOf 33 = .ok (.iload_n 1, 1) := by decide +kernel
theorem dX4_readingOf_34 : decode cX4_readingOf 34 = .ok (.isub, 1) := by decide +kernel
theorem dX4_readingOf_35 : decode cX4_readingOf 35 = .ok (.iconst 0, 1) := by decide +kernel
theorem dX4_readingOf_36 : decode cX4_readingOf 36 = .ok (.invokestatic 129, 3) := by decide +kernel
theorem dX4_readingOf_39 : decode cX4_readingOf 39 = .ok (.ireturn, 1) := by decide +kernel
theorem dX4_readingOf_40 : decode cX4_readingOf 40 = .ok (.iload_n 0, 1) := by decide +kernel
theorem dX4_readingOf_41 : decode cX4_readingOf 41 = .ok (.ireturn, 1) := by decide +kernel
theorem dX4_hasSettled_0 : decode cX4_hasSettled 0 = .ok (.iload_n 1, 1) := by decide +kernel
theorem dX4_hasSettled_1 : decode cX4_hasSettled 1 = .ok (.aload_n 0, 1) := by decide +kernel
theorem dX4_hasSettled_2 : decode cX4_hasSettled 2 = .ok (.getfield 35, 3) := by decide +kernel
theorem dX4_hasSettled_5 : decode cX4_hasSettled 5 = .ok (.iconst 3, 1) := by decide +kernel
theorem dX4_hasSettled_6 : decode cX4_hasSettled 6 = .ok (.iaload, 1) := by decide +kernel
theorem dX4_hasSettled_7 : decode cX4_hasSettled 7 = .ok (.isub, 1) := by decide +kernel
theorem dX4_hasSettled_8 : decode cX4_hasSettled 8 = .ok (.iconst 1, 1) := by decide +kernel
theorem dX4_hasSettled_9 : decode cX4_hasSettled 9 = .ok (.iadd, 1) := by decide +kernel
theorem dX4_hasSettled_10 : decode cX4_hasSettled 10 = .ok (.istore_n 2, 1) := by decide +kernel
theorem dX4_hasSettled_11 : decode cX4_hasSettled 11 = .ok (.iload_n 2, 1) := by decide +kernel
theorem dX4_hasSettled_12 : decode cX4_hasSettled 12 = .ok (.ifCond .ge 5, 3) := by decide +kernel
theorem dX4_hasSettled_15 : decode cX4_hasSettled 15 = .ok (.iconst 0, 1) := by decide +kernel
theorem dX4_hasSettled_16 : decode cX4_hasSettled 16 = .ok (.ireturn, 1) := by decide +kernel
theorem dX4_hasSettled_17 : decode cX4_hasSettled 17 = .ok (.aload_n 0, 1) := by decide +kernel
theorem dX4_hasSettled_18 : decode cX4_hasSettled 18 = .ok (.getfield 18, 3) := by decide +kernel
theorem dX4_hasSettled_21 : decode cX4_hasSettled 21 = .ok (.iload_n 1, 1) := by decide +kernel
theorem dX4_hasSettled_22 : decode cX4_hasSettled 22 = .ok (.iaload, 1) := by decide +kernel
theorem dX4_hasSettled_23 : decode cX4_hasSettled 23 = .ok (.istore_n 3, 1) := by decide +kernel
theorem dX4_hasSettled_24 : decode cX4_hasSettled 24 = .ok (.aload_n 0, 1) := by decide +kernel
theorem dX4_hasSettled_25 : decode cX4_hasSettled 25 = .ok (.getfield 18, 3) := by decide +kernel
theorem dX4_hasSettled_28 : decode cX4_hasSettled 28 = .ok (.iload_n 1, 1) := by decide +kernel
theorem dX4_hasSettled_29 : decode cX4_hasSettled 29 = .ok (.iaload, 1) := by decide +kernel
theorem dX4_hasSettled_30 : decode cX4_hasSettled 30 = .ok (.istore 4, 2) := by decide +kernel
theorem dX4_hasSettled_32 : decode cX4_hasSettled 32 = .ok (.iload_n 2, 1) := by decide +kernel
theorem dX4_hasSettled_33 : decode cX4_hasSettled 33 = .ok (.istore 5, 2) := by decide +kernel
theorem dX4_hasSettled_35 : decode cX4_hasSettled 35 = .ok (.iload 5, 2) := by decide +kernel
theorem dX4_hasSettled_37 : decode cX4_hasSettled 37 = .ok (.iload_n 1, 1) := by decide +kernel
theorem dX4_hasSettled_38 : decode cX4_hasSettled 38 = .ok (.if_icmp .ge 35, 3) := by decide +kernel
theorem dX4_hasSettled_41 : decode cX4_hasSettled 41 = .ok (.iload_n 3, 1) := by decide +kernel
theorem dX4_hasSettled_42 : decode cX4_hasSettled 42 = .ok (.aload_n 0, 1) := by decide +kernel
theorem dX4_hasSettled_43 : decode cX4_hasSettled 43 = .ok (.getfield 18, 3) := by decide +kernel
theorem dX4_hasSettled_46 : decode cX4_hasSettled 46 = .ok (.iload 5, 2) := by decide +kernel
theorem dX4_hasSettled_48 : decode cX4_hasSettled 48 = .ok (.iaload, 1) := by decide +kernel
theorem dX4_hasSettled_49 : decode cX4_hasSettled 49 = .ok (.invokestatic 85, 3) := by decide +kernel
theorem dX4_hasSettled_52 : decode cX4_hasSettled 52 = .ok (.istore_n 3, 1) := by decide +kernel
theorem dX4_hasSettled_53 : decode cX4_hasSettled 53 = .ok (.iload 4, 2) := by decide +kernel
theorem dX4_hasSettled_55 : decode cX4_hasSettled 55 = .ok (.aload_n 0, 1) := by decide +kernel
theorem dX4_hasSettled_56 : decode cX4_hasSettled 56 = .ok (.getfield 18, 3) := by decide +kernel
theorem dX4_hasSettled_59 : decode cX4_hasSettled 59 = .ok (.iload 5, 2) := by decide +kernel
theorem dX4_hasSettled_61 : decode cX4_hasSettled 61 = .ok (.iaload, 1) := by decide +kernel
theorem dX4_hasSettled_62 : decode cX4_hasSettled 62 = .ok (.invokestatic 129, 3) := by decide +kernel
theorem dX4_hasSettled_65 : decode cX4_hasSettled 65 = .ok (.istore 4, 2) := by decide +kernel
theorem dX4_hasSettled_67 : decode cX4_hasSettled 67 = .ok (.iinc 5 1, 3) := by decide +kernel
theorem dX4_hasSettled_70 : decode cX4_hasSettled 70 = .ok (.goto (-35), 3) := by decide +kernel
theorem dX4_hasSettled_73 : decode cX4_hasSettled 73 = .ok (.iload 4, 2) := by decide +kernel
theorem dX4_hasSettled_75 : decode cX4_hasSettled 75 = .ok (.iload_n 3, 1) := by decide +kernel
theorem dX4_hasSettled_76 : decode cX4_hasSettled 76 = .ok (.isub, 1) := by decide +kernel
theorem dX4_hasSettled_77 : decode cX4_hasSettled 77 = .ok (.aload_n 0, 1) := by decide +kernel
theorem dX4_hasSettled_78 : decode cX4_hasSettled 78 = .ok (.getfield 35, 3) := by decide +kernel
theorem dX4_hasSettled_81 : decode cX4_hasSettled 81 = .ok (.iconst 4, 1) := by decide +kernel
theorem dX4_hasSettled_82 : decode cX4_hasSettled 82 = .ok (.iaload, 1) := by decide +kernel
theorem dX4_hasSettled_83 : decode cX4_hasSettled 83 = .ok (.if_icmp .gt 7, 3) := by decide +kernel
theorem dX4_hasSettled_86 : decode cX4_hasSettled 86 = .ok (.iconst 1, 1) := by decide +kernel
theorem dX4_hasSettled_87 : decode cX4_hasSettled 87 = .ok (.goto 4, 3) := by decide +kernel
theorem dX4_hasSettled_90 : decode cX4_hasSettled 90 = .ok (.iconst 0, 1) := by decide +kernel
theorem dX4_hasSettled_91 : decode cX4_hasSettled 91 = .ok (.ireturn, 1) := by decide +kernel
theorem dX4_meanAt_0 : decode cX4_meanAt 0 = .ok (.iconst 0, 1) := by decide +kernel
theorem dX4_meanAt_1 : decode cX4_meanAt 1 = .ok (.istore_n 2, 1) := by decide +kernel
theorem dX4_meanAt_2 : decode cX4_meanAt 2 = .ok (.iload_n 1, 1) := by decide +kernel
theorem dX4_meanAt_3 : decode cX4_meanAt 3 = .ok (.aload_n 0, 1) := by decide +kernel
theorem dX4_meanAt_4 : decode cX4_meanAt 4 = .ok (.getfield 35, 3) := by decide +kernel
theorem dX4_meanAt_7 : decode cX4_meanAt 7 = .ok (.iconst 3, 1) := by decide +kernel
theorem dX4_meanAt_8 : decode cX4_meanAt 8 = .ok (.iaload, 1) := by decide +kernel
theorem dX4_meanAt_9 : decode cX4_meanAt 9 = .ok (.isub, 1) := by decide +kernel
theorem dX4_meanAt_10 : decode cX4_meanAt 10 = .ok (.iconst 1, 1) := by decide +kernel
theorem dX4_meanAt_11 : decode cX4_meanAt 11 = .ok (.iadd, 1) := by decide +kernel
theorem dX4_meanAt_12 : decode cX4_meanAt 12 = .ok (.iconst 0, 1) := by decide +kernel
theorem dX4_meanAt_13 : decode cX4_meanAt 13 = .ok (.invokestatic 129, 3) := by decide +kernel
theorem dX4_meanAt_16 : decode cX4_meanAt 16 = .ok (.istore_n 3, 1) := by decide +kernel
theorem dX4_meanAt_17 : decode cX4_meanAt 17 = .ok (.iload_n 3, 1) := by decide +kernel
theorem dX4_meanAt_18 : decode cX4_meanAt 18 = .ok (.iload_n 1, 1) := by decide +kernel
theorem dX4_meanAt_19 : decode cX4_meanAt 19 = .ok (.if_icmp .gt 18, 3) := by decide +kernel
theorem dX4_meanAt_22 : decode cX4_meanAt 22 = .ok (.iload_n 2, 1) := by decide +kernel
theorem dX4_meanAt_23 : decode cX4_meanAt 23 = .ok (.aload_n 0, 1) := by decide +kernel
theorem dX4_meanAt_24 : decode cX4_meanAt 24 = .ok (.getfield 18, 3) := by decide +kernel
theorem dX4_meanAt_27 : decode cX4_meanAt 27 = .ok (.iload_n 3, 1) := by decide +kernel
theorem dX4_meanAt_28 : decode cX4_meanAt 28 = .ok (.iaload, 1) := by decide +kernel
theorem dX4_meanAt_29 : decode cX4_meanAt 29 = .ok (.iadd, 1) := by decide +kernel
theorem dX4_meanAt_30 : decode cX4_meanAt 30 = .ok (.istore_n 2, 1) := by decide +kernel
theorem dX4_meanAt_31 : decode cX4_meanAt 31 = .ok (.iinc 3 1, 3) := by decide +kernel
theorem dX4_meanAt_34 : decode cX4_meanAt 34 = .ok (.goto (-17), 3) := by decide +kernel
theorem dX4_meanAt_37 : decode cX4_meanAt 37 = .ok (.iload_n 2, 1) := by decide +kernel
theorem dX4_meanAt_38 : decode cX4_meanAt 38 = .ok (.aload_n 0, 1) := by decide +kernel
theorem dX4_meanAt_39 : decode cX4_meanAt 39 = .ok (.getfield 35, 3) := by decide +kernel
theorem dX4_meanAt_42 : decode cX4_meanAt 42 = .ok (.iconst 3, 1) := by decide +kernel
theorem dX4_meanAt_43 : decode cX4_meanAt 43 = .ok (.iaload, 1) := by decide +kernel
theorem dX4_meanAt_44 : decode cX4_meanAt 44 = .ok (.invokestatic 132, 3) := by decide +kernel
theorem dX4_meanAt_47 : decode cX4_meanAt 47 = .ok (.ireturn, 1) := by decide +kernel
theorem dX4_wireSpeed_0 : decode cX4_wireSpeed 0 = .ok (.aload_n 0, 1) := by decide +kernel
theorem dX4_wireSpeed_1 : decode cX4_wireSpeed 1 = .ok (.getfield 35, 3) := by decide +kernel
theorem dX4_wireSpeed_4 : decode cX4_wireSpeed 4 = .ok (.iconst 5, 1) := by decide +kernel
theorem dX4_wireSpeed_5 : decode cX4_wireSpeed 5 = .ok (.iaload, 1) := by decide +kernel
theorem dX4_wireSpeed_6 : decode cX4_wireSpeed 6 = .ok (.aload_n 0, 1) := by decide +kernel
theorem dX4_wireSpeed_7 : decode cX4_wireSpeed 7 = .ok (.getfield 35, 3) := by decide +kernel
theorem dX4_wireSpeed_10 : decode cX4_wireSpeed 10 = .ok (.iconst 5, 1) := by decide +kernel
theorem dX4_wireSpeed_11 : decode cX4_wireSpeed 11 = .ok (.iaload, 1) := by decide +kernel
theorem dX4_wireSpeed_12 : decode cX4_wireSpeed 12 = .ok (.aload_n 0, 1) := by decide +kernel
theorem dX4_wireSpeed_13 : decode cX4_wireSpeed 13 = .ok (.getfield 54, 3) := by decide +kernel
theorem dX4_wireSpeed_16 : decode cX4_wireSpeed 16 = .ok (.invokestatic 78, 3) := by decide +kernel
theorem dX4_wireSpeed_19 : decode cX4_wireSpeed 19 = .ok (.invokestatic 132, 3) := by decide +kernel
theorem dX4_wireSpeed_22 : decode cX4_wireSpeed 22 = .ok (.ireturn, 1) := by decide +kernel
theorem dX4_wireTimes_0 : decode cX4_wireTimes 0 = .ok (.iconst 0, 1) := by decide +kernel
theorem dX4_wireTimes_1 : decode cX4_wireTimes 1 = .ok (.istore_n 1, 1) := by decide +kernel
theorem dX4_wireTimes_2 : decode cX4_wireTimes 2 = .ok (.bipush (-5), 2) := by decide +kernel
theorem dX4_wireTimes_4 : decode cX4_wireTimes 4 = .ok (.istore_n 2, 1) := by decide +kernel
theorem dX4_wireTimes_5 : decode cX4_wireTimes 5 = .ok (.iconst 0, 1) := by decide +kernel
theorem dX4_wireTimes_6 : decode cX4_wireTimes 6 = .ok (.istore_n 3, 1) := by decide +kernel
theorem dX4_wireTimes_7 : decode cX4_wireTimes 7 = .ok (.iload_n 3, 1) := by decide +kernel
theorem dX4_wireTimes_8 : decode cX4_wireTimes 8 = .ok (.aload_n 0, 1) := by decide +kernel
theorem dX4_wireTimes_9 : decode cX4_wireTimes 9 = .ok (.getfield 69, 3) := by decide +kernel
theorem dX4_wireTimes_12 : decode cX4_wireTimes 12 = .ok (.if_icmp .ge 45, 3) := by decide +kernel
theorem dX4_wireTimes_15 : decode cX4_wireTimes 15 = .ok (.aload_n 0, 1) := by decide +kernel
theorem dX4_wireTimes_16 : decode cX4_wireTimes 16 = .ok (.getfield 38, 3) := by decide +kernel
theorem dX4_wireTimes_19 : decode cX4_wireTimes 19 = .ok (.iload_n 3, 1) := by decide +kernel
theorem dX4_wireTimes_20 : decode cX4_wireTimes 20 = .ok (.iaload, 1) := by decide +kernel
theorem dX4_wireTimes_21 : decode cX4_wireTimes 21 = .ok (.aload_n 0, 1) := by decide +kernel
theorem dX4_wireTimes_22 : decode cX4_wireTimes 22 = .ok (.getfield 54, 3) := by decide +kernel
theorem dX4_wireTimes_25 : decode cX4_wireTimes 25 = .ok (.invokestatic 78, 3) := by decide +kernel
theorem dX4_wireTimes_28 : decode cX4_wireTimes 28 = .ok (.istore 4, 2) := by decide +kernel
theorem dX4_wireTimes_30 : decode cX4_wireTimes 30 = .ok (.aload_n 0, 1) := by decide +kernel
theorem dX4_wireTimes_31 : decode cX4_wireTimes 31 = .ok (.getfield 44, 3) := by decide +kernel
theorem dX4_wireTimes_34 : decode cX4_wireTimes 34 = .ok (.iload_n 3, 1) := by decide +kernel
theorem dX4_wireTimes_35 : decode cX4_wireTimes 35 = .ok (.baload, 1) := by decide +kernel
theorem dX4_wireTimes_36 : decode cX4_wireTimes 36 = .ok (.ifCond .ne 15, 3) := by decide +kernel
theorem dX4_wireTimes_39 : decode cX4_wireTimes 39 = .ok (.iload 4, 2) := by decide +kernel
theorem dX4_wireTimes_41 : decode cX4_wireTimes 41 = .ok (.iload_n 2, 1) := by decide +kernel
theorem dX4_wireTimes_42 : decode cX4_wireTimes 42 = .ok (.if_icmp .eq 9, 3) := by decide +kernel
theorem dX4_wireTimes_45 : decode cX4_wireTimes 45 = .ok (.iinc 1 1, 3) := by decide +kernel
theorem dX4_wireTimes_48 : decode cX4_wireTimes 48 = .ok (.iload 4, 2) := by decide +kernel
theorem dX4_wireTimes_50 : decode cX4_wireTimes 50 = .ok (.istore_n 2, 1) := by decide +kernel
theorem dX4_wireTimes_51 : decode cX4_wireTimes 51 = .ok (.iinc 3 1, 3) := by decide +kernel
theorem dX4_wireTimes_54 : decode cX4_wireTimes 54 = .ok (.goto (-47), 3) := by decide +kernel
theorem dX4_wireTimes_57 : decode cX4_wireTimes 57 = .ok (.iload_n 1, 1) := by decide +kernel
theorem dX4_wireTimes_58 : decode cX4_wireTimes 58 = .ok (.ireturn, 1) := by decide +kernel
theorem dX4_isWholeOnPlate_0 : decode cX4_isWholeOnPlate 0 = .ok (.iconst 0, 1) := by decide +kernel
theorem dX4_isWholeOnPlate_1 : decode cX4_isWholeOnPlate 1 = .ok (.istore_n 2, 1) := by decide +kernel
theorem dX4_isWholeOnPlate_2 : decode cX4_isWholeOnPlate 2 = .ok (.iload_n 2, 1) := by decide +kernel
theorem dX4_isWholeOnPlate_3 : decode cX4_isWholeOnPlate 3 = .ok (.aload_n 0, 1) := by decide +kernel
theorem dX4_isWholeOnPlate_4 : decode cX4_isWholeOnPlate 4 = .ok (.getfield 69, 3) := by decide +kernel
theorem dX4_isWholeOnPlate_7 : decode cX4_isWholeOnPlate 7 = .ok (.if_icmp .ge 29, 3) := by decide +kernel
theorem dX4_isWholeOnPlate_10 : decode cX4_isWholeOnPlate 10 = .ok (.aload_n 0, 1) := by decide +kernel
theorem dX4_isWholeOnPlate_11 : decode cX4_isWholeOnPlate 11 = .ok (.getfield 44, 3) := by decide +kernel
theorem dX4_isWholeOnPlate_14 : decode cX4_isWholeOnPlate 14 = .ok (.iload_n 2, 1) := by decide +kernel
theorem dX4_isWholeOnPlate_15 : decode cX4_isWholeOnPlate 15 = .ok (.baload, 1) := by decide +kernel
theorem dX4_isWholeOnPlate_16 : decode cX4_isWholeOnPlate 16 = .ok (.ifCond .ne 14, 3) := by decide +kernel
theorem dX4_isWholeOnPlate_19 : decode cX4_isWholeOnPlate 19 = .ok (.aload_n 0, 1) := by decide +kernel
theorem dX4_isWholeOnPlate_20 : decode cX4_isWholeOnPlate 20 = .ok (.iload_n 2, 1) := by decide +kernel
theorem dX4_isWholeOnPlate_21 : decode cX4_isWholeOnPlate 21 = .ok (.iload_n 1, 1) := by decide +kernel
theorem dX4_isWholeOnPlate_22 : decode cX4_isWholeOnPlate 22 = .ok (.invokevirtual 115, 3) := by decide +kernel
theorem dX4_isWholeOnPlate_25 : decode cX4_isWholeOnPlate 25 = .ok (.ifCond .ne 5, 3) := by decide +kernel
theorem dX4_isWholeOnPlate_28 : decode cX4_isWholeOnPlate 28 = .ok (.iconst 0, 1) := by decide +kernel
theorem dX4_isWholeOnPlate_29 : decode cX4_isWholeOnPlate 29 = .ok (.ireturn, 1) := by decide +kernel
theorem dX4_isWholeOnPlate_30 : decode cX4_isWholeOnPlate 30 = .ok (.iinc 2 1, 3) := by decide +kernel
theorem dX4_isWholeOnPlate_33 : decode cX4_isWholeOnPlate 33 = .ok (.goto (-31), 3) := by decide +kernel
theorem dX4_isWholeOnPlate_36 : decode cX4_isWholeOnPlate 36 = .ok (.iconst 1, 1) := by decide +kernel
theorem dX4_isWholeOnPlate_37 : decode cX4_isWholeOnPlate 37 = .ok (.ireturn, 1) := by decide +kernel
theorem dX4_reason_0 : decode cX4_reason 0 = .ok (.aload_n 0, 1) := by decide +kernel
theorem dX4_reason_1 : decode cX4_reason 1 = .ok (.invokevirtual 135, 3) := by decide +kernel
theorem dX4_reason_4 : decode cX4_reason 4 = .ok (.ifCond .eq 5, 3) := by decide +kernel
theorem dX4_reason_7 : decode cX4_reason 7 = .ok (.iconst 1, 1) := by decide +kernel
theorem dX4_reason_8 : decode cX4_reason 8 = .ok (.ireturn, 1) := by decide +kernel
theorem dX4_reason_9 : decode cX4_reason 9 = .ok (.aload_n 0, 1) := by decide +kernel
theorem dX4_reason_10 : decode cX4_reason 10 = .ok (.getfield 31, 3) := by decide +kernel
theorem dX4_reason_13 : decode cX4_reason 13 = .ok (.getfield 139, 3) := by decide +kernel
theorem dX4_reason_16 : decode cX4_reason 16 = .ok (.ifCond .ne 5, 3) := by decide +kernel
theorem dX4_reason_19 : decode cX4_reason 19 = .ok (.iconst 2, 1) := by decide +kernel
theorem dX4_reason_20 : decode cX4_reason 20 = .ok (.ireturn, 1) := by decide +kernel
theorem dX4_reason_21 : decode cX4_reason 21 = .ok (.aload_n 0, 1) := by decide +kernel
theorem dX4_reason_22 : decode cX4_reason 22 = .ok (.aload_n 0, 1) := by decide +kernel
theorem dX4_reason_23 : decode cX4_reason 23 = .ok (.getfield 31, 3) := by decide +kernel
theorem dX4_reason_26 : decode cX4_reason 26 = .ok (.getfield 142, 3) := by decide +kernel
theorem dX4_reason_29 : decode cX4_reason 29 = .ok (.invokevirtual 145, 3) := by decide +kernel
theorem dX4_reason_32 : decode cX4_reason 32 = .ok (.ifCond .ne 13, 3) := by decide +kernel
theorem dX4_reason_35 : decode cX4_reason 35 = .ok (.aload_n 0, 1) := by decide +kernel
theorem dX4_reason_36 : decode cX4_reason 36 = .ok (.invokevirtual 148, 3) := by decide +kernel
theorem dX4_reason_39 : decode cX4_reason 39 = .ok (.iconst 1, 1) := by decide +kernel
theorem dX4_reason_40 : decode cX4_reason 40 = .ok (.if_icmp .le 5, 3) := by decide +kernel
theorem dX4_reason_43 : decode cX4_reason 43 = .ok (.iconst 3, 1) := by decide +kernel
theorem dX4_reason_44 : decode cX4_reason 44 = .ok (.ireturn, 1) := by decide +kernel
theorem dX4_reason_45 : decode cX4_reason 45 = .ok (.iconst 0, 1) := by decide +kernel
theorem dX4_reason_46 : decode cX4_reason 46 = .ok (.ireturn, 1) := by decide +kernel
theorem dX4_toldWeight_0 : decode cX4_toldWeight 0 = .ok (.aload_n 0, 1) := by decide +kernel
theorem dX4_toldWeight_1 : decode cX4_toldWeight 1 = .ok (.invokevirtual 151, 3) := by decide +kernel
theorem dX4_toldWeight_4 : decode cX4_toldWeight 4 = .ok (.ifCond .ne 13, 3) := by decide +kernel
theorem dX4_toldWeight_7 : decode cX4_toldWeight 7 = .ok (.aload_n 0, 1) := by decide +kernel
theorem dX4_toldWeight_8 : decode cX4_toldWeight 8 = .ok (.getfield 31, 3) := by decide +kernel
theorem dX4_toldWeight_11 : decode cX4_toldWeight 11 = .ok (.getfield 154, 3) := by decide +kernel
theorem dX4_toldWeight_14 : decode cX4_toldWeight 14 = .ok (.goto 5, 3) := by decide +kernel
theorem dX4_toldWeight_17 : decode cX4_toldWeight 17 = .ok (.bipush (-5), 2) := by decide +kernel
theorem dX4_toldWeight_19 : decode cX4_toldWeight 19 = .ok (.ireturn, 1) := by decide +kernel
theorem dX4_weightByAxles_0 : decode cX4_weightByAxles 0 = .ok (.aload_n 0, 1) := by decide +kernel
theorem dX4_weightByAxles_1 : decode cX4_weightByAxles 1 = .ok (.invokevirtual 151, 3) := by decide +kernel
theorem dX4_weightByAxles_4 : decode cX4_weightByAxles 4 = .ok (.iconst 3, 1) := by decide +kernel
theorem dX4_weightByAxles_5 : decode cX4_weightByAxles 5 = .ok (.if_icmp .ne 27, 3) := by decide +kernel
theorem dX4_weightByAxles_8 : decode cX4_weightByAxles 8 = .ok (.aload_n 0, 1) := by decide +kernel
theorem dX4_weightByAxles_9 : decode cX4_weightByAxles 9 = .ok (.getfield 31, 3) := by decide +kernel
theorem dX4_weightByAxles_12 : decode cX4_weightByAxles 12 = .ok (.getfield 157, 3) := by decide +kernel
theorem dX4_weightByAxles_15 : decode cX4_weightByAxles 15 = .ok (.aload_n 0, 1) := by decide +kernel
theorem dX4_weightByAxles_16 : decode cX4_weightByAxles 16 = .ok (.invokevirtual 148, 3) := by decide +kernel
theorem dX4_weightByAxles_19 : decode cX4_weightByAxles 19 = .ok (.if_icmp .ne 13, 3) := by decide +kernel
theorem dX4_weightByAxles_22 : decode cX4_weightByAxles 22 = .ok (.aload_n 0, 1) := by decide +kernel
theorem dX4_weightByAxles_23 : decode cX4_weightByAxles 23 = .ok (.getfield 31, 3) := by decide +kernel
theorem dX4_weightByAxles_26 : decode cX4_weightByAxles 26 = .ok (.getfield 160, 3) := by decide +kernel
theorem dX4_weightByAxles_29 : decode cX4_weightByAxles 29 = .ok (.goto 5, 3) := by decide +kernel
theorem dX4_weightByAxles_32 : decode cX4_weightByAxles 32 = .ok (.bipush (-5), 2) := by decide +kernel
theorem dX4_weightByAxles_34 : decode cX4_weightByAxles 34 = .ok (.ireturn, 1) := by decide +kernel
theorem dX5_init_0 : decode cX5_init 0 = .ok (.aload_n 0, 1) := by decide +kernel
theorem dX5_init_1 : decode cX5_init 1 = .ok (.invokespecial 3, 3) := by decide +kernel
theorem dX5_init_4 : decode cX5_init 4 = .ok (.aload_n 0, 1) := by decide +kernel
theorem dX5_init_5 : decode cX5_init 5 = .ok (.bipush 6, 2) := by decide +kernel
theorem dX5_init_7 : decode cX5_init 7 = .ok (.anewarray 9, 3) := by decide +kernel
theorem dX5_init_10 : decode cX5_init 10 = .ok (.putfield 11, 3) := by decide +kernel
theorem dX5_init_13 : decode cX5_init 13 = .ok (.aload_n 0, 1) := by decide +kernel
theorem dX5_init_14 : decode cX5_init 14 = .ok (.bipush 6, 2) := by decide +kernel
theorem dX5_init_16 : decode cX5_init 16 = .ok (.newarray .int, 2) := by decide +kernel
theorem dX5_init_18 : decode cX5_init 18 = .ok (.putfield 17, 3) := by decide +kernel
theorem dX5_init_21 : decode cX5_init 21 = .ok (.iconst 0, 1) := by decide +kernel
theorem dX5_init_22 : decode cX5_init 22 = .ok (.istore_n 1, 1) := by decide +kernel
theorem dX5_init_23 : decode cX5_init 23 = .ok (.iload_n 1, 1) := by decide +kernel
theorem dX5_init_24 : decode cX5_init 24 = .ok (.bipush 6, 2) := by decide +kernel
theorem dX5_init_26 : decode cX5_init 26 = .ok (.if_icmp .ge 22, 3) := by decide +kernel
theorem dX5_init_29 : decode cX5_init 29 = .ok (.aload_n 0, 1) := by decide +kernel
theorem dX5_init_30 : decode cX5_init 30 = .ok (.getfield 11, 3) := by decide +kernel
theorem dX5_init_33 : decode cX5_init 33 = .ok (.iload_n 1, 1) := by decide +kernel
theorem dX5_init_34 : decode cX5_init 34 = .ok (.new 9, 3) := by decide +kernel
theorem dX5_init_37 : decode cX5_init 37 = .ok (.dup, 1) := by decide +kernel
theorem dX5_init_38 : decode cX5_init 38 = .ok (.invokespecial 21, 3) := by decide +kernel
theorem dX5_init_41 : decode cX5_init 41 = .ok (.aastore, 1) := by decide +kernel
theorem dX5_init_42 : decode cX5_init 42 = .ok (.iinc 1 1, 3) := by decide +kernel
theorem dX5_init_45 : decode cX5_init 45 = .ok (.goto (-22), 3) := by decide +kernel
theorem dX5_init_48 : decode cX5_init 48 = .ok (.getstatic 22, 3) := by decide +kernel
theorem dX5_init_51 : decode cX5_init 51 = .ok (.iconst 0, 1) := by decide +kernel
theorem dX5_init_52 : decode cX5_init 52 = .ok (.aload_n 0, 1) := by decide +kernel
theorem dX5_init_53 : decode cX5_init 53 = .ok (.getfield 17, 3) := by decide +kernel
theorem dX5_init_56 : decode cX5_init 56 = .ok (.iconst 0, 1) := by decide +kernel
theorem dX5_init_57 : decode cX5_init 57 = .ok (.bipush 6, 2) := by decide +kernel
theorem dX5_init_59 : decode cX5_init 59 = .ok (.invokestatic 25, 3) := by decide +kernel
theorem dX5_init_62 : decode cX5_init 62 = .ok (.return_, 1) := by decide +kernel
theorem dX5_findCart_0 : decode cX5_findCart 0 = .ok (.iload_n 1, 1) := by decide +kernel
theorem dX5_findCart_1 : decode cX5_findCart 1 = .ok (.ifCond .lt 20, 3) := by decide +kernel
theorem dX5_findCart_4 : decode cX5_findCart 4 = .ok (.iload_n 1, 1) := by decide +kernel
theorem dX5_findCart_5 : decode cX5_findCart 5 = .ok (.aload_n 0, 1) := by decide +kernel
theorem dX5_findCart_6 : decode cX5_findCart 6 = .ok (.getfield 31, 3) := by decide +kernel
theorem dX5_findCart_9 : decode cX5_findCart 9 = .ok (.if_icmp .ge 12, 3) := by decide +kernel
theorem dX5_findCart_12 : decode cX5_findCart 12 = .ok (.aload_n 0, 1) := by decide +kernel
theorem dX5_findCart_13 : decode cX5_findCart 13 = .ok (.getfield 11, 3) := by decide +kernel
theorem dX5_findCart_16 : decode cX5_findCart 16 = .ok (.iload_n 1, 1) := by decide +kernel
theorem dX5_findCart_17 : decode cX5_findCart 17 = .ok (.aaload, 1) := by decide +kernel
theorem dX5_findCart_18 : decode cX5_findCart 18 = .ok (.goto 4, 3) := by decide +kernel
theorem dX5_findCart_21 : decode cX5_findCart 21 = .ok (.aconst_null, 1) := by decide +kernel
theorem dX5_findCart_22 : decode cX5_findCart 22 = .ok (.areturn, 1) := by decide +kernel
theorem dX5_addCart_0 : decode cX5_addCart 0 = .ok (.aload_n 0, 1) := by decide +kernel
theorem dX5_addCart_1 : decode cX5_addCart 1 = .ok (.getfield 31, 3) := by decide +kernel
theorem dX5_addCart_4 : decode cX5_addCart 4 = .ok (.bipush 6, 2) := by decide +kernel
theorem dX5_addCart_6 : decode cX5_addCart 6 = .ok (.if_icmp .lt 4, 3) := by decide +kernel
theorem dX5_addCart_9 : decode cX5_addCart 9 = .ok (.return_, 1) := by decide +kernel
theorem dX5_addCart_10 : decode cX5_addCart 10 = .ok (.aload_n 0, 1) := by decide +kernel
theorem dX5_addCart_11 : decode cX5_addCart 11 = .ok (.getfield 11, 3) := by decide +kernel
theorem dX5_addCart_14 : decode cX5_addCart 14 = .ok (.aload_n 0, 1) := by decide +kernel
theorem dX5_addCart_15 : decode cX5_addCart 15 = .ok (.getfield 31, 3) := by decide +kernel
theorem dX5_addCart_18 : decode cX5_addCart 18 = .ok (.aaload, 1) := by decide +kernel
theorem dX5_addCart_19 : decode cX5_addCart 19 = .ok (.iload_n 1, 1) := by decide +kernel
theorem dX5_addCart_20 : decode cX5_addCart 20 = .ok (.invokevirtual 35, 3) := by decide +kernel
theorem dX5_addCart_23 : decode cX5_addCart 23 = .ok (.aload_n 0, 1) := by decide +kernel
theorem dX5_addCart_24 : decode cX5_addCart 24 = .ok (.dup, 1) := by decide +kernel
theorem dX5_addCart_25 : decode cX5_addCart 25 = .ok (.getfield 31, 3) := by decide +kernel
theorem dX5_addCart_28 : decode cX5_addCart 28 = .ok (.iconst 1, 1) := by decide +kernel
theorem dX5_addCart_29 : decode cX5_addCart 29 = .ok (.iadd, 1) := by decide +kernel
theorem dX5_addCart_30 : decode cX5_addCart 30 = .ok (.putfield 31, 3) := by decide +kernel
theorem dX5_addCart_33 : decode cX5_addCart 33 = .ok (.return_, 1) := by decide +kernel
theorem dX5_addAxleToLast_0 : decode cX5_addAxleToLast 0 = .ok (.aload_n 0, 1) := by decide +kernel
theorem dX5_addAxleToLast_1 : decode cX5_addAxleToLast 1 = .ok (.aload_n 0, 1) := by decide +kernel
theorem dX5_addAxleToLast_2 : decode cX5_addAxleToLast 2 = .ok (.getfield 31, 3) := by decide +kernel
theorem dX5_addAxleToLast_5 : decode cX5_addAxleToLast 5 = .ok (.iconst 1, 1) := by decide +kernel
theorem dX5_addAxleToLast_6 : decode cX5_addAxleToLast 6 = .ok (.isub, 1) := by decide +kernel
theorem dX5_addAxleToLast_7 : decode cX5_addAxleToLast 7 = .ok (.invokevirtual 39, 3) := by decide +kernel
theorem dX5_addAxleToLast_10 : decode cX5_addAxleToLast 10 = .ok (.astore_n 3, 1) := by decide +kernel
theorem dX5_addAxleToLast_11 : decode cX5_addAxleToLast 11 = .ok (.aload_n 3, 1) := by decide +kernel
theorem dX5_addAxleToLast_12 : decode cX5_addAxleToLast 12 = .ok (.ifnull 9, 3) := by decide +kernel
theorem dX5_addAxleToLast_15 : decode cX5_addAxleToLast 15 = .ok (.aload_n 3, 1) := by decide +kernel
theorem dX5_addAxleToLast_16 : decode cX5_addAxleToLast 16 = .ok (.iload_n 1, 1) := by decide +kernel
theorem dX5_addAxleToLast_17 : decode cX5_addAxleToLast 17 = .ok (.iload_n 2, 1) := by decide +kernel
theorem dX5_addAxleToLast_18 : decode cX5_addAxleToLast 18 = .ok (.invokevirtual 43, 3) := by decide +kernel
theorem dX5_addAxleToLast_21 : decode cX5_addAxleToLast 21 = .ok (.return_, 1) := by decide +kernel
theorem dX5_taredCount_0 : decode cX5_taredCount 0 = .ok (.iconst 0, 1) := by decide +kernel
theorem dX5_taredCount_1 : decode cX5_taredCount 1 = .ok (.istore_n 1, 1) := by decide +kernel
theorem dX5_taredCount_2 : decode cX5_taredCount 2 = .ok (.iconst 0, 1) := by decide +kernel
theorem dX5_taredCount_3 : decode cX5_taredCount 3 = .ok (.istore_n 2, 1) := by decide +kernel
theorem dX5_taredCount_4 : decode cX5_taredCount 4 = .ok (.iload_n 2, 1) := by decide +kernel
theorem dX5_taredCount_5 : decode cX5_taredCount 5 = .ok (.aload_n 0, 1) := by decide +kernel
theorem dX5_taredCount_6 : decode cX5_taredCount 6 = .ok (.getfield 31, 3) := by decide +kernel
theorem dX5_taredCount_9 : decode cX5_taredCount 9 = .ok (.if_icmp .ge 31, 3) := by decide +kernel
theorem dX5_taredCount_12 : decode cX5_taredCount 12 = .ok (.iload_n 1, 1) := by decide +kernel
theorem dX5_taredCount_13 : decode cX5_taredCount 13 = .ok (.aload_n 0, 1) := by decide +kernel
theorem dX5_taredCount_14 : decode cX5_taredCount 14 = .ok (.getfield 11, 3) := by decide +kernel
theorem dX5_taredCount_17 : decode cX5_taredCount 17 = .ok (.iload_n 2, 1) := by decide +kernel
theorem dX5_taredCount_18 : decode cX5_taredCount 18 = .ok (.aaload, 1) := by decide +kernel
theorem dX5_taredCount_19 : decode cX5_taredCount 19 = .ok (.getfield 47, 3) := by decide +kernel
theorem dX5_taredCount_22 : decode cX5_taredCount 22 = .ok (.bipush (-5), 2) := by decide +kernel
theorem dX5_taredCount_24 : decode cX5_taredCount 24 = .ok (.if_icmp .ne 7, 3) := by decide +kernel
theorem dX5_taredCount_27 : decode cX5_taredCount 27 = .ok (.iconst 0, 1) := by decide +kernel
theorem dX5_taredCount_28 : decode cX5_taredCount 28 = .ok (.goto 4, 3) := by decide +kernel
theorem dX5_taredCount_31 : decode cX5_taredCount 31 = .ok (.iconst 1, 1) := by decide +kernel
theorem dX5_taredCount_32 : decode cX5_taredCount 32 = .ok (.iadd, 1) := by decide +kernel
theorem dX5_taredCount_33 : decode cX5_taredCount 33 = .ok (.istore_n 1, 1) := by decide +kernel
theorem dX5_taredCount_34 : decode cX5_taredCount 34 = .ok (.iinc 2 1, 3) := by decide +kernel
theorem dX5_taredCount_37 : decode cX5_taredCount 37 = .ok (.goto (-33), 3) := by decide +kernel
theorem dX5_taredCount_40 : decode cX5_taredCount 40 = .ok (.iload_n 1, 1) := by decide +kernel
theorem dX5_taredCount_41 : decode cX5_taredCount 41 = .ok (.ireturn, 1) := by decide +kernel
theorem dX5_copyFrom_0 : decode cX5_copyFrom 0 = .ok (.iconst 0, 1) := by decide +kernel
theorem dX5_copyFrom_1 : decode cX5_copyFrom 1 = .ok (.istore_n 2, 1) := by decide +kernel
theorem dX5_copyFrom_2 : decode cX5_copyFrom 2 = .ok (.iload_n 2, 1) := by decide +kernel
theorem dX5_copyFrom_3 : decode cX5_copyFrom 3 = .ok (.bipush 6, 2) := by decide +kernel
theorem dX5_copyFrom_5 : decode cX5_copyFrom 5 = .ok (.if_icmp .ge 24, 3) := by decide +kernel
theorem dX5_copyFrom_8 : decode cX5_copyFrom 8 = .ok (.aload_n 0, 1) := by decide +kernel
theorem dX5_copyFrom_9 : decode cX5_copyFrom 9 = .ok (.getfield 11, 3) := by decide +kernel
theorem dX5_copyFrom_12 : decode cX5_copyFrom 12 = .ok (.iload_n 2, 1) := by decide +kernel
theorem dX5_copyFrom_13 : decode cX5_copyFrom 13 = .ok (.aaload, 1) := by decide +kernel
theorem dX5_copyFrom_14 : decode cX5_copyFrom 14 = .ok (.aload_n 1, 1) := by decide +kernel
theorem dX5_copyFrom_15 : decode cX5_copyFrom 15 = .ok (.getfield 11, 3) := by decide +kernel
theorem dX5_copyFrom_18 : decode cX5_copyFrom 18 = .ok (.iload_n 2, 1) := by decide +kernel
theorem dX5_copyFrom_19 : decode cX5_copyFrom 19 = .ok (.aaload, 1) := by decide +kernel
theorem dX5_copyFrom_20 : decode cX5_copyFrom 20 = .ok (.invokevirtual 50, 3) := by decide +kernel
theorem dX5_copyFrom_23 : decode cX5_copyFrom 23 = .ok (.iinc 2 1, 3) := by decide +kernel
theorem dX5_copyFrom_26 : decode cX5_copyFrom 26 = .ok (.goto (-24), 3) := by decide +kernel
theorem dX5_copyFrom_29 : decode cX5_copyFrom 29 = .ok (.aload_n 1, 1) := by decide +kernel
theorem dX5_copyFrom_30 : decode cX5_copyFrom 30 = .ok (.getfield 17, 3) := by decide +kernel
theorem dX5_copyFrom_33 : decode cX5_copyFrom 33 = .ok (.iconst 0, 1) := by decide +kernel
theorem dX5_copyFrom_34 : decode cX5_copyFrom 34 = .ok (.aload_n 0, 1) := by decide +kernel
theorem dX5_copyFrom_35 : decode cX5_copyFrom 35 = .ok (.getfield 17, 3) := by decide +kernel
theorem dX5_copyFrom_38 : decode cX5_copyFrom 38 = .ok (.iconst 0, 1) := by decide +kernel
theorem dX5_copyFrom_39 : decode cX5_copyFrom 39 = .ok (.bipush 6, 2) := by decide +kernel
theorem dX5_copyFrom_41 : decode cX5_copyFrom 41 = .ok (.invokestatic 25, 3) := by decide +kernel
theorem dX5_copyFrom_44 : decode cX5_copyFrom 44 = .ok (.aload_n 0, 1) := by decide +kernel
theorem dX5_copyFrom_45 : decode cX5_copyFrom 45 = .ok (.aload_n 1, 1) := by decide +kernel
theorem dX5_copyFrom_46 : decode cX5_copyFrom 46 = .ok (.getfield 31, 3) := by decide +kernel
theorem dX5_copyFrom_49 : decode cX5_copyFrom 49 = .ok (.putfield 31, 3) := by decide +kernel
theorem dX5_copyFrom_52 : decode cX5_copyFrom 52 = .ok (.aload_n 0, 1) := by decide +kernel
theorem dX5_copyFrom_53 : decode cX5_copyFrom 53 = .ok (.aload_n 1, 1) := by decide +kernel
theorem dX5_copyFrom_54 : decode cX5_copyFrom 54 = .ok (.getfield 54, 3) := by decide +kernel
theorem dX5_copyFrom_57 : decode cX5_copyFrom 57 = .ok (.putfield 54, 3) := by decide +kernel
theorem dX5_copyFrom_60 : decode cX5_copyFrom 60 = .ok (.aload_n 0, 1) := by decide +kernel
theorem dX5_copyFrom_61 : decode cX5_copyFrom 61 = .ok (.aload_n 1, 1) := by decide +kernel
theorem dX5_copyFrom_62 : decode cX5_copyFrom 62 = .ok (.getfield 57, 3) := by decide +kernel
theorem dX5_copyFrom_65 : decode cX5_copyFrom 65 = .ok (.putfield 57, 3) := by decide +kernel
theorem dX5_copyFrom_68 : decode cX5_copyFrom 68 = .ok (.return_, 1) := by decide +kernel
theorem dX6_init_0 : decode cX6_init 0 = .ok (.aload_n 0, 1) := by decide +kernel
theorem dX6_init_1 : decode cX6_init 1 = .ok (.invokespecial 1, 3) := by decide +kernel
theorem dX6_init_4 : decode cX6_init 4 = .ok (.aload_n 0, 1) := by decide +kernel
theorem dX6_init_5 : decode cX6_init 5 = .ok (.new 7, 3) := by decide +kernel
theorem dX6_init_8 : decode cX6_init 8 = .ok (.dup, 1) := by decide +kernel
theorem dX6_init_9 : decode cX6_init 9 = .ok (.invokespecial 9, 3) := by decide +kernel
theorem dX6_init_12 : decode cX6_init 12 = .ok (.putfield 10, 3) := by decide +kernel
theorem dX6_init_15 : decode cX6_init 15 = .ok (.aload_n 0, 1) := by decide +kernel
theorem dX6_init_16 : decode cX6_init 16 = .ok (.new 7, 3) := by decide +kernel
theorem dX6_init_19 : decode cX6_init 19 = .ok (.dup, 1) := by decide +kernel
theorem dX6_init_20 : decode cX6_init 20 = .ok (.invokespecial 9, 3) := by decide +kernel
theorem dX6_init_23 : decode cX6_init 23 = .ok (.putfield 16, 3) := by decide +kernel
theorem dX6_init_26 : decode cX6_init 26 = .ok (.aload_n 0, 1) := by decide +kernel
theorem dX6_init_27 : decode cX6_init 27 = .ok (.new 19, 3) := by decide +kernel
theorem dX6_init_30 : decode cX6_init 30 = .ok (.dup, 1) := by decide +kernel
theorem dX6_init_31 : decode cX6_init 31 = .ok (.invokespecial 21, 3) := by decide +kernel
theorem dX6_init_34 : decode cX6_init 34 = .ok (.putfield 22, 3) := by decide +kernel
theorem dX6_init_37 : decode cX6_init 37 = .ok (.aload_n 0, 1) := by decide +kernel
theorem dX6_init_38 : decode cX6_init 38 = .ok (.new 26, 3) := by decide +kernel
theorem dX6_init_41 : decode cX6_init 41 = .ok (.dup, 1) := by decide +kernel
theorem dX6_init_42 : decode cX6_init 42 = .ok (.invokespecial 28, 3) := by decide +kernel
theorem dX6_init_45 : decode cX6_init 45 = .ok (.putfield 29, 3) := by decide +kernel
theorem dX6_init_48 : decode cX6_init 48 = .ok (.aload_n 0, 1) := by decide +kernel
theorem dX6_init_49 : decode cX6_init 49 = .ok (.new 33, 3) := by decide +kernel
theorem dX6_init_52 : decode cX6_init 52 = .ok (.dup, 1) := by decide +kernel
theorem dX6_init_53 : decode cX6_init 53 = .ok (.invokespecial 35, 3) := by decide +kernel
theorem dX6_init_56 : decode cX6_init 56 = .ok (.putfield 36, 3) := by decide +kernel
theorem dX6_init_59 : decode cX6_init 59 = .ok (.aload_n 0, 1) := by decide +kernel
theorem dX6_init_60 : decode cX6_init 60 = .ok (.bipush 6, 2) := by decide +kernel
theorem dX6_init_62 : decode cX6_init 62 = .ok (.newarray .int, 2) := by decide +kernel
theorem dX6_init_64 : decode cX6_init 64 = .ok (.putfield 40, 3) := by decide +kernel
theorem dX6_init_67 : decode cX6_init 67 = .ok (.aload_n 0, 1) := by decide +kernel
theorem dX6_init_68 : decode cX6_init 68 = .ok (.iconst 0, 1) := by decide +kernel
theorem dX6_init_69 : decode cX6_init 69 = .ok (.putfield 44, 3) := by decide +kernel
theorem dX6_init_72 : decode cX6_init 72 = .ok (.return_, 1) := by decide +kernel
theorem dX6_cart_0 : decode cX6_cart 0 = .ok (.iload_n 1, 1) := by decide +kernel
theorem dX6_cart_1 : decode cX6_cart 1 = .ok (.invokestatic 48, 3) := by decide +kernel
theorem dX6_cart_4 : decode cX6_cart 4 = .ok (.ifCond .ne 6, 3) := by decide +kernel
theorem dX6_cart_7 : decode cX6_cart 7 = .ok (.bipush (-2), 2) := by decide +kernel
theorem dX6_cart_9 : decode cX6_cart 9 = .ok (.ireturn, 1) := by decide +kernel
theorem dX6_cart_10 : decode cX6_cart 10 = .ok (.aload_n 0, 1) := by decide +kernel
theorem dX6_cart_11 : decode cX6_cart 11 = .ok (.getfield 10, 3) := by decide +kernel
theorem dX6_cart_14 : decode cX6_cart 14 = .ok (.getfield 52, 3) := by decide +kernel
theorem dX6_cart_17 : decode cX6_cart 17 = .ok (.bipush 6, 2) := by decide +kernel
theorem dX6_cart_19 : decode cX6_cart 19 = .ok (.if_icmp .lt 6, 3) := by decide +kernel
theorem dX6_cart_22 : decode cX6_cart 22 = .ok (.bipush (-3), 2) := by decide +kernel
theorem dX6_cart_24 : decode cX6_cart 24 = .ok (.ireturn, 1) := by decide +kernel
theorem dX6_cart_25 : decode cX6_cart 25 = .ok (.aload_n 0, 1) := by decide +kernel
theorem dX6_cart_26 : decode cX6_cart 26 = .ok (.getfield 22, 3) := by decide +kernel
theorem dX6_cart_29 : decode cX6_cart 29 = .ok (.aload_n 0, 1) := by decide +kernel
theorem dX6_cart_30 : decode cX6_cart 30 = .ok (.getfield 10, 3) := by decide +kernel
theorem dX6_cart_33 : decode cX6_cart 33 = .ok (.invokevirtual 56, 3) := by decide +kernel
theorem dX6_cart_36 : decode cX6_cart 36 = .ok (.aload_n 0, 1) := by decide +kernel
theorem dX6_cart_37 : decode cX6_cart 37 = .ok (.getfield 10, 3) := by decide +kernel
theorem dX6_cart_40 : decode cX6_cart 40 = .ok (.iload_n 1, 1) := by decide +kernel
theorem dX6_cart_41 : decode cX6_cart 41 = .ok (.invokevirtual 60, 3) := by decide +kernel
theorem dX6_cart_44 : decode cX6_cart 44 = .ok (.aload_n 0, 1) := by decide +kernel
theorem dX6_cart_45 : decode cX6_cart 45 = .ok (.getfield 10, 3) := by decide +kernel
theorem dX6_cart_48 : decode cX6_cart 48 = .ok (.getfield 52, 3) := by decide +kernel
theorem dX6_cart_51 : decode cX6_cart 51 = .ok (.iconst 1, 1) := by decide +kernel
theorem dX6_cart_52 : decode cX6_cart 52 = .ok (.isub, 1) := by decide +kernel
theorem dX6_cart_53 : decode cX6_cart 53 = .ok (.ireturn, 1) := by decide +kernel
theorem dX6_axle_0 : decode cX6_axle 0 = .ok (.aload_n 0, 1) := by decide +kernel
theorem dX6_axle_1 : decode cX6_axle 1 = .ok (.getfield 10, 3) := by decide +kernel
theorem dX6_axle_4 : decode cX6_axle 4 = .ok (.iload_n 1, 1) := by decide +kernel
theorem dX6_axle_5 : decode cX6_axle 5 = .ok (.invokevirtual 64, 3) := by decide +kernel
theorem dX6_axle_8 : decode cX6_axle 8 = .ok (.astore 4, 2) := by decide +kernel
theorem dX6_axle_10 : decode cX6_axle 10 = .ok (.aload 4, 2) := by decide +kernel
theorem dX6_axle_12 : decode cX6_axle 12 = .ok (.ifnonnull 5, 3) := by decide +kernel
theorem dX6_axle_15 : decode cX6_axle 15 = .ok (.iconst (-1), 1) := by decide +kernel
theorem dX6_axle_16 : decode cX6_axle 16 = .ok (.ireturn, 1) := by decide +kernel
theorem dX6_axle_17 : decode cX6_axle 17 = .ok (.iload_n 2, 1) := by decide +kernel
theorem dX6_axle_18 : decode cX6_axle 18 = .ok (.invokestatic 68, 3) := by decide +kernel
theorem dX6_axle_21 : decode cX6_axle 21 = .ok (.ifCond .eq 10, 3) := by decide +kernel
theorem dX6_axle_24 : decode cX6_axle 24 = .ok (.iload_n 3, 1) := by decide +kernel
theorem dX6_axle_25 : decode cX6_axle 25 = .ok (.invokestatic 48, 3) := by decide +kernel
theorem dX6_axle_28 : decode cX6_axle 28 = .ok (.ifCond .ne 6, 3) := by decide +kernel
theorem dX6_axle_31 : decode cX6_axle 31 = .ok (.bipush (-2), 2) := by decide +kernel
theorem dX6_axle_33 : decode cX6_axle 33 = .ok (.ireturn, 1) := by decide +kernel
theorem dX6_axle_34 : decode cX6_axle 34 = .ok (.aload 4, 2) := by decide +kernel
theorem dX6_axle_36 : decode cX6_axle 36 = .ok (.getfield 71, 3) := by decide +kernel
theorem dX6_axle_39 : decode cX6_axle 39 = .ok (.iconst 5, 1) := by decide +kernel
theorem dX6_axle_40 : decode cX6_axle 40 = .ok (.if_icmp .lt 6, 3) := by decide +kernel
theorem dX6_axle_43 : decode cX6_axle 43 = .ok (.bipush (-3), 2) := by decide +kernel
theorem dX6_axle_45 : decode cX6_axle 45 = .ok (.ireturn, 1) := by decide +kernel
theorem dX6_axle_46 : decode cX6_axle 46 = .ok (.aload_n 0, 1) := by decide +kernel
theorem dX6_axle_47 : decode cX6_axle 47 = .ok (.getfield 22, 3) := by decide +kernel
theorem dX6_axle_50 : decode cX6_axle 50 = .ok (.aload_n 0, 1) := by decide +kernel
theorem dX6_axle_51 : decode cX6_axle 51 = .ok (.getfield 10, 3) := by decide +kernel
theorem dX6_axle_54 : decode cX6_axle 54 = .ok (.invokevirtual 56, 3) := by decide +kernel
theorem dX6_axle_57 : decode cX6_axle 57 = .ok (.aload 4, 2) := by decide +kernel
theorem dX6_axle_59 : decode cX6_axle 59 = .ok (.iload_n 2, 1) := by decide +kernel
theorem dX6_axle_60 : decode cX6_axle 60 = .ok (.iload_n 3, 1) := by decide +kernel
theorem dX6_axle_61 : decode cX6_axle 61 = .ok (.invokevirtual 76, 3) := by decide +kernel
theorem dX6_axle_64 : decode cX6_axle 64 = .ok (.aload 4, 2) := by decide +kernel
theorem dX6_axle_66 : decode cX6_axle 66 = .ok (.getfield 71, 3) := by decide +kernel
theorem dX6_axle_69 : decode cX6_axle 69 = .ok (.ireturn, 1) := by decide +kernel
theorem dX6_load_0 : decode cX6_load 0 = .ok (.aload_n 0, 1) := by decide +kernel
theorem dX6_load_1 : decode cX6_load 1 = .ok (.getfield 10, 3) := by decide +kernel
theorem dX6_load_4 : decode cX6_load 4 = .ok (.iload_n 1, 1) := by decide +kernel
theorem dX6_load_5 : decode cX6_load 5 = .ok (.invokevirtual 64, 3) := by decide +kernel
theorem dX6_load_8 : decode cX6_load 8 = .ok (.astore 4, 2) := by decide +kernel
theorem dX6_load_10 : decode cX6_load 10 = .ok (.aload 4, 2) := by decide +kernel
theorem dX6_load_12 : decode cX6_load 12 = .ok (.ifnull 12, 3) := by decide +kernel
theorem dX6_load_15 : decode cX6_load 15 = .ok (.aload 4, 2) := by decide +kernel
theorem dX6_load_17 : decode cX6_load 17 = .ok (.iload_n 2, 1) := by decide +kernel
theorem dX6_load_18 : decode cX6_load 18 = .ok (.invokevirtual 80, 3) := by decide +kernel
theorem dX6_load_21 : decode cX6_load 21 = .ok (.ifCond .ne 5, 3) := by decide +kernel
theorem dX6_load_24 : decode cX6_load 24 = .ok (.iconst (-1), 1) := by decide +kernel
theorem dX6_load_25 : decode cX6_load 25 = .ok (.ireturn, 1) := by decide +kernel
theorem dX6_load_26 : decode cX6_load 26 = .ok (.iload_n 3, 1) := by decide +kernel
theorem dX6_load_27 : decode cX6_load 27 = .ok (.invokestatic 48, 3) := by decide +kernel
theorem dX6_load_30 : decode cX6_load 30 = .ok (.ifCond .ne 6, 3) := by decide +kernel
theorem dX6_load_33 : decode cX6_load 33 = .ok (.bipush (-2), 2) := by decide +kernel
theorem dX6_load_35 : decode cX6_load 35 = .ok (.ireturn, 1) := by decide +kernel
theorem dX6_load_36 : decode cX6_load 36 = .ok (.aload 4, 2) := by decide +kernel
theorem dX6_load_38 : decode cX6_load 38 = .ok (.getfield 83, 3) := by decide +kernel
theorem dX6_load_41 : decode cX6_load 41 = .ok (.iload_n 2, 1) := by decide +kernel
theorem dX6_load_42 : decode cX6_load 42 = .ok (.iaload, 1) := by decide +kernel
theorem dX6_load_43 : decode cX6_load 43 = .ok (.istore 5, 2) := by decide +kernel
theorem dX6_load_45 : decode cX6_load 45 = .ok (.iload 5, 2) := by decide +kernel
theorem dX6_load_47 : decode cX6_load 47 = .ok (.iload_n 3, 1) := by decide +kernel
theorem dX6_load_48 : decode cX6_load 48 = .ok (.if_icmp .ne 6, 3) := by decide +kernel
theorem dX6_load_51 : decode cX6_load 51 = .ok (.bipush (-5), 2) := by decide +kernel
theorem dX6_load_53 : decode cX6_load 53 = .ok (.ireturn, 1) := by decide +kernel
theorem dX6_load_54 : decode cX6_load 54 = .ok (.aload_n 0, 1) := by decide +kernel
theorem dX6_load_55 : decode cX6_load 55 = .ok (.getfield 22, 3) := by decide +kernel
theorem dX6_load_58 : decode cX6_load 58 = .ok (.aload_n 0, 1) := by decide +kernel
theorem dX6_load_59 : decode cX6_load 59 = .ok (.getfield 10, 3) := by decide +kernel
theorem dX6_load_62 : decode cX6_load 62 = .ok (.invokevirtual 56, 3) := by decide +kernel
theorem dX6_load_65 : decode cX6_load 65 = .ok (.aload 4, 2) := by decide +kernel
theorem dX6_load_67 : decode cX6_load 67 = .ok (.getfield 83, 3) := by decide +kernel
theorem dX6_load_70 : decode cX6_load 70 = .ok (.iload_n 2, 1) := by decide +kernel
theorem dX6_load_71 : decode cX6_load 71 = .ok (.iload_n 3, 1) := by decide +kernel
theorem dX6_load_72 : decode cX6_load 72 = .ok (.iastore, 1) := by decide +kernel
theorem dX6_load_73 : decode cX6_load 73 = .ok (.iload 5, 2) := by decide +kernel
theorem dX6_load_75 : decode cX6_load 75 = .ok (.ireturn, 1) := by decide +kernel
theorem dX6_lift_0 : decode cX6_lift 0 = .ok (.aload_n 0, 1) := by decide +kernel
theorem dX6_lift_1 : decode cX6_lift 1 = .ok (.getfield 10, 3) := by decide +kernel
theorem dX6_lift_4 : decode cX6_lift 4 = .ok (.iload_n 1, 1) := by decide +kernel
theorem dX6_lift_5 : decode cX6_lift 5 = .ok (.invokevirtual 64, 3) := by decide +kernel
theorem dX6_lift_8 : decode cX6_lift 8 = .ok (.astore 4, 2) := by decide +kernel
theorem dX6_lift_10 : decode cX6_lift 10 = .ok (.aload 4, 2) := by decide +kernel
theorem dX6_lift_12 : decode cX6_lift 12 = .ok (.ifnull 12, 3) := by decide +kernel
theorem dX6_lift_15 : decode cX6_lift 15 = .ok (.aload 4, 2) := by decide +kernel
theorem dX6_lift_17 : decode cX6_lift 17 = .ok (.iload_n 2, 1) := by decide +kernel
theorem dX6_lift_18 : decode cX6_lift 18 = .ok (.invokevirtual 80, 3) := by decide +kernel
theorem dX6_lift_21 : decode cX6_lift 21 = .ok (.ifCond .ne 5, 3) := by decide +kernel
theorem dX6_lift_24 : decode cX6_lift 24 = .ok (.iconst (-1), 1) := by decide +kernel
theorem dX6_lift_25 : decode cX6_lift 25 = .ok (.ireturn, 1) := by decide +kernel
theorem dX6_lift_26 : decode cX6_lift 26 = .ok (.aload 4, 2) := by decide +kernel
theorem dX6_lift_28 : decode cX6_lift 28 = .ok (.getfield 86, 3) := by decide +kernel
theorem dX6_lift_31 : decode cX6_lift 31 = .ok (.iload_n 2, 1) := by decide +kernel
theorem dX6_lift_32 : decode cX6_lift 32 = .ok (.baload, 1) := by decide +kernel
theorem dX6_lift_33 : decode cX6_lift 33 = .ok (.istore 5, 2) := by decide +kernel
theorem dX6_lift_35 : decode cX6_lift 35 = .ok (.iload_n 3, 1) := by decide +kernel
theorem dX6_lift_36 : decode cX6_lift 36 = .ok (.ifCond .eq 20, 3) := by decide +kernel
theorem dX6_lift_39 : decode cX6_lift 39 = .ok (.iload 5, 2) := by decide +kernel
theorem dX6_lift_41 : decode cX6_lift 41 = .ok (.ifCond .ne 15, 3) := by decide +kernel
theorem dX6_lift_44 : decode cX6_lift 44 = .ok (.aload 4, 2) := by decide +kernel
theorem dX6_lift_46 : decode cX6_lift 46 = .ok (.invokevirtual 90, 3) := by decide +kernel
theorem dX6_lift_49 : decode cX6_lift 49 = .ok (.iconst 1, 1) := by decide +kernel
theorem dX6_lift_50 : decode cX6_lift 50 = .ok (.if_icmp .ne 6, 3) := by decide +kernel
theorem dX6_lift_53 : decode cX6_lift 53 = .ok (.bipush (-4), 2) := by decide +kernel
theorem dX6_lift_55 : decode cX6_lift 55 = .ok (.ireturn, 1) := by decide +kernel
theorem dX6_lift_56 : decode cX6_lift 56 = .ok (.iload_n 3, 1) := by decide +kernel
theorem dX6_lift_57 : decode cX6_lift 57 = .ok (.iload 5, 2) := by decide +kernel
theorem dX6_lift_59 : decode cX6_lift 59 = .ok (.if_icmp .ne 6, 3) := by decide +kernel
theorem dX6_lift_62 : decode cX6_lift 62 = .ok (.bipush (-5), 2) := by decide +kernel
theorem dX6_lift_64 : decode cX6_lift 64 = .ok (.ireturn, 1) := by decide +kernel
theorem dX6_lift_65 : decode cX6_lift 65 = .ok (.aload_n 0, 1) := by decide +kernel
theorem dX6_lift_66 : decode cX6_lift 66 = .ok (.getfield 22, 3) := by decide +kernel
theorem dX6_lift_69 : decode cX6_lift 69 = .ok (.aload_n 0, 1) := by decide +kernel
theorem dX6_lift_70 : decode cX6_lift 70 = .ok (.getfield 10, 3) := by decide +kernel
theorem dX6_lift_73 : decode cX6_lift 73 = .ok (.invokevirtual 56, 3) := by decide +kernel
theorem dX6_lift_76 : decode cX6_lift 76 = .ok (.aload 4, 2) := by decide +kernel
theorem dX6_lift_78 : decode cX6_lift 78 = .ok (.getfield 86, 3) := by decide +kernel
theorem dX6_lift_81 : decode cX6_lift 81 = .ok (.iload_n 2, 1) := by decide +kernel
theorem dX6_lift_82 : decode cX6_lift 82 = .ok (.iload_n 3, 1) := by decide +kernel
theorem dX6_lift_83 : decode cX6_lift 83 = .ok (.bastore, 1) := by decide +kernel
theorem dX6_lift_84 : decode cX6_lift 84 = .ok (.aload 4, 2) := by decide +kernel
theorem dX6_lift_86 : decode cX6_lift 86 = .ok (.invokevirtual 90, 3) := by decide +kernel
theorem dX6_lift_89 : decode cX6_lift 89 = .ok (.ireturn, 1) := by decide +kernel
theorem dX6_carts_0 : decode cX6_carts 0 = .ok (.aload_n 0, 1) := by decide +kernel
theorem dX6_carts_1 : decode cX6_carts 1 = .ok (.getfield 29, 3) := by decide +kernel
theorem dX6_carts_4 : decode cX6_carts 4 = .ok (.invokevirtual 94, 3) := by decide +kernel
theorem dX6_carts_7 : decode cX6_carts 7 = .ok (.aload_n 0, 1) := by decide +kernel
theorem dX6_carts_8 : decode cX6_carts 8 = .ok (.getfield 29, 3) := by decide +kernel
theorem dX6_carts_11 : decode cX6_carts 11 = .ok (.getfield 97, 3) := by decide +kernel
theorem dX6_carts_14 : decode cX6_carts 14 = .ok (.bipush (-5), 2) := by decide +kernel
theorem dX6_carts_16 : decode cX6_carts 16 = .ok (.if_icmp .eq 14, 3) := by decide +kernel
theorem dX6_carts_19 : decode cX6_carts 19 = .ok (.bipush (-100), 2) := by decide +kernel
theorem dX6_carts_21 : decode cX6_carts 21 = .ok (.aload_n 0, 1) := by decide +kernel
theorem dX6_carts_22 : decode cX6_carts 22 = .ok (.getfield 29, 3) := by decide +kernel
theorem dX6_carts_25 : decode cX6_carts 25 = .ok (.getfield 97, 3) := by decide +kernel
theorem dX6_carts_28 : decode cX6_carts 28 = .ok (.isub, 1) := by decide +kernel
theorem dX6_carts_29 : decode cX6_carts 29 = .ok (.ireturn, 1) := by decide +kernel
theorem dX6_carts_30 : decode cX6_carts 30 = .ok (.aload_n 0, 1) := by decide +kernel
theorem dX6_carts_31 : decode cX6_carts 31 = .ok (.getfield 10, 3) := by decide +kernel
theorem dX6_carts_34 : decode cX6_carts 34 = .ok (.getfield 52, 3) := by decide +kernel
theorem dX6_carts_37 : decode cX6_carts 37 = .ok (.aload_n 0, 1) := by decide +kernel
theorem dX6_carts_38 : decode cX6_carts 38 = .ok (.getfield 29, 3) := by decide +kernel
theorem dX6_carts_41 : decode cX6_carts 41 = .ok (.getfield 100, 3) := by decide +kernel
theorem dX6_carts_44 : decode cX6_carts 44 = .ok (.iadd, 1) := by decide +kernel
theorem dX6_carts_45 : decode cX6_carts 45 = .ok (.bipush 6, 2) := by decide +kernel
theorem dX6_carts_47 : decode cX6_carts 47 = .ok (.if_icmp .le 6, 3) := by decide +kernel
theorem dX6_carts_50 : decode cX6_carts 50 = .ok (.bipush (-3), 2) := by decide +kernel
theorem dX6_carts_52 : decode cX6_carts 52 = .ok (.ireturn, 1) := by decide +kernel
theorem dX6_carts_53 : decode cX6_carts 53 = .ok (.aload_n 0, 1) := by decide +kernel
theorem dX6_carts_54 : decode cX6_carts 54 = .ok (.getfield 22, 3) := by decide +kernel
theorem dX6_carts_57 : decode cX6_carts 57 = .ok (.aload_n 0, 1) := by decide +kernel
theorem dX6_carts_58 : decode cX6_carts 58 = .ok (.getfield 10, 3) := by decide +kernel
theorem dX6_carts_61 : decode cX6_carts 61 = .ok (.invokevirtual 56, 3) := by decide +kernel
theorem dX6_carts_64 : decode cX6_carts 64 = .ok (.aload_n 0, 1) := by decide +kernel
theorem dX6_carts_65 : decode cX6_carts 65 = .ok (.getfield 29, 3) := by decide +kernel
theorem dX6_carts_68 : decode cX6_carts 68 = .ok (.aload_n 0, 1) := by decide +kernel
theorem dX6_carts_69 : decode cX6_carts 69 = .ok (.getfield 10, 3) := by decide +kernel
theorem dX6_carts_72 : decode cX6_carts 72 = .ok (.invokevirtual 101, 3) := by decide +kernel
theorem dX6_carts_75 : decode cX6_carts 75 = .ok (.aload_n 0, 1) := by decide +kernel
theorem dX6_carts_76 : decode cX6_carts 76 = .ok (.getfield 29, 3) := by decide +kernel
theorem dX6_carts_79 : decode cX6_carts 79 = .ok (.getfield 100, 3) := by decide +kernel
theorem dX6_carts_82 : decode cX6_carts 82 = .ok (.ireturn, 1) := by decide +kernel
theorem dX6_run_0 : decode cX6_run 0 = .ok (.aload_n 0, 1) := by decide +kernel
theorem dX6_run_1 : decode cX6_run 1 = .ok (.getfield 10, 3) := by decide +kernel
theorem dX6_run_4 : decode cX6_run 4 = .ok (.iload_n 1, 1) := by decide +kernel
theorem dX6_run_5 : decode cX6_run 5 = .ok (.invokevirtual 64, 3) := by decide +kernel
theorem dX6_run_8 : decode cX6_run 8 = .ok (.astore_n 3, 1) := by decide +kernel
theorem dX6_run_9 : decode cX6_run 9 = .ok (.aload_n 3, 1) := by decide +kernel
theorem dX6_run_10 : decode cX6_run 10 = .ok (.ifnonnull 5, 3) := by decide +kernel
theorem dX6_run_13 : decode cX6_run 13 = .ok (.iconst (-1), 1) := by decide +kernel
theorem dX6_run_14 : decode cX6_run 14 = .ok (.ireturn, 1) := by decide +kernel
theorem dX6_run_15 : decode cX6_run 15 = .ok (.iload_n 2, 1) := by decide +kernel
theorem dX6_run_16 : decode cX6_run 16 = .ok (.invokestatic 104, 3) := by decide +kernel
theorem dX6_run_19 : decode cX6_run 19 = .ok (.ifCond .ne 6, 3) := by decide +kernel
theorem dX6_run_22 : decode cX6_run 22 = .ok (.bipush (-2), 2) := by decide +kernel
theorem dX6_run_24 : decode cX6_run 24 = .ok (.ireturn, 1) := by decide +kernel
theorem dX6_run_25 : decode cX6_run 25 = .ok (.aload_n 0, 1) := by decide +kernel
theorem dX6_run_26 : decode cX6_run 26 = .ok (.getfield 22, 3) := by decide +kernel
theorem dX6_run_29 : decode cX6_run 29 = .ok (.aload_n 0, 1) := by decide +kernel
theorem dX6_run_30 : decode cX6_run 30 = .ok (.getfield 10, 3) := by decide +kernel
theorem dX6_run_33 : decode cX6_run 33 = .ok (.invokevirtual 56, 3) := by decide +kernel
theorem dX6_run_36 : decode cX6_run 36 = .ok (.aload_n 0, 1) := by decide +kernel
theorem dX6_run_37 : decode cX6_run 37 = .ok (.getfield 36, 3) := by decide +kernel
theorem dX6_run_40 : decode cX6_run 40 = .ok (.aload_n 3, 1) := by decide +kernel
theorem dX6_run_41 : decode cX6_run 41 = .ok (.iload_n 2, 1) := by decide +kernel
theorem dX6_run_42 : decode cX6_run 42 = .ok (.aload_n 0, 1) := by decide +kernel
theorem dX6_run_43 : decode cX6_run 43 = .ok (.getfield 10, 3) := by decide +kernel
theorem dX6_run_46 : decode cX6_run 46 = .ok (.getfield 107, 3) := by decide +kernel
theorem dX6_run_49 : decode cX6_run 49 = .ok (.invokevirtual 110, 3) := by decide +kernel
theorem dX6_run_52 : decode cX6_run 52 = .ok (.aload_n 0, 1) := by decide +kernel
theorem dX6_run_53 : decode cX6_run 53 = .ok (.getfield 36, 3) := by decide +kernel
theorem dX6_run_56 : decode cX6_run 56 = .ok (.invokevirtual 114, 3) := by decide +kernel
theorem dX6_run_59 : decode cX6_run 59 = .ok (.istore 4, 2) := by decide +kernel
theorem dX6_run_61 : decode cX6_run 61 = .ok (.aload_n 3, 1) := by decide +kernel
theorem dX6_run_62 : decode cX6_run 62 = .ok (.iload_n 2, 1) := by decide +kernel
theorem dX6_run_63 : decode cX6_run 63 = .ok (.putfield 117, 3) := by decide +kernel
theorem dX6_run_66 : decode cX6_run 66 = .ok (.aload_n 3, 1) := by decide +kernel
theorem dX6_run_67 : decode cX6_run 67 = .ok (.aload_n 0, 1) := by decide +kernel
theorem dX6_run_68 : decode cX6_run 68 = .ok (.getfield 36, 3) := by decide +kernel
theorem dX6_run_71 : decode cX6_run 71 = .ok (.invokevirtual 120, 3) := by decide +kernel
theorem dX6_run_74 : decode cX6_run 74 = .ok (.putfield 123, 3) := by decide +kernel
theorem dX6_run_77 : decode cX6_run 77 = .ok (.aload_n 3, 1) := by decide +kernel
theorem dX6_run_78 : decode cX6_run 78 = .ok (.aload_n 0, 1) := by decide +kernel
theorem dX6_run_79 : decode cX6_run 79 = .ok (.getfield 36, 3) := by decide +kernel
theorem dX6_run_82 : decode cX6_run 82 = .ok (.invokevirtual 126, 3) := by decide +kernel
